theorem vp_updL_at {f : Nat → Int64} {v : Int64} : vp_updL f 0 v 0 = v := by simp [vp_updL]
abbrev rm_L_herb : Room := { frames := 7, cells := 2, slots := 13, locals := 131 }
theorem hy_L_herb : hYW yL_herb cL_herb 5 (some .int) [(0, 10, 13, 13), (0, 10, 17, 15)] 4 := ⟨qw_382, qw_25, by decide, by decide +kernel, qw_381⟩
set_option maxRecDepth 100000 in
set_option maxHeartbeats 4000000 in
theorem c_L_herb (Γ : hGam) (l : Launch) {M : hM} {x out : Nat} {S : hS} {fo : Nat → Int64} (e lm : Int32) (hl : l.stackTraces = false) (hL0 : ltP Γ M x S) (hI : sInv S) (hO : M out = some (true, aJ Γ 1 fo)) : hMetW Γ l yL_herb cL_herb 5 (some .int) [(0, 10, 13, 13), (0, 10, 17, 15)] rm_L_herb [.ref x, .int e, .int lm, .ref out] M (hpI (fun k M1 => k = nI (sHerb S e lm).1 ∧ ltP Γ M1 x (sHerb S e lm).2.2 ∧ (∃ g, M1 out = some (true, aJ Γ 1 g) ∧ ((sHerb S e lm).1 = 0 → g 0 = (sHerb S e lm).2.1.toInt64)) ∧ hKp noLw M M1)) := by
  obtain ⟨hl9, ol, rk, tr, _, _, _, _, _, _, _, _, _, hLq⟩ := id hL0
  have pL := hLq.1
  refine hMetW_of (by decide +kernel) (Nat.le_of_ble_eq_true rfl) (hCat_cons rfl (hCat_cons rfl (hCat_cons rfl (hCat_cons rfl hCat_nil)))) (fun k9 C T => ?_)
  show hG _ _ _ _ _ _ _ _ [some (.ref x), some (.int e), some (.int lm), some (.ref out), none] _
  refine g_aload_n (q := 1) C dL_herb_0 rfl (by first | exact hRef_r _ | exact hRef_o _ | exact hRef_n) rfl ?_
  refine g_iconst (q := 2) (0) C dL_herb_1 (by decide) rfl ?_
  refine g_aload_n (q := 3) C dL_herb_2 rfl (by first | exact hRef_r _ | exact hRef_o _ | exact hRef_n) rfl ?_
  refine g_iload_n (q := 4) C dL_herb_3 rfl rfl ?_
  refine g_iload_n (q := 5) C dL_herb_4 rfl rfl ?_
  refine gx_callVX (As := [.int e, .int lm]) C hy_X4_herb (c_X4_herb Γ l e lm hl hL0 hI) qw_385 (by exact pL) rfl ⟨Nat.le_of_ble_eq_true rfl, Nat.le_of_ble_eq_true rfl⟩ (Nat.le_of_ble_eq_true rfl) rfl ⟨(by decide), (by decide)⟩ dL_herb_5 rfl rfl (fun E hE => ?_) (fun r M1 hp => ?_)
  · obtain ⟨i, hi1, hi2⟩ := hE
    match i, hi1, hi2 with
    | 0, hi1, hi2 =>
      cases hi2
      refine g_catch (name := "java/lang/IllegalArgumentException") (hh := [(0, 10, 13, 13), (0, 10, 17, 15)]) C T [] (0, 10, 13, 13) [(0, 10, 17, 15)] rfl (fun z hz => absurd hz List.not_mem_nil) (by decide) (by decide) qw_383 qw_391 (fun q => ?_)
      refine g_astore4 (q := 15) C dL_herb_13 (by first | exact hRef_r _ | exact hRef_o _ | exact hRef_n) (by first | rfl | exact hNw_rf _) rfl ?_
      refine g_iconst (q := 16) (1) C dL_herb_15 (by decide) rfl ?_
      exact g_iret C dL_herb_16 (⟨by rw [hi1]; rfl, by rw [sHerb_ne (by rw [hi1]; exact Nat.succ_ne_zero _)]; exact hL0, ⟨fo, hO, fun q9 => by rw [hi1] at q9; cases q9⟩, hKp.rf⟩) (by decide) (by decide)
    | 1, hi1, hi2 =>
      cases hi2
      refine g_catch (name := "java/lang/IllegalStateException") (hh := [(0, 10, 13, 13), (0, 10, 17, 15)]) C T [(0, 10, 13, 13)] (0, 10, 17, 15) [] rfl (fun z hz => by simp only [List.mem_cons, List.not_mem_nil, or_false] at hz; rcases hz with rfl; exact ⟨by decide, _, qw_383, by decide⟩) (by decide) (by decide) qw_384 qw_408 (fun q => ?_)
      refine g_astore4 (q := 19) C dL_herb_17 (by first | exact hRef_r _ | exact hRef_o _ | exact hRef_n) (by first | rfl | exact hNw_rf _) rfl ?_
      refine g_iconst (q := 20) (2) C dL_herb_19 (by decide) rfl ?_
      exact g_iret C dL_herb_20 (⟨by rw [hi1]; rfl, by rw [sHerb_ne (by rw [hi1]; exact Nat.succ_ne_zero _)]; exact hL0, ⟨fo, hO, fun q9 => by rw [hi1] at q9; cases q9⟩, hKp.rf⟩) (by decide) (by decide)
    | n + 2, hi1, hi2 => cases hi2
  · obtain ⟨a, rfl, p1, p2, p3, p4⟩ := hp
    have hO1 := (p4 : hKp noCls _ _) _ _ _ hO rfl
    refine g_i2l (q := 9) C dL_herb_8 rfl ?_
    refine g_last (q := 10) C 0 rfl (by decide) (by decide) dL_herb_9 hO1 rfl ?_
    refine g_goto (t := 21) C dL_herb_10 (by decide) ?_
    refine g_iconst (q := 22) (0) C dL_herb_21 (by decide) rfl ?_
    exact g_iret C dL_herb_22 (⟨by rw [p1]; rfl, ltP.kp p3 (hKp.rf.put hO1 rfl : hKp noOut _ _) rfl rfl rfl rfl rfl rfl rfl, ⟨_, hU_s _ _ _, fun _ => by rw [← p2]; exact vp_updL_at⟩, ((p4 : hKp noCls _ _).wk noLw_c).tr ((hKp.rf.put hO1 rfl : hKp noOut _ _).wk noLw_o)⟩) (by decide) (by decide)
abbrev rm_L_hang : Room := { frames := 7, cells := 1, slots := 6, locals := 116 }
theorem hy_L_hang : hYW yL_hang cL_hang 7 (some .int) [(0, 14, 17, 21), (0, 14, 21, 13), (0, 14, 25, 15)] 6 := ⟨qw_503, qw_25, by decide, by decide +kernel, qw_502⟩
set_option maxRecDepth 100000 in
set_option maxHeartbeats 4000000 in
theorem c_L_hang (Γ : hGam) (l : Launch) {M : hM} {x out : Nat} {S : hS} {fo : Nat → Int64} (p q h w : Int32) (hl : l.stackTraces = false) (hL0 : ltP Γ M x S) (hI : sInv S) (hO : M out = some (true, aJ Γ 1 fo)) : hMetW Γ l yL_hang cL_hang 7 (some .int) [(0, 14, 17, 21), (0, 14, 21, 13), (0, 14, 25, 15)] rm_L_hang [.ref x, .int p, .int q, .int h, .int w, .ref out] M (hpI (fun k M1 => k = nI (sHang S p q h w).1 ∧ ltP Γ M1 x (sHang S p q h w).2.2 ∧ (∃ g, M1 out = some (true, aJ Γ 1 g) ∧ ((sHang S p q h w).1 = 0 → g 0 = (sHang S p q h w).2.1.toInt64)) ∧ hKp noLw M M1)) := by
  obtain ⟨hl9, ol, rk, tr, _, _, _, _, _, _, _, _, _, hLq⟩ := id hL0
  have pL := hLq.1
  refine hMetW_of (by decide +kernel) (Nat.le_of_ble_eq_true rfl) (hCat_cons rfl (hCat_cons rfl (hCat_cons rfl (hCat_cons rfl (hCat_cons rfl (hCat_cons rfl hCat_nil)))))) (fun k9 C T => ?_)
  show hG _ _ _ _ _ _ _ _ [some (.ref x), some (.int p), some (.int q), some (.int h), some (.int w), some (.ref out), none] _
  refine g_aload (q := 2) C dL_hang_0 rfl (by first | exact hRef_r _ | exact hRef_o _ | exact hRef_n) rfl ?_
  refine g_iconst (q := 3) (0) C dL_hang_2 (by decide) rfl ?_
  refine g_aload_n (q := 4) C dL_hang_3 rfl (by first | exact hRef_r _ | exact hRef_o _ | exact hRef_n) rfl ?_
  refine g_iload_n (q := 5) C dL_hang_4 rfl rfl ?_
  refine g_iload_n (q := 6) C dL_hang_5 rfl rfl ?_
  refine g_iload_n (q := 7) C dL_hang_6 rfl rfl ?_
  refine g_iload (q := 9) C dL_hang_7 rfl rfl ?_
  refine gx_callVX (As := [.int p, .int q, .int h, .int w]) C hy_X4_hang (c_X4_hang Γ l p q h w hl hL0 hI) qw_505 (by exact pL) rfl ⟨Nat.le_of_ble_eq_true rfl, Nat.le_of_ble_eq_true rfl⟩ (Nat.le_of_ble_eq_true rfl) rfl ⟨(by decide), (by decide)⟩ dL_hang_9 rfl rfl (fun E hE => ?_) (fun r M1 hp => ?_)
  · obtain ⟨i, hi1, hi2⟩ := hE
    match i, hi1, hi2 with
    | 0, hi1, hi2 =>
      cases hi2
      refine g_catch (name := "java/lang/IndexOutOfBoundsException") (hh := [(0, 14, 17, 21), (0, 14, 21, 13), (0, 14, 25, 15)]) C T [] (0, 14, 17, 21) [(0, 14, 21, 13), (0, 14, 25, 15)] rfl (fun z hz => absurd hz List.not_mem_nil) (by decide) (by decide) qw_504 qw_256 (fun q => ?_)
      refine g_astore6 (q := 19) C dL_hang_17 (by first | exact hRef_r _ | exact hRef_o _ | exact hRef_n) (by first | rfl | exact hNw_rf _) rfl ?_
      refine g_iconst (q := 20) (1) C dL_hang_19 (by decide) rfl ?_
      exact g_iret C dL_hang_20 (⟨by rw [hi1]; rfl, by rw [sHang_ne (by rw [hi1]; exact Nat.succ_ne_zero _)]; exact hL0, ⟨fo, hO, fun q9 => by rw [hi1] at q9; cases q9⟩, hKp.rf⟩) (by decide) (by decide)
    | 1, hi1, hi2 =>
      cases hi2
      refine g_catch (name := "java/lang/IllegalArgumentException") (hh := [(0, 14, 17, 21), (0, 14, 21, 13), (0, 14, 25, 15)]) C T [(0, 14, 17, 21)] (0, 14, 21, 13) [(0, 14, 25, 15)] rfl (fun z hz => by simp only [List.mem_cons, List.not_mem_nil, or_false] at hz; rcases hz with rfl; exact ⟨by decide, _, qw_504, by decide⟩) (by decide) (by decide) qw_383 qw_391 (fun q => ?_)
      refine g_astore6 (q := 23) C dL_hang_21 (by first | exact hRef_r _ | exact hRef_o _ | exact hRef_n) (by first | rfl | exact hNw_rf _) rfl ?_
      refine g_iconst (q := 24) (2) C dL_hang_23 (by decide) rfl ?_
      exact g_iret C dL_hang_24 (⟨by rw [hi1]; rfl, by rw [sHang_ne (by rw [hi1]; exact Nat.succ_ne_zero _)]; exact hL0, ⟨fo, hO, fun q9 => by rw [hi1] at q9; cases q9⟩, hKp.rf⟩) (by decide) (by decide)
    | 2, hi1, hi2 =>
      cases hi2
      refine g_catch (name := "java/lang/IllegalStateException") (hh := [(0, 14, 17, 21), (0, 14, 21, 13), (0, 14, 25, 15)]) C T [(0, 14, 17, 21), (0, 14, 21, 13)] (0, 14, 25, 15) [] rfl (fun z hz => by simp only [List.mem_cons, List.not_mem_nil, or_false] at hz; rcases hz with rfl | rfl; exact ⟨by decide, _, qw_504, by decide⟩; exact ⟨by decide, _, qw_383, by decide⟩) (by decide) (by decide) qw_384 qw_408 (fun q => ?_)
      refine g_astore6 (q := 27) C dL_hang_25 (by first | exact hRef_r _ | exact hRef_o _ | exact hRef_n) (by first | rfl | exact hNw_rf _) rfl ?_
      refine g_iconst (q := 28) (3) C dL_hang_27 (by decide) rfl ?_
      exact g_iret C dL_hang_28 (⟨by rw [hi1]; rfl, by rw [sHang_ne (by rw [hi1]; exact Nat.succ_ne_zero _)]; exact hL0, ⟨fo, hO, fun q9 => by rw [hi1] at q9; cases q9⟩, hKp.rf⟩) (by decide) (by decide)
    | n + 3, hi1, hi2 => cases hi2
  · obtain ⟨a, rfl, p1, p2, p3, p4⟩ := hp
    have hO1 := (p4 : hKp noCls _ _) _ _ _ hO rfl
    refine g_i2l (q := 13) C dL_hang_12 rfl ?_
    refine g_last (q := 14) C 0 rfl (by decide) (by decide) dL_hang_13 hO1 rfl ?_
    refine g_goto (t := 29) C dL_hang_14 (by decide) ?_
    refine g_iconst (q := 30) (0) C dL_hang_29 (by decide) rfl ?_
    exact g_iret C dL_hang_30 (⟨by rw [p1]; rfl, ltP.kp p3 (hKp.rf.put hO1 rfl : hKp noOut _ _) rfl rfl rfl rfl rfl rfl rfl, ⟨_, hU_s _ _ _, fun _ => by rw [← p2]; exact vp_updL_at⟩, ((p4 : hKp noCls _ _).wk noLw_c).tr ((hKp.rf.put hO1 rfl : hKp noOut _ _).wk noLw_o)⟩) (by decide) (by decide)
abbrev rm_L_take : Room := { frames := 7, cells := 1, slots := 6, locals := 114 }
theorem hy_L_take : hYW yL_take cL_take 5 (some .int) [(0, 10, 13, 21), (0, 10, 17, 15)] 4 := ⟨qw_515, qw_25, by decide, by decide +kernel, qw_514⟩
set_option maxRecDepth 100000 in
set_option maxHeartbeats 4000000 in
theorem c_L_take (Γ : hGam) (l : Launch) {M : hM} {x out : Nat} {S : hS} {fo : Nat → Int64} (p q : Int32) (hl : l.stackTraces = false) (hL0 : ltP Γ M x S) (hI : sInv S) (hO : M out = some (true, aJ Γ 1 fo)) : hMetW Γ l yL_take cL_take 5 (some .int) [(0, 10, 13, 21), (0, 10, 17, 15)] rm_L_take [.ref x, .int p, .int q, .ref out] M (hpI (fun k M1 => k = nI (sTake S p q).1 ∧ ltP Γ M1 x (sTake S p q).2.2 ∧ (∃ g, M1 out = some (true, aJ Γ 1 g) ∧ ((sTake S p q).1 = 0 → g 0 = (sTake S p q).2.1.toInt64)) ∧ hKp noLw M M1)) := by
  obtain ⟨hl9, ol, rk, tr, _, _, _, _, _, _, _, _, _, hLq⟩ := id hL0
  have pL := hLq.1
  refine hMetW_of (by decide +kernel) (Nat.le_of_ble_eq_true rfl) (hCat_cons rfl (hCat_cons rfl (hCat_cons rfl (hCat_cons rfl hCat_nil)))) (fun k9 C T => ?_)
  show hG _ _ _ _ _ _ _ _ [some (.ref x), some (.int p), some (.int q), some (.ref out), none] _
  refine g_aload_n (q := 1) C dL_take_0 rfl (by first | exact hRef_r _ | exact hRef_o _ | exact hRef_n) rfl ?_
  refine g_iconst (q := 2) (0) C dL_take_1 (by decide) rfl ?_
  refine g_aload_n (q := 3) C dL_take_2 rfl (by first | exact hRef_r _ | exact hRef_o _ | exact hRef_n) rfl ?_
  refine g_iload_n (q := 4) C dL_take_3 rfl rfl ?_
  refine g_iload_n (q := 5) C dL_take_4 rfl rfl ?_
  refine gx_callVX (As := [.int p, .int q]) C hy_X4_take (c_X4_take Γ l p q hl hL0 hI) qw_516 (by exact pL) rfl ⟨Nat.le_of_ble_eq_true rfl, Nat.le_of_ble_eq_true rfl⟩ (Nat.le_of_ble_eq_true rfl) rfl ⟨(by decide), (by decide)⟩ dL_take_5 rfl rfl (fun E hE => ?_) (fun r M1 hp => ?_)
  · obtain ⟨i, hi1, hi2⟩ := hE
    match i, hi1, hi2 with
    | 0, hi1, hi2 =>
      cases hi2
      refine g_catch (name := "java/lang/IndexOutOfBoundsException") (hh := [(0, 10, 13, 21), (0, 10, 17, 15)]) C T [] (0, 10, 13, 21) [(0, 10, 17, 15)] rfl (fun z hz => absurd hz List.not_mem_nil) (by decide) (by decide) qw_504 qw_256 (fun q => ?_)
      refine g_astore4 (q := 15) C dL_take_13 (by first | exact hRef_r _ | exact hRef_o _ | exact hRef_n) (by first | rfl | exact hNw_rf _) rfl ?_
      refine g_iconst (q := 16) (1) C dL_take_15 (by decide) rfl ?_
      exact g_iret C dL_take_16 (⟨by rw [hi1]; rfl, by rw [sTake_ne (by rw [hi1]; exact Nat.succ_ne_zero _)]; exact hL0, ⟨fo, hO, fun q9 => by rw [hi1] at q9; cases q9⟩, hKp.rf⟩) (by decide) (by decide)
    | 1, hi1, hi2 =>
      cases hi2
      refine g_catch (name := "java/lang/IllegalStateException") (hh := [(0, 10, 13, 21), (0, 10, 17, 15)]) C T [(0, 10, 13, 21)] (0, 10, 17, 15) [] rfl (fun z hz => by simp only [List.mem_cons, List.not_mem_nil, or_false] at hz; rcases hz with rfl; exact ⟨by decide, _, qw_504, by decide⟩) (by decide) (by decide) qw_384 qw_408 (fun q => ?_)
      refine g_astore4 (q := 19) C dL_take_17 (by first | exact hRef_r _ | exact hRef_o _ | exact hRef_n) (by first | rfl | exact hNw_rf _) rfl ?_
      refine g_iconst (q := 20) (2) C dL_take_19 (by decide) rfl ?_
      exact g_iret C dL_take_20 (⟨by rw [hi1]; rfl, by rw [sTake_ne (by rw [hi1]; exact Nat.succ_ne_zero _)]; exact hL0, ⟨fo, hO, fun q9 => by rw [hi1] at q9; cases q9⟩, hKp.rf⟩) (by decide) (by decide)
    | n + 2, hi1, hi2 => cases hi2
  · obtain ⟨a, rfl, p1, p2, p3, p4⟩ := hp
    have hO1 := (p4 : hKp noCls _ _) _ _ _ hO rfl
    refine g_i2l (q := 9) C dL_take_8 rfl ?_
    refine g_last (q := 10) C 0 rfl (by decide) (by decide) dL_take_9 hO1 rfl ?_
    refine g_goto (t := 21) C dL_take_10 (by decide) ?_
    refine g_iconst (q := 22) (0) C dL_take_21 (by decide) rfl ?_
    exact g_iret C dL_take_22 (⟨by rw [p1]; rfl, ltP.kp p3 (hKp.rf.put hO1 rfl : hKp noOut _ _) rfl rfl rfl rfl rfl rfl rfl, ⟨_, hU_s _ _ _, fun _ => by rw [← p2]; exact vp_updL_at⟩, ((p4 : hKp noCls _ _).wk noLw_c).tr ((hKp.rf.put hO1 rfl : hKp noOut _ _).wk noLw_o)⟩) (by decide) (by decide)
abbrev rm_L_move : Room := { frames := 7, cells := 1, slots := 6, locals := 116 }
theorem hy_L_move : hYW yL_move cL_move 7 (some .int) [(0, 14, 17, 21), (0, 14, 21, 15)] 6 := ⟨qw_525, qw_25, by decide, by decide +kernel, qw_524⟩
set_option maxRecDepth 100000 in
set_option maxHeartbeats 4000000 in
theorem c_L_move (Γ : hGam) (l : Launch) {M : hM} {x out : Nat} {S : hS} {fo : Nat → Int64} (p q p2 q2 : Int32) (hl : l.stackTraces = false) (hL0 : ltP Γ M x S) (hI : sInv S) (hO : M out = some (true, aJ Γ 1 fo)) : hMetW Γ l yL_move cL_move 7 (some .int) [(0, 14, 17, 21), (0, 14, 21, 15)] rm_L_move [.ref x, .int p, .int q, .int p2, .int q2, .ref out] M (hpI (fun k M1 => k = nI (sMove S p q p2 q2).1 ∧ ltP Γ M1 x (sMove S p q p2 q2).2.2 ∧ (∃ g, M1 out = some (true, aJ Γ 1 g) ∧ ((sMove S p q p2 q2).1 = 0 → g 0 = (sMove S p q p2 q2).2.1.toInt64)) ∧ hKp noLw M M1)) := by
  obtain ⟨hl9, ol, rk, tr, _, _, _, _, _, _, _, _, _, hLq⟩ := id hL0
  have pL := hLq.1
  refine hMetW_of (by decide +kernel) (Nat.le_of_ble_eq_true rfl) (hCat_cons rfl (hCat_cons rfl (hCat_cons rfl (hCat_cons rfl (hCat_cons rfl (hCat_cons rfl hCat_nil)))))) (fun k9 C T => ?_)
  show hG _ _ _ _ _ _ _ _ [some (.ref x), some (.int p), some (.int q), some (.int p2), some (.int q2), some (.ref out), none] _
  refine g_aload (q := 2) C dL_move_0 rfl (by first | exact hRef_r _ | exact hRef_o _ | exact hRef_n) rfl ?_
  refine g_iconst (q := 3) (0) C dL_move_2 (by decide) rfl ?_
  refine g_aload_n (q := 4) C dL_move_3 rfl (by first | exact hRef_r _ | exact hRef_o _ | exact hRef_n) rfl ?_
  refine g_iload_n (q := 5) C dL_move_4 rfl rfl ?_
  refine g_iload_n (q := 6) C dL_move_5 rfl rfl ?_
  refine g_iload_n (q := 7) C dL_move_6 rfl rfl ?_
  refine g_iload (q := 9) C dL_move_7 rfl rfl ?_
  refine gx_callVX (As := [.int p, .int q, .int p2, .int q2]) C hy_X4_move (c_X4_move Γ l p q p2 q2 hl hL0 hI) qw_526 (by exact pL) rfl ⟨Nat.le_of_ble_eq_true rfl, Nat.le_of_ble_eq_true rfl⟩ (Nat.le_of_ble_eq_true rfl) rfl ⟨(by decide), (by decide)⟩ dL_move_9 rfl rfl (fun E hE => ?_) (fun r M1 hp => ?_)
  · obtain ⟨i, hi1, hi2⟩ := hE
    match i, hi1, hi2 with
    | 0, hi1, hi2 =>
      cases hi2
      refine g_catch (name := "java/lang/IndexOutOfBoundsException") (hh := [(0, 14, 17, 21), (0, 14, 21, 15)]) C T [] (0, 14, 17, 21) [(0, 14, 21, 15)] rfl (fun z hz => absurd hz List.not_mem_nil) (by decide) (by decide) qw_504 qw_256 (fun q => ?_)
      refine g_astore6 (q := 19) C dL_move_17 (by first | exact hRef_r _ | exact hRef_o _ | exact hRef_n) (by first | rfl | exact hNw_rf _) rfl ?_
      refine g_iconst (q := 20) (1) C dL_move_19 (by decide) rfl ?_
      exact g_iret C dL_move_20 (⟨by rw [hi1]; rfl, by rw [sMove_ne (by rw [hi1]; exact Nat.succ_ne_zero _)]; exact hL0, ⟨fo, hO, fun q9 => by rw [hi1] at q9; cases q9⟩, hKp.rf⟩) (by decide) (by decide)
    | 1, hi1, hi2 =>
      cases hi2
      refine g_catch (name := "java/lang/IllegalStateException") (hh := [(0, 14, 17, 21), (0, 14, 21, 15)]) C T [(0, 14, 17, 21)] (0, 14, 21, 15) [] rfl (fun z hz => by simp only [List.mem_cons, List.not_mem_nil, or_false] at hz; rcases hz with rfl; exact ⟨by decide, _, qw_504, by decide⟩) (by decide) (by decide) qw_384 qw_408 (fun q => ?_)
      refine g_astore6 (q := 23) C dL_move_21 (by first | exact hRef_r _ | exact hRef_o _ | exact hRef_n) (by first | rfl | exact hNw_rf _) rfl ?_
      refine g_iconst (q := 24) (2) C dL_move_23 (by decide) rfl ?_
      exact g_iret C dL_move_24 (⟨by rw [hi1]; rfl, by rw [sMove_ne (by rw [hi1]; exact Nat.succ_ne_zero _)]; exact hL0, ⟨fo, hO, fun q9 => by rw [hi1] at q9; cases q9⟩, hKp.rf⟩) (by decide) (by decide)
    | n + 2, hi1, hi2 => cases hi2
  · obtain ⟨a, rfl, p1, p2, p3, p4⟩ := hp
    have hO1 := (p4 : hKp noCls _ _) _ _ _ hO rfl
    refine g_i2l (q := 13) C dL_move_12 rfl ?_
    refine g_last (q := 14) C 0 rfl (by decide) (by decide) dL_move_13 hO1 rfl ?_
    refine g_goto (t := 25) C dL_move_14 (by decide) ?_
    refine g_iconst (q := 26) (0) C dL_move_25 (by decide) rfl ?_
    exact g_iret C dL_move_26 (⟨by rw [p1]; rfl, ltP.kp p3 (hKp.rf.put hO1 rfl : hKp noOut _ _) rfl rfl rfl rfl rfl rfl rfl, ⟨_, hU_s _ _ _, fun _ => by rw [← p2]; exact vp_updL_at⟩, ((p4 : hKp noCls _ _).wk noLw_c).tr ((hKp.rf.put hO1 rfl : hKp noOut _ _).wk noLw_o)⟩) (by decide) (by decide)
abbrev rm_L_turn : Room := { frames := 7, cells := 1, slots := 6, locals := 111 }
theorem hy_L_turn : hYW yL_turn cL_turn 4 (some .int) [(0, 9, 12, 21)] 3 := ⟨qw_539, qw_25, by decide, by decide +kernel, qw_538⟩
set_option maxRecDepth 100000 in
set_option maxHeartbeats 4000000 in
theorem c_L_turn (Γ : hGam) (l : Launch) {M : hM} {x out : Nat} {S : hS} {fo : Nat → Int64} (p : Int32) (hl : l.stackTraces = false) (hL0 : ltP Γ M x S) (hI : sInv S) (hO : M out = some (true, aJ Γ 1 fo)) : hMetW Γ l yL_turn cL_turn 4 (some .int) [(0, 9, 12, 21)] rm_L_turn [.ref x, .int p, .ref out] M (hpI (fun k M1 => k = nI (sTurn S p).1 ∧ ltP Γ M1 x (sTurn S p).2.2 ∧ (∃ g, M1 out = some (true, aJ Γ 1 g) ∧ ((sTurn S p).1 = 0 → g 0 = (sTurn S p).2.1.toInt64)) ∧ hKp noLw M M1)) := by
  obtain ⟨hl9, ol, rk, tr, _, _, _, _, _, _, _, _, _, hLq⟩ := id hL0
  have pL := hLq.1
  refine hMetW_of (by decide +kernel) (Nat.le_of_ble_eq_true rfl) (hCat_cons rfl (hCat_cons rfl (hCat_cons rfl hCat_nil))) (fun k9 C T => ?_)
  show hG _ _ _ _ _ _ _ _ [some (.ref x), some (.int p), some (.ref out), none] _
  refine g_aload_n (q := 1) C dL_turn_0 rfl (by first | exact hRef_r _ | exact hRef_o _ | exact hRef_n) rfl ?_
  refine g_iconst (q := 2) (0) C dL_turn_1 (by decide) rfl ?_
  refine g_aload_n (q := 3) C dL_turn_2 rfl (by first | exact hRef_r _ | exact hRef_o _ | exact hRef_n) rfl ?_
  refine g_iload_n (q := 4) C dL_turn_3 rfl rfl ?_
  refine gx_callVX (As := [.int p]) C hy_X4_turn (c_X4_turn Γ l p hl hL0 hI) qw_540 (by exact pL) rfl ⟨Nat.le_of_ble_eq_true rfl, Nat.le_of_ble_eq_true rfl⟩ (Nat.le_of_ble_eq_true rfl) rfl ⟨(by decide), (by decide)⟩ dL_turn_4 rfl rfl (fun E hE => ?_) (fun r M1 hp => ?_)
  · obtain ⟨i, hi1, hi2⟩ := hE
    match i, hi1, hi2 with
    | 0, hi1, hi2 =>
      cases hi2
      refine g_catch (name := "java/lang/IndexOutOfBoundsException") (hh := [(0, 9, 12, 21)]) C T [] (0, 9, 12, 21) [] rfl (fun z hz => absurd hz List.not_mem_nil) (by decide) (by decide) qw_504 qw_256 (fun q => ?_)
      refine g_astore3 (q := 13) C dL_turn_12 (by first | exact hRef_r _ | exact hRef_o _ | exact hRef_n) (by first | rfl | exact hNw_rf _) rfl ?_
      refine g_iconst (q := 14) (1) C dL_turn_13 (by decide) rfl ?_
      exact g_iret C dL_turn_14 (⟨by rw [hi1]; rfl, by rw [sTurn_ne (by rw [hi1]; exact Nat.succ_ne_zero _)]; exact hL0, ⟨fo, hO, fun q9 => by rw [hi1] at q9; cases q9⟩, hKp.rf⟩) (by decide) (by decide)
    | n + 1, hi1, hi2 => cases hi2
  · obtain ⟨a, rfl, p1, p2, p3, p4⟩ := hp
    have hO1 := (p4 : hKp noCls _ _) _ _ _ hO rfl
    refine g_i2l (q := 8) C dL_turn_7 rfl ?_
    refine g_last (q := 9) C 0 rfl (by decide) (by decide) dL_turn_8 hO1 rfl ?_
    refine g_goto (t := 15) C dL_turn_9 (by decide) ?_
    refine g_iconst (q := 16) (0) C dL_turn_15 (by decide) rfl ?_
    exact g_iret C dL_turn_16 (⟨by rw [p1]; rfl, ltP.kp p3 (hKp.rf.put hO1 rfl : hKp noOut _ _) rfl rfl rfl rfl rfl rfl rfl, ⟨_, hU_s _ _ _, fun _ => by rw [← p2]; exact vp_updL_at⟩, ((p4 : hKp noCls _ _).wk noLw_c).tr ((hKp.rf.put hO1 rfl : hKp noOut _ _).wk noLw_o)⟩) (by decide) (by decide)
abbrev rm_L_setWindow : Room := { frames := 7, cells := 1, slots := 6, locals := 112 }
theorem hy_L_setWindow : hYW yL_setWindow cL_setWindow 4 (some .int) [(0, 9, 12, 13)] 3 := ⟨qw_555, qw_25, by decide, by decide +kernel, qw_554⟩
set_option maxRecDepth 100000 in
set_option maxHeartbeats 4000000 in
theorem c_L_setWindow (Γ : hGam) (l : Launch) {M : hM} {x out : Nat} {S : hS} {fo : Nat → Int64} (p : Int32) (hl : l.stackTraces = false) (hL0 : ltP Γ M x S) (hI : sInv S) (hO : M out = some (true, aJ Γ 1 fo)) : hMetW Γ l yL_setWindow cL_setWindow 4 (some .int) [(0, 9, 12, 13)] rm_L_setWindow [.ref x, .int p, .ref out] M (hpI (fun k M1 => k = nI (sSetW S p).1 ∧ ltP Γ M1 x (sSetW S p).2.2 ∧ (∃ g, M1 out = some (true, aJ Γ 1 g) ∧ ((sSetW S p).1 = 0 → g 0 = (sSetW S p).2.1.toInt64)) ∧ hKp noLw M M1)) := by
  obtain ⟨hl9, ol, rk, tr, _, _, _, _, _, _, _, _, _, hLq⟩ := id hL0
  have pL := hLq.1
  refine hMetW_of (by decide +kernel) (Nat.le_of_ble_eq_true rfl) (hCat_cons rfl (hCat_cons rfl (hCat_cons rfl hCat_nil))) (fun k9 C T => ?_)
  show hG _ _ _ _ _ _ _ _ [some (.ref x), some (.int p), some (.ref out), none] _
  refine g_aload_n (q := 1) C dL_setWindow_0 rfl (by first | exact hRef_r _ | exact hRef_o _ | exact hRef_n) rfl ?_
  refine g_iconst (q := 2) (0) C dL_setWindow_1 (by decide) rfl ?_
  refine g_aload_n (q := 3) C dL_setWindow_2 rfl (by first | exact hRef_r _ | exact hRef_o _ | exact hRef_n) rfl ?_
  refine g_iload_n (q := 4) C dL_setWindow_3 rfl rfl ?_
  refine gx_callVX (As := [.int p]) C hy_X4_setWindow (c_X4_setWindow Γ l p hl hL0 hI) qw_556 (by exact pL) rfl ⟨Nat.le_of_ble_eq_true rfl, Nat.le_of_ble_eq_true rfl⟩ (Nat.le_of_ble_eq_true rfl) rfl ⟨(by decide), (by decide)⟩ dL_setWindow_4 rfl rfl (fun E hE => ?_) (fun r M1 hp => ?_)
  · obtain ⟨i, hi1, hi2⟩ := hE
    match i, hi1, hi2 with
    | 0, hi1, hi2 =>
      cases hi2
      refine g_catch (name := "java/lang/IllegalArgumentException") (hh := [(0, 9, 12, 13)]) C T [] (0, 9, 12, 13) [] rfl (fun z hz => absurd hz List.not_mem_nil) (by decide) (by decide) qw_383 qw_391 (fun q => ?_)
      refine g_astore3 (q := 13) C dL_setWindow_12 (by first | exact hRef_r _ | exact hRef_o _ | exact hRef_n) (by first | rfl | exact hNw_rf _) rfl ?_
      refine g_iconst (q := 14) (1) C dL_setWindow_13 (by decide) rfl ?_
      exact g_iret C dL_setWindow_14 (⟨by rw [hi1]; rfl, by rw [sSetW_ne (by rw [hi1]; exact Nat.succ_ne_zero _)]; exact hL0, ⟨fo, hO, fun q9 => by rw [hi1] at q9; cases q9⟩, hKp.rf⟩) (by decide) (by decide)
    | n + 1, hi1, hi2 => cases hi2
  · obtain ⟨a, rfl, p1, p2, p3, p4⟩ := hp
    have hO1 := (p4 : hKp noCls _ _) _ _ _ hO rfl
    refine g_i2l (q := 8) C dL_setWindow_7 rfl ?_
    refine g_last (q := 9) C 0 rfl (by decide) (by decide) dL_setWindow_8 hO1 rfl ?_
    refine g_goto (t := 15) C dL_setWindow_9 (by decide) ?_
    refine g_iconst (q := 16) (0) C dL_setWindow_15 (by decide) rfl ?_
    exact g_iret C dL_setWindow_16 (⟨by rw [p1]; rfl, ltP.kp p3 (hKp.rf.put hO1 rfl : hKp noOut _ _) rfl rfl rfl rfl rfl rfl rfl, ⟨_, hU_s _ _ _, fun _ => by rw [← p2]; exact vp_updL_at⟩, ((p4 : hKp noCls _ _).wk noLw_c).tr ((hKp.rf.put hO1 rfl : hKp noOut _ _).wk noLw_o)⟩) (by decide) (by decide)
abbrev rm_L_order : Room := { frames := 7, cells := 2, slots := 14, locals := 133 }
theorem hy_L_order : hYW yL_order cL_order 6 (some .int) [(0, 12, 15, 21), (0, 12, 19, 13), (0, 12, 23, 15)] 5 := ⟨qw_563, qw_25, by decide, by decide +kernel, qw_562⟩
set_option maxRecDepth 100000 in
set_option maxHeartbeats 4000000 in
theorem c_L_order (Γ : hGam) (l : Launch) {M : hM} {x out : Nat} {S : hS} {fo : Nat → Int64} (h m w : Int32) (hl : l.stackTraces = false) (hL0 : ltP Γ M x S) (hI : sInv S) (hO : M out = some (true, aJ Γ 1 fo)) : hMetW Γ l yL_order cL_order 6 (some .int) [(0, 12, 15, 21), (0, 12, 19, 13), (0, 12, 23, 15)] rm_L_order [.ref x, .int h, .int m, .int w, .ref out] M (hpI (fun k M1 => k = nI (sOrd S h m w).1 ∧ ltP Γ M1 x (sOrd S h m w).2.2 ∧ (∃ g, M1 out = some (true, aJ Γ 1 g) ∧ ((sOrd S h m w).1 = 0 → g 0 = (sOrd S h m w).2.1.toInt64)) ∧ hKp noLw M M1)) := by
  obtain ⟨hl9, ol, rk, tr, _, _, _, _, _, _, _, _, _, hLq⟩ := id hL0
  have pL := hLq.1
  refine hMetW_of (by decide +kernel) (Nat.le_of_ble_eq_true rfl) (hCat_cons rfl (hCat_cons rfl (hCat_cons rfl (hCat_cons rfl (hCat_cons rfl hCat_nil))))) (fun k9 C T => ?_)
  show hG _ _ _ _ _ _ _ _ [some (.ref x), some (.int h), some (.int m), some (.int w), some (.ref out), none] _
  refine g_aload (q := 2) C dL_order_0 rfl (by first | exact hRef_r _ | exact hRef_o _ | exact hRef_n) rfl ?_
  refine g_iconst (q := 3) (0) C dL_order_2 (by decide) rfl ?_
  refine g_aload_n (q := 4) C dL_order_3 rfl (by first | exact hRef_r _ | exact hRef_o _ | exact hRef_n) rfl ?_
  refine g_iload_n (q := 5) C dL_order_4 rfl rfl ?_
  refine g_iload_n (q := 6) C dL_order_5 rfl rfl ?_
  refine g_iload_n (q := 7) C dL_order_6 rfl rfl ?_
  refine gx_callVX (As := [.int h, .int m, .int w]) C hy_X4_order (c_X4_order Γ l h m w hl hL0 hI) qw_564 (by exact pL) rfl ⟨Nat.le_of_ble_eq_true rfl, Nat.le_of_ble_eq_true rfl⟩ (Nat.le_of_ble_eq_true rfl) rfl ⟨(by decide), (by decide)⟩ dL_order_7 rfl rfl (fun E hE => ?_) (fun r M1 hp => ?_)
  · obtain ⟨i, hi1, hi2⟩ := hE
    match i, hi1, hi2 with
    | 0, hi1, hi2 =>
      cases hi2
      refine g_catch (name := "java/lang/IndexOutOfBoundsException") (hh := [(0, 12, 15, 21), (0, 12, 19, 13), (0, 12, 23, 15)]) C T [] (0, 12, 15, 21) [(0, 12, 19, 13), (0, 12, 23, 15)] rfl (fun z hz => absurd hz List.not_mem_nil) (by decide) (by decide) qw_504 qw_256 (fun q => ?_)
      refine g_astore5 (q := 17) C dL_order_15 (by first | exact hRef_r _ | exact hRef_o _ | exact hRef_n) (by first | rfl | exact hNw_rf _) rfl ?_
      refine g_iconst (q := 18) (1) C dL_order_17 (by decide) rfl ?_
      exact g_iret C dL_order_18 (⟨by rw [hi1]; rfl, by rw [sOrd_ne (by rw [hi1]; exact Nat.succ_ne_zero _)]; exact hL0, ⟨fo, hO, fun q9 => by rw [hi1] at q9; cases q9⟩, hKp.rf⟩) (by decide) (by decide)
    | 1, hi1, hi2 =>
      cases hi2
      refine g_catch (name := "java/lang/IllegalArgumentException") (hh := [(0, 12, 15, 21), (0, 12, 19, 13), (0, 12, 23, 15)]) C T [(0, 12, 15, 21)] (0, 12, 19, 13) [(0, 12, 23, 15)] rfl (fun z hz => by simp only [List.mem_cons, List.not_mem_nil, or_false] at hz; rcases hz with rfl; exact ⟨by decide, _, qw_504, by decide⟩) (by decide) (by decide) qw_383 qw_391 (fun q => ?_)
      refine g_astore5 (q := 21) C dL_order_19 (by first | exact hRef_r _ | exact hRef_o _ | exact hRef_n) (by first | rfl | exact hNw_rf _) rfl ?_
      refine g_iconst (q := 22) (2) C dL_order_21 (by decide) rfl ?_
      exact g_iret C dL_order_22 (⟨by rw [hi1]; rfl, by rw [sOrd_ne (by rw [hi1]; exact Nat.succ_ne_zero _)]; exact hL0, ⟨fo, hO, fun q9 => by rw [hi1] at q9; cases q9⟩, hKp.rf⟩) (by decide) (by decide)
    | 2, hi1, hi2 =>
      cases hi2
      refine g_catch (name := "java/lang/IllegalStateException") (hh := [(0, 12, 15, 21), (0, 12, 19, 13), (0, 12, 23, 15)]) C T [(0, 12, 15, 21), (0, 12, 19, 13)] (0, 12, 23, 15) [] rfl (fun z hz => by simp only [List.mem_cons, List.not_mem_nil, or_false] at hz; rcases hz with rfl | rfl; exact ⟨by decide, _, qw_504, by decide⟩; exact ⟨by decide, _, qw_383, by decide⟩) (by decide) (by decide) qw_384 qw_408 (fun q => ?_)
      refine g_astore5 (q := 25) C dL_order_23 (by first | exact hRef_r _ | exact hRef_o _ | exact hRef_n) (by first | rfl | exact hNw_rf _) rfl ?_
      refine g_iconst (q := 26) (3) C dL_order_25 (by decide) rfl ?_
      exact g_iret C dL_order_26 (⟨by rw [hi1]; rfl, by rw [sOrd_ne (by rw [hi1]; exact Nat.succ_ne_zero _)]; exact hL0, ⟨fo, hO, fun q9 => by rw [hi1] at q9; cases q9⟩, hKp.rf⟩) (by decide) (by decide)
    | n + 3, hi1, hi2 => cases hi2
  · obtain ⟨a, rfl, p1, p2, p3, p4⟩ := hp
    have hO1 := (p4 : hKp noCls _ _) _ _ _ hO rfl
    refine g_i2l (q := 11) C dL_order_10 rfl ?_
    refine g_last (q := 12) C 0 rfl (by decide) (by decide) dL_order_11 hO1 rfl ?_
    refine g_goto (t := 27) C dL_order_12 (by decide) ?_
    refine g_iconst (q := 28) (0) C dL_order_27 (by decide) rfl ?_
    exact g_iret C dL_order_28 (⟨by rw [p1]; rfl, ltP.kp p3 (hKp.rf.put hO1 rfl : hKp noOut _ _) rfl rfl rfl rfl rfl rfl rfl, ⟨_, hU_s _ _ _, fun _ => by rw [← p2]; exact vp_updL_at⟩, ((p4 : hKp noCls _ _).wk noLw_c).tr ((hKp.rf.put hO1 rfl : hKp noOut _ _).wk noLw_o)⟩) (by decide) (by decide)
abbrev rm_L_pass : Room := { frames := 7, cells := 1, slots := 6, locals := 134 }
theorem hy_L_pass : hYW yL_pass cL_pass 5 (some .int) [(0, 10, 13, 13)] 4 := ⟨qw_598, qw_25, by decide, by decide +kernel, qw_597⟩
set_option maxRecDepth 100000 in
set_option maxHeartbeats 4000000 in
theorem c_L_pass (Γ : hGam) (l : Launch) {M : hM} {x out : Nat} {S : hS} {fo : Nat → Int64} (d dmp : Int32) (hl : l.stackTraces = false) (hL0 : ltP Γ M x S) (hI : sInv S) (hO : M out = some (true, aJ Γ 1 fo)) : hMetW Γ l yL_pass cL_pass 5 (some .int) [(0, 10, 13, 13)] rm_L_pass [.ref x, .int d, .int dmp, .ref out] M (hpI (fun k M1 => k = nI (sPass S d dmp).1 ∧ ltP Γ M1 x (sPass S d dmp).2.2 ∧ (∃ g, M1 out = some (true, aJ Γ 1 g) ∧ ((sPass S d dmp).1 = 0 → g 0 = (sPass S d dmp).2.1.toInt64)) ∧ hKp noLw M M1)) := by
  obtain ⟨hl9, ol, rk, tr, _, _, _, _, _, _, _, _, _, hLq⟩ := id hL0
  have pL := hLq.1
  refine hMetW_of (by decide +kernel) (Nat.le_of_ble_eq_true rfl) (hCat_cons rfl (hCat_cons rfl (hCat_cons rfl (hCat_cons rfl hCat_nil)))) (fun k9 C T => ?_)
  show hG _ _ _ _ _ _ _ _ [some (.ref x), some (.int d), some (.int dmp), some (.ref out), none] _
  refine g_aload_n (q := 1) C dL_pass_0 rfl (by first | exact hRef_r _ | exact hRef_o _ | exact hRef_n) rfl ?_
  refine g_iconst (q := 2) (0) C dL_pass_1 (by decide) rfl ?_
  refine g_aload_n (q := 3) C dL_pass_2 rfl (by first | exact hRef_r _ | exact hRef_o _ | exact hRef_n) rfl ?_
  refine g_iload_n (q := 4) C dL_pass_3 rfl rfl ?_
  refine g_iload_n (q := 5) C dL_pass_4 rfl rfl ?_
  refine gx_callVX (As := [.int d, .int dmp]) C hy_X4_pass (c_X4_pass Γ l d dmp hl hL0 hI) qw_599 (by exact pL) rfl ⟨Nat.le_of_ble_eq_true rfl, Nat.le_of_ble_eq_true rfl⟩ (Nat.le_of_ble_eq_true rfl) rfl ⟨(by decide), (by decide)⟩ dL_pass_5 rfl rfl (fun E hE => ?_) (fun r M1 hp => ?_)
  · obtain ⟨i, hi1, hi2⟩ := hE
    match i, hi1, hi2 with
    | 0, hi1, hi2 =>
      cases hi2
      refine g_catch (name := "java/lang/IllegalArgumentException") (hh := [(0, 10, 13, 13)]) C T [] (0, 10, 13, 13) [] rfl (fun z hz => absurd hz List.not_mem_nil) (by decide) (by decide) qw_383 qw_391 (fun q => ?_)
      refine g_astore4 (q := 15) C dL_pass_13 (by first | exact hRef_r _ | exact hRef_o _ | exact hRef_n) (by first | rfl | exact hNw_rf _) rfl ?_
      refine g_iconst (q := 16) (1) C dL_pass_15 (by decide) rfl ?_
      exact g_iret C dL_pass_16 (⟨by rw [hi1]; rfl, by rw [sPass_ne (by rw [hi1]; exact Nat.succ_ne_zero _)]; exact hL0, ⟨fo, hO, fun q9 => by rw [hi1] at q9; cases q9⟩, hKp.rf⟩) (by decide) (by decide)
    | n + 1, hi1, hi2 => cases hi2
  · obtain ⟨a, rfl, p1, p2, p3, p4⟩ := hp
    have hO1 := (p4 : hKp noCls _ _) _ _ _ hO rfl
    refine g_i2l (q := 9) C dL_pass_8 rfl ?_
    refine g_last (q := 10) C 0 rfl (by decide) (by decide) dL_pass_9 hO1 rfl ?_
    refine g_goto (t := 17) C dL_pass_10 (by decide) ?_
    refine g_iconst (q := 18) (0) C dL_pass_17 (by decide) rfl ?_
    exact g_iret C dL_pass_18 (⟨by rw [p1]; rfl, ltP.kp p3 (hKp.rf.put hO1 rfl : hKp noOut _ _) rfl rfl rfl rfl rfl rfl rfl, ⟨_, hU_s _ _ _, fun _ => by rw [← p2]; exact vp_updL_at⟩, ((p4 : hKp noCls _ _).wk noLw_c).tr ((hKp.rf.put hO1 rfl : hKp noOut _ _).wk noLw_o)⟩) (by decide) (by decide)
abbrev rm_L_told : Room := { frames := 7, cells := 1, slots := 6, locals := 114 }
theorem hy_L_told : hYW yL_told cL_told 6 (some .int) [(0, 12, 15, 21)] 5 := ⟨qw_625, qw_25, by decide, by decide +kernel, qw_624⟩
set_option maxRecDepth 100000 in
set_option maxHeartbeats 4000000 in
theorem c_L_told (Γ : hGam) (l : Launch) {M : hM} {x out : Nat} {S : hS} {fo : Nat → Int64} (p q w : Int32) (hl : l.stackTraces = false) (hL0 : ltP Γ M x S) (hI : sInv S) (hO : M out = some (true, aJ Γ 1 fo)) : hMetW Γ l yL_told cL_told 6 (some .int) [(0, 12, 15, 21)] rm_L_told [.ref x, .int p, .int q, .int w, .ref out] M (hpI (fun k M1 => k = nI (sTold S p q w).1 ∧ ltP Γ M1 x S ∧ (∃ g, M1 out = some (true, aJ Γ 1 g) ∧ ((sTold S p q w).1 = 0 → g 0 = (sTold S p q w).2.toInt64)) ∧ hKp noLw M M1)) := by
  obtain ⟨hl9, ol, rk, tr, _, _, _, _, _, _, _, _, _, hLq⟩ := id hL0
  have pL := hLq.1
  refine hMetW_of (by decide +kernel) (Nat.le_of_ble_eq_true rfl) (hCat_cons rfl (hCat_cons rfl (hCat_cons rfl (hCat_cons rfl (hCat_cons rfl hCat_nil))))) (fun k9 C T => ?_)
  show hG _ _ _ _ _ _ _ _ [some (.ref x), some (.int p), some (.int q), some (.int w), some (.ref out), none] _
  refine g_aload (q := 2) C dL_told_0 rfl (by first | exact hRef_r _ | exact hRef_o _ | exact hRef_n) rfl ?_
  refine g_iconst (q := 3) (0) C dL_told_2 (by decide) rfl ?_
  refine g_aload_n (q := 4) C dL_told_3 rfl (by first | exact hRef_r _ | exact hRef_o _ | exact hRef_n) rfl ?_
  refine g_iload_n (q := 5) C dL_told_4 rfl rfl ?_
  refine g_iload_n (q := 6) C dL_told_5 rfl rfl ?_
  refine g_iload_n (q := 7) C dL_told_6 rfl rfl ?_
  refine gx_callVX (As := [.int p, .int q, .int w]) C hy_X4_told (c_X4_told Γ l p q w hl hL0 hI) qw_626 (by exact pL) rfl ⟨Nat.le_of_ble_eq_true rfl, Nat.le_of_ble_eq_true rfl⟩ (Nat.le_of_ble_eq_true rfl) rfl ⟨(by decide), (by decide)⟩ dL_told_7 rfl rfl (fun E hE => ?_) (fun r M1 hp => ?_)
  · obtain ⟨i, hi1, hi2⟩ := hE
    match i, hi1, hi2 with
    | 0, hi1, hi2 =>
      cases hi2
      refine g_catch (name := "java/lang/IndexOutOfBoundsException") (hh := [(0, 12, 15, 21)]) C T [] (0, 12, 15, 21) [] rfl (fun z hz => absurd hz List.not_mem_nil) (by decide) (by decide) qw_504 qw_256 (fun q => ?_)
      refine g_astore5 (q := 17) C dL_told_15 (by first | exact hRef_r _ | exact hRef_o _ | exact hRef_n) (by first | rfl | exact hNw_rf _) rfl ?_
      refine g_iconst (q := 18) (1) C dL_told_17 (by decide) rfl ?_
      exact g_iret C dL_told_18 (⟨by rw [hi1]; rfl, hL0, ⟨fo, hO, fun q9 => by rw [hi1] at q9; cases q9⟩, hKp.rf⟩) (by decide) (by decide)
    | n + 1, hi1, hi2 => cases hi2
  · obtain ⟨a, rfl, p1, p2, rfl⟩ := hp
    have hO1 := (hKp.rf : hKp noCls _ _) _ _ _ hO rfl
    refine g_i2l (q := 11) C dL_told_10 rfl ?_
    refine g_last (q := 12) C 0 rfl (by decide) (by decide) dL_told_11 hO1 rfl ?_
    refine g_goto (t := 19) C dL_told_12 (by decide) ?_
    refine g_iconst (q := 20) (0) C dL_told_19 (by decide) rfl ?_
    exact g_iret C dL_told_20 (⟨by rw [p1]; rfl, ltP.kp hL0 (hKp.rf.put hO1 rfl : hKp noOut _ _) rfl rfl rfl rfl rfl rfl rfl, ⟨_, hU_s _ _ _, fun _ => by rw [← p2]; exact vp_updL_at⟩, ((hKp.rf : hKp noCls _ _).wk noLw_c).tr ((hKp.rf.put hO1 rfl : hKp noOut _ _).wk noLw_o)⟩) (by decide) (by decide)
abbrev rm_L_about : Room := { frames := 7, cells := 1, slots := 6, locals := 113 }
theorem hy_L_about : hYW yL_about cL_about 5 (some .int) [(0, 10, 13, 21)] 4 := ⟨qw_629, qw_25, by decide, by decide +kernel, qw_628⟩
set_option maxRecDepth 100000 in
set_option maxHeartbeats 4000000 in
theorem c_L_about (Γ : hGam) (l : Launch) {M : hM} {x out : Nat} {S : hS} {fo : Nat → Int64} (h w : Int32) (hl : l.stackTraces = false) (hL0 : ltP Γ M x S) (hI : sInv S) (hO : M out = some (true, aJ Γ 1 fo)) : hMetW Γ l yL_about cL_about 5 (some .int) [(0, 10, 13, 21)] rm_L_about [.ref x, .int h, .int w, .ref out] M (hpI (fun k M1 => k = nI (sAbout S h w).1 ∧ ltP Γ M1 x S ∧ (∃ g, M1 out = some (true, aJ Γ 1 g) ∧ ((sAbout S h w).1 = 0 → g 0 = (sAbout S h w).2.toInt64)) ∧ hKp noLw M M1)) := by
  obtain ⟨hl9, ol, rk, tr, _, _, _, _, _, _, _, _, _, hLq⟩ := id hL0
  have pL := hLq.1
  refine hMetW_of (by decide +kernel) (Nat.le_of_ble_eq_true rfl) (hCat_cons rfl (hCat_cons rfl (hCat_cons rfl (hCat_cons rfl hCat_nil)))) (fun k9 C T => ?_)
  show hG _ _ _ _ _ _ _ _ [some (.ref x), some (.int h), some (.int w), some (.ref out), none] _
  refine g_aload_n (q := 1) C dL_about_0 rfl (by first | exact hRef_r _ | exact hRef_o _ | exact hRef_n) rfl ?_
  refine g_iconst (q := 2) (0) C dL_about_1 (by decide) rfl ?_
  refine g_aload_n (q := 3) C dL_about_2 rfl (by first | exact hRef_r _ | exact hRef_o _ | exact hRef_n) rfl ?_
  refine g_iload_n (q := 4) C dL_about_3 rfl rfl ?_
  refine g_iload_n (q := 5) C dL_about_4 rfl rfl ?_
  refine gx_callVX (As := [.int h, .int w]) C hy_X4_about (c_X4_about Γ l h w hl hL0 hI) qw_630 (by exact pL) rfl ⟨Nat.le_of_ble_eq_true rfl, Nat.le_of_ble_eq_true rfl⟩ (Nat.le_of_ble_eq_true rfl) rfl ⟨(by decide), (by decide)⟩ dL_about_5 rfl rfl (fun E hE => ?_) (fun r M1 hp => ?_)
  · obtain ⟨i, hi1, hi2⟩ := hE
    match i, hi1, hi2 with
    | 0, hi1, hi2 =>
      cases hi2
      refine g_catch (name := "java/lang/IndexOutOfBoundsException") (hh := [(0, 10, 13, 21)]) C T [] (0, 10, 13, 21) [] rfl (fun z hz => absurd hz List.not_mem_nil) (by decide) (by decide) qw_504 qw_256 (fun q => ?_)
      refine g_astore4 (q := 15) C dL_about_13 (by first | exact hRef_r _ | exact hRef_o _ | exact hRef_n) (by first | rfl | exact hNw_rf _) rfl ?_
      refine g_iconst (q := 16) (1) C dL_about_15 (by decide) rfl ?_
      exact g_iret C dL_about_16 (⟨by rw [hi1]; rfl, hL0, ⟨fo, hO, fun q9 => by rw [hi1] at q9; cases q9⟩, hKp.rf⟩) (by decide) (by decide)
    | n + 1, hi1, hi2 => cases hi2
  · obtain ⟨a, rfl, p1, p2, rfl⟩ := hp
    have hO1 := (hKp.rf : hKp noCls _ _) _ _ _ hO rfl
    refine g_i2l (q := 9) C dL_about_8 rfl ?_
    refine g_last (q := 10) C 0 rfl (by decide) (by decide) dL_about_9 hO1 rfl ?_
    refine g_goto (t := 17) C dL_about_10 (by decide) ?_
    refine g_iconst (q := 18) (0) C dL_about_17 (by decide) rfl ?_
    exact g_iret C dL_about_18 (⟨by rw [p1]; rfl, ltP.kp hL0 (hKp.rf.put hO1 rfl : hKp noOut _ _) rfl rfl rfl rfl rfl rfl rfl, ⟨_, hU_s _ _ _, fun _ => by rw [← p2]; exact vp_updL_at⟩, ((hKp.rf : hKp noCls _ _).wk noLw_c).tr ((hKp.rf.put hO1 rfl : hKp noOut _ _).wk noLw_o)⟩) (by decide) (by decide)
abbrev rm_L_asked : Room := { frames := 7, cells := 1, slots := 6, locals := 113 }
theorem hy_L_asked : hYW yL_asked cL_asked 5 (some .int) [(0, 10, 13, 21)] 4 := ⟨qw_633, qw_25, by decide, by decide +kernel, qw_632⟩
set_option maxRecDepth 100000 in
set_option maxHeartbeats 4000000 in
theorem c_L_asked (Γ : hGam) (l : Launch) {M : hM} {x out : Nat} {S : hS} {fo : Nat → Int64} (o w : Int32) (hl : l.stackTraces = false) (hL0 : ltP Γ M x S) (hI : sInv S) (hO : M out = some (true, aJ Γ 1 fo)) : hMetW Γ l yL_asked cL_asked 5 (some .int) [(0, 10, 13, 21)] rm_L_asked [.ref x, .int o, .int w, .ref out] M (hpI (fun k M1 => k = nI (sAsked S o w).1 ∧ ltP Γ M1 x S ∧ (∃ g, M1 out = some (true, aJ Γ 1 g) ∧ ((sAsked S o w).1 = 0 → g 0 = (sAsked S o w).2.toInt64)) ∧ hKp noLw M M1)) := by
  obtain ⟨hl9, ol, rk, tr, _, _, _, _, _, _, _, _, _, hLq⟩ := id hL0
  have pL := hLq.1
  refine hMetW_of (by decide +kernel) (Nat.le_of_ble_eq_true rfl) (hCat_cons rfl (hCat_cons rfl (hCat_cons rfl (hCat_cons rfl hCat_nil)))) (fun k9 C T => ?_)
  show hG _ _ _ _ _ _ _ _ [some (.ref x), some (.int o), some (.int w), some (.ref out), none] _
  refine g_aload_n (q := 1) C dL_asked_0 rfl (by first | exact hRef_r _ | exact hRef_o _ | exact hRef_n) rfl ?_
  refine g_iconst (q := 2) (0) C dL_asked_1 (by decide) rfl ?_
  refine g_aload_n (q := 3) C dL_asked_2 rfl (by first | exact hRef_r _ | exact hRef_o _ | exact hRef_n) rfl ?_
  refine g_iload_n (q := 4) C dL_asked_3 rfl rfl ?_
  refine g_iload_n (q := 5) C dL_asked_4 rfl rfl ?_
  refine gx_callVX (As := [.int o, .int w]) C hy_X4_asked (c_X4_asked Γ l o w hl hL0 hI) qw_634 (by exact pL) rfl ⟨Nat.le_of_ble_eq_true rfl, Nat.le_of_ble_eq_true rfl⟩ (Nat.le_of_ble_eq_true rfl) rfl ⟨(by decide), (by decide)⟩ dL_asked_5 rfl rfl (fun E hE => ?_) (fun r M1 hp => ?_)
  · obtain ⟨i, hi1, hi2⟩ := hE
    match i, hi1, hi2 with
    | 0, hi1, hi2 =>
      cases hi2
      refine g_catch (name := "java/lang/IndexOutOfBoundsException") (hh := [(0, 10, 13, 21)]) C T [] (0, 10, 13, 21) [] rfl (fun z hz => absurd hz List.not_mem_nil) (by decide) (by decide) qw_504 qw_256 (fun q => ?_)
      refine g_astore4 (q := 15) C dL_asked_13 (by first | exact hRef_r _ | exact hRef_o _ | exact hRef_n) (by first | rfl | exact hNw_rf _) rfl ?_
      refine g_iconst (q := 16) (1) C dL_asked_15 (by decide) rfl ?_
      exact g_iret C dL_asked_16 (⟨by rw [hi1]; rfl, hL0, ⟨fo, hO, fun q9 => by rw [hi1] at q9; cases q9⟩, hKp.rf⟩) (by decide) (by decide)
    | n + 1, hi1, hi2 => cases hi2
  · obtain ⟨a, rfl, p1, p2, rfl⟩ := hp
    have hO1 := (hKp.rf : hKp noCls _ _) _ _ _ hO rfl
    refine g_i2l (q := 9) C dL_asked_8 rfl ?_
    refine g_last (q := 10) C 0 rfl (by decide) (by decide) dL_asked_9 hO1 rfl ?_
    refine g_goto (t := 17) C dL_asked_10 (by decide) ?_
    refine g_iconst (q := 18) (0) C dL_asked_17 (by decide) rfl ?_
    exact g_iret C dL_asked_18 (⟨by rw [p1]; rfl, ltP.kp hL0 (hKp.rf.put hO1 rfl : hKp noOut _ _) rfl rfl rfl rfl rfl rfl rfl, ⟨_, hU_s _ _ _, fun _ => by rw [← p2]; exact vp_updL_at⟩, ((hKp.rf : hKp noCls _ _).wk noLw_c).tr ((hKp.rf.put hO1 rfl : hKp noOut _ _).wk noLw_o)⟩) (by decide) (by decide)
abbrev rm_L_count : Room := { frames := 7, cells := 1, slots := 6, locals := 111 }
theorem hy_L_count : hYW yL_count cL_count 4 (some .int) [(0, 9, 12, 21)] 3 := ⟨qw_637, qw_25, by decide, by decide +kernel, qw_636⟩
set_option maxRecDepth 100000 in
set_option maxHeartbeats 4000000 in
theorem c_L_count (Γ : hGam) (l : Launch) {M : hM} {x out : Nat} {S : hS} {fo : Nat → Int64} (w : Int32) (hl : l.stackTraces = false) (hL0 : ltP Γ M x S) (hI : sInv S) (hO : M out = some (true, aJ Γ 1 fo)) : hMetW Γ l yL_count cL_count 4 (some .int) [(0, 9, 12, 21)] rm_L_count [.ref x, .int w, .ref out] M (hpI (fun k M1 => k = nI (sCount S w).1 ∧ ltP Γ M1 x S ∧ (∃ g, M1 out = some (true, aJ Γ 1 g) ∧ ((sCount S w).1 = 0 → g 0 = (sCount S w).2.toInt64)) ∧ hKp noLw M M1)) := by
  obtain ⟨hl9, ol, rk, tr, _, _, _, _, _, _, _, _, _, hLq⟩ := id hL0
  have pL := hLq.1
  refine hMetW_of (by decide +kernel) (Nat.le_of_ble_eq_true rfl) (hCat_cons rfl (hCat_cons rfl (hCat_cons rfl hCat_nil))) (fun k9 C T => ?_)
  show hG _ _ _ _ _ _ _ _ [some (.ref x), some (.int w), some (.ref out), none] _
  refine g_aload_n (q := 1) C dL_count_0 rfl (by first | exact hRef_r _ | exact hRef_o _ | exact hRef_n) rfl ?_
  refine g_iconst (q := 2) (0) C dL_count_1 (by decide) rfl ?_
  refine g_aload_n (q := 3) C dL_count_2 rfl (by first | exact hRef_r _ | exact hRef_o _ | exact hRef_n) rfl ?_
  refine g_iload_n (q := 4) C dL_count_3 rfl rfl ?_
  refine gx_callVX (As := [.int w]) C hy_X4_count (c_X4_count Γ l w hl hL0 hI) qw_638 (by exact pL) rfl ⟨Nat.le_of_ble_eq_true rfl, Nat.le_of_ble_eq_true rfl⟩ (Nat.le_of_ble_eq_true rfl) rfl ⟨(by decide), (by decide)⟩ dL_count_4 rfl rfl (fun E hE => ?_) (fun r M1 hp => ?_)
  · obtain ⟨i, hi1, hi2⟩ := hE
    match i, hi1, hi2 with
    | 0, hi1, hi2 =>
      cases hi2
      refine g_catch (name := "java/lang/IndexOutOfBoundsException") (hh := [(0, 9, 12, 21)]) C T [] (0, 9, 12, 21) [] rfl (fun z hz => absurd hz List.not_mem_nil) (by decide) (by decide) qw_504 qw_256 (fun q => ?_)
      refine g_astore3 (q := 13) C dL_count_12 (by first | exact hRef_r _ | exact hRef_o _ | exact hRef_n) (by first | rfl | exact hNw_rf _) rfl ?_
      refine g_iconst (q := 14) (1) C dL_count_13 (by decide) rfl ?_
      exact g_iret C dL_count_14 (⟨by rw [hi1]; rfl, hL0, ⟨fo, hO, fun q9 => by rw [hi1] at q9; cases q9⟩, hKp.rf⟩) (by decide) (by decide)
    | n + 1, hi1, hi2 => cases hi2
  · obtain ⟨a, rfl, p1, p2, rfl⟩ := hp
    have hO1 := (hKp.rf : hKp noCls _ _) _ _ _ hO rfl
    refine g_i2l (q := 8) C dL_count_7 rfl ?_
    refine g_last (q := 9) C 0 rfl (by decide) (by decide) dL_count_8 hO1 rfl ?_
    refine g_goto (t := 15) C dL_count_9 (by decide) ?_
    refine g_iconst (q := 16) (0) C dL_count_15 (by decide) rfl ?_
    exact g_iret C dL_count_16 (⟨by rw [p1]; rfl, ltP.kp hL0 (hKp.rf.put hO1 rfl : hKp noOut _ _) rfl rfl rfl rfl rfl rfl rfl, ⟨_, hU_s _ _ _, fun _ => by rw [← p2]; exact vp_updL_at⟩, ((hKp.rf : hKp noCls _ _).wk noLw_c).tr ((hKp.rf.put hO1 rfl : hKp noOut _ _).wk noLw_o)⟩) (by decide) (by decide)
abbrev rm_L_until : Room := { frames := 7, cells := 1, slots := 6, locals := 138 }
theorem hy_L_until : hYW yL_until cL_until 7 (some .int) [(0, 14, 17, 21), (0, 14, 21, 13)] 6 := ⟨qw_641, qw_25, by decide, by decide +kernel, qw_640⟩
set_option maxRecDepth 100000 in
set_option maxHeartbeats 4000000 in
theorem c_L_until (Γ : hGam) (l : Launch) {M : hM} {x out : Nat} {S : hS} {fo : Nat → Int64} (p q w dmp : Int32) (hl : l.stackTraces = false) (hL0 : ltP Γ M x S) (hI : sInv S) (hO : M out = some (true, aJ Γ 1 fo)) : hMetW Γ l yL_until cL_until 7 (some .int) [(0, 14, 17, 21), (0, 14, 21, 13)] rm_L_until [.ref x, .int p, .int q, .int w, .int dmp, .ref out] M (hpI (fun k M1 => k = nI (sUntil S p q w dmp).1 ∧ ltP Γ M1 x S ∧ (∃ g, M1 out = some (true, aJ Γ 1 g) ∧ ((sUntil S p q w dmp).1 = 0 → g 0 = (sUntil S p q w dmp).2.toInt64)) ∧ hKp noLw M M1)) := by
  obtain ⟨hl9, ol, rk, tr, _, _, _, _, _, _, _, _, _, hLq⟩ := id hL0
  have pL := hLq.1
  refine hMetW_of (by decide +kernel) (Nat.le_of_ble_eq_true rfl) (hCat_cons rfl (hCat_cons rfl (hCat_cons rfl (hCat_cons rfl (hCat_cons rfl (hCat_cons rfl hCat_nil)))))) (fun k9 C T => ?_)
  show hG _ _ _ _ _ _ _ _ [some (.ref x), some (.int p), some (.int q), some (.int w), some (.int dmp), some (.ref out), none] _
  refine g_aload (q := 2) C dL_until_0 rfl (by first | exact hRef_r _ | exact hRef_o _ | exact hRef_n) rfl ?_
  refine g_iconst (q := 3) (0) C dL_until_2 (by decide) rfl ?_
  refine g_aload_n (q := 4) C dL_until_3 rfl (by first | exact hRef_r _ | exact hRef_o _ | exact hRef_n) rfl ?_
  refine g_iload_n (q := 5) C dL_until_4 rfl rfl ?_
  refine g_iload_n (q := 6) C dL_until_5 rfl rfl ?_
  refine g_iload_n (q := 7) C dL_until_6 rfl rfl ?_
  refine g_iload (q := 9) C dL_until_7 rfl rfl ?_
  refine gx_callVX (As := [.int p, .int q, .int w, .int dmp]) C hy_X4_until (c_X4_until Γ l p q w dmp hl hL0 hI) qw_642 (by exact pL) rfl ⟨Nat.le_of_ble_eq_true rfl, Nat.le_of_ble_eq_true rfl⟩ (Nat.le_of_ble_eq_true rfl) rfl ⟨(by decide), (by decide)⟩ dL_until_9 rfl rfl (fun E hE => ?_) (fun r M1 hp => ?_)
  · obtain ⟨i, hi1, hi2⟩ := hE
    match i, hi1, hi2 with
    | 0, hi1, hi2 =>
      cases hi2
      refine g_catch (name := "java/lang/IndexOutOfBoundsException") (hh := [(0, 14, 17, 21), (0, 14, 21, 13)]) C T [] (0, 14, 17, 21) [(0, 14, 21, 13)] rfl (fun z hz => absurd hz List.not_mem_nil) (by decide) (by decide) qw_504 qw_256 (fun q => ?_)
      refine g_astore6 (q := 19) C dL_until_17 (by first | exact hRef_r _ | exact hRef_o _ | exact hRef_n) (by first | rfl | exact hNw_rf _) rfl ?_
      refine g_iconst (q := 20) (1) C dL_until_19 (by decide) rfl ?_
      exact g_iret C dL_until_20 (⟨by rw [hi1]; rfl, hL0, ⟨fo, hO, fun q9 => by rw [hi1] at q9; cases q9⟩, hKp.rf⟩) (by decide) (by decide)
    | 1, hi1, hi2 =>
      cases hi2
      refine g_catch (name := "java/lang/IllegalArgumentException") (hh := [(0, 14, 17, 21), (0, 14, 21, 13)]) C T [(0, 14, 17, 21)] (0, 14, 21, 13) [] rfl (fun z hz => by simp only [List.mem_cons, List.not_mem_nil, or_false] at hz; rcases hz with rfl; exact ⟨by decide, _, qw_504, by decide⟩) (by decide) (by decide) qw_383 qw_391 (fun q => ?_)
      refine g_astore6 (q := 23) C dL_until_21 (by first | exact hRef_r _ | exact hRef_o _ | exact hRef_n) (by first | rfl | exact hNw_rf _) rfl ?_
      refine g_iconst (q := 24) (2) C dL_until_23 (by decide) rfl ?_
      exact g_iret C dL_until_24 (⟨by rw [hi1]; rfl, hL0, ⟨fo, hO, fun q9 => by rw [hi1] at q9; cases q9⟩, hKp.rf⟩) (by decide) (by decide)
    | n + 2, hi1, hi2 => cases hi2
  · obtain ⟨a, rfl, p1, p2, p3, p4⟩ := hp
    have hO1 := (p4 : hKp noCls _ _) _ _ _ hO rfl
    refine g_i2l (q := 13) C dL_until_12 rfl ?_
    refine g_last (q := 14) C 0 rfl (by decide) (by decide) dL_until_13 hO1 rfl ?_
    refine g_goto (t := 25) C dL_until_14 (by decide) ?_
    refine g_iconst (q := 26) (0) C dL_until_25 (by decide) rfl ?_
    exact g_iret C dL_until_26 (⟨by rw [p1]; rfl, ltP.kp p3 (hKp.rf.put hO1 rfl : hKp noOut _ _) rfl rfl rfl rfl rfl rfl rfl, ⟨_, hU_s _ _ _, fun _ => by rw [← p2]; exact vp_updL_at⟩, ((p4 : hKp noCls _ _).wk noLw_c).tr ((hKp.rf.put hO1 rfl : hKp noOut _ _).wk noLw_o)⟩) (by decide) (by decide)
abbrev rm_L_foresee : Room := { frames := 7, cells := 1, slots := 6, locals := 135 }
theorem hy_L_foresee : hYW yL_foresee cL_foresee 6 (some .int) [(0, 12, 15, 13), (0, 12, 19, 21)] 5 := ⟨qw_653, qw_25, by decide, by decide +kernel, qw_652⟩
set_option maxRecDepth 100000 in
set_option maxHeartbeats 4000000 in
theorem c_L_foresee (Γ : hGam) (l : Launch) {M : hM} {x out : Nat} {S : hS} {fo : Nat → Int64} (d dmp w : Int32) (hl : l.stackTraces = false) (hL0 : ltP Γ M x S) (hI : sInv S) (hO : M out = some (true, aJ Γ 1 fo)) : hMetW Γ l yL_foresee cL_foresee 6 (some .int) [(0, 12, 15, 13), (0, 12, 19, 21)] rm_L_foresee [.ref x, .int d, .int dmp, .int w, .ref out] M (hpI (fun k M1 => k = nI (sFore S d dmp w).1 ∧ ltP Γ M1 x S ∧ (∃ g, M1 out = some (true, aJ Γ 1 g) ∧ ((sFore S d dmp w).1 = 0 → g 0 = (sFore S d dmp w).2.toInt64)) ∧ hKp noLw M M1)) := by
  obtain ⟨hl9, ol, rk, tr, _, _, _, _, _, _, _, _, _, hLq⟩ := id hL0
  have pL := hLq.1
  refine hMetW_of (by decide +kernel) (Nat.le_of_ble_eq_true rfl) (hCat_cons rfl (hCat_cons rfl (hCat_cons rfl (hCat_cons rfl (hCat_cons rfl hCat_nil))))) (fun k9 C T => ?_)
  show hG _ _ _ _ _ _ _ _ [some (.ref x), some (.int d), some (.int dmp), some (.int w), some (.ref out), none] _
  refine g_aload (q := 2) C dL_foresee_0 rfl (by first | exact hRef_r _ | exact hRef_o _ | exact hRef_n) rfl ?_
  refine g_iconst (q := 3) (0) C dL_foresee_2 (by decide) rfl ?_
  refine g_aload_n (q := 4) C dL_foresee_3 rfl (by first | exact hRef_r _ | exact hRef_o _ | exact hRef_n) rfl ?_
  refine g_iload_n (q := 5) C dL_foresee_4 rfl rfl ?_
  refine g_iload_n (q := 6) C dL_foresee_5 rfl rfl ?_
  refine g_iload_n (q := 7) C dL_foresee_6 rfl rfl ?_
  refine gx_callVX (As := [.int d, .int dmp, .int w]) C hy_X4_foresee (c_X4_foresee Γ l d dmp w hl hL0 hI) qw_654 (by exact pL) rfl ⟨Nat.le_of_ble_eq_true rfl, Nat.le_of_ble_eq_true rfl⟩ (Nat.le_of_ble_eq_true rfl) rfl ⟨(by decide), (by decide)⟩ dL_foresee_7 rfl rfl (fun E hE => ?_) (fun r M1 hp => ?_)
  · obtain ⟨i, hi1, hi2⟩ := hE
    match i, hi1, hi2 with
    | 0, hi1, hi2 =>
      cases hi2
      refine g_catch (name := "java/lang/IllegalArgumentException") (hh := [(0, 12, 15, 13), (0, 12, 19, 21)]) C T [] (0, 12, 15, 13) [(0, 12, 19, 21)] rfl (fun z hz => absurd hz List.not_mem_nil) (by decide) (by decide) qw_383 qw_391 (fun q => ?_)
      refine g_astore5 (q := 17) C dL_foresee_15 (by first | exact hRef_r _ | exact hRef_o _ | exact hRef_n) (by first | rfl | exact hNw_rf _) rfl ?_
      refine g_iconst (q := 18) (1) C dL_foresee_17 (by decide) rfl ?_
      exact g_iret C dL_foresee_18 (⟨by rw [hi1]; rfl, hL0, ⟨fo, hO, fun q9 => by rw [hi1] at q9; cases q9⟩, hKp.rf⟩) (by decide) (by decide)
    | 1, hi1, hi2 =>
      cases hi2
      refine g_catch (name := "java/lang/IndexOutOfBoundsException") (hh := [(0, 12, 15, 13), (0, 12, 19, 21)]) C T [(0, 12, 15, 13)] (0, 12, 19, 21) [] rfl (fun z hz => by simp only [List.mem_cons, List.not_mem_nil, or_false] at hz; rcases hz with rfl; exact ⟨by decide, _, qw_383, by decide⟩) (by decide) (by decide) qw_504 qw_256 (fun q => ?_)
      refine g_astore5 (q := 21) C dL_foresee_19 (by first | exact hRef_r _ | exact hRef_o _ | exact hRef_n) (by first | rfl | exact hNw_rf _) rfl ?_
      refine g_iconst (q := 22) (2) C dL_foresee_21 (by decide) rfl ?_
      exact g_iret C dL_foresee_22 (⟨by rw [hi1]; rfl, hL0, ⟨fo, hO, fun q9 => by rw [hi1] at q9; cases q9⟩, hKp.rf⟩) (by decide) (by decide)
    | n + 2, hi1, hi2 => cases hi2
  · obtain ⟨a, rfl, p1, p2, p3, p4⟩ := hp
    have hO1 := (p4 : hKp noCls _ _) _ _ _ hO rfl
    refine g_i2l (q := 11) C dL_foresee_10 rfl ?_
    refine g_last (q := 12) C 0 rfl (by decide) (by decide) dL_foresee_11 hO1 rfl ?_
    refine g_goto (t := 23) C dL_foresee_12 (by decide) ?_
    refine g_iconst (q := 24) (0) C dL_foresee_23 (by decide) rfl ?_
    exact g_iret C dL_foresee_24 (⟨by rw [p1]; rfl, ltP.kp p3 (hKp.rf.put hO1 rfl : hKp noOut _ _) rfl rfl rfl rfl rfl rfl rfl, ⟨_, hU_s _ _ _, fun _ => by rw [← p2]; exact vp_updL_at⟩, ((p4 : hKp noCls _ _).wk noLw_c).tr ((hKp.rf.put hO1 rfl : hKp noOut _ _).wk noLw_o)⟩) (by decide) (by decide)
abbrev rm_L_advise : Room := { frames := 7, cells := 1, slots := 6, locals := 160 }
theorem hy_L_advise : hYW yL_advise cL_advise 5 (some .int) [(0, 10, 13, 13)] 4 := ⟨qw_661, qw_25, by decide, by decide +kernel, qw_660⟩
set_option maxRecDepth 100000 in
set_option maxHeartbeats 4000000 in
theorem c_L_advise (Γ : hGam) (l : Launch) {M : hM} {x out : Nat} {S : hS} {fo : Nat → Int64} (d dmp : Int32) (hl : l.stackTraces = false) (hL0 : ltP Γ M x S) (hI : sInv S) (hO : M out = some (true, aJ Γ 1 fo)) : hMetW Γ l yL_advise cL_advise 5 (some .int) [(0, 10, 13, 13)] rm_L_advise [.ref x, .int d, .int dmp, .ref out] M (hpI (fun k M1 => k = nI (sAdv S d dmp).1 ∧ ltP Γ M1 x S ∧ (∃ g, M1 out = some (true, aJ Γ 1 g) ∧ ((sAdv S d dmp).1 = 0 → g 0 = (sAdv S d dmp).2.toInt64)) ∧ hKp noLw M M1)) := by
  obtain ⟨hl9, ol, rk, tr, _, _, _, _, _, _, _, _, _, hLq⟩ := id hL0
  have pL := hLq.1
  refine hMetW_of (by decide +kernel) (Nat.le_of_ble_eq_true rfl) (hCat_cons rfl (hCat_cons rfl (hCat_cons rfl (hCat_cons rfl hCat_nil)))) (fun k9 C T => ?_)
  show hG _ _ _ _ _ _ _ _ [some (.ref x), some (.int d), some (.int dmp), some (.ref out), none] _
  refine g_aload_n (q := 1) C dL_advise_0 rfl (by first | exact hRef_r _ | exact hRef_o _ | exact hRef_n) rfl ?_
  refine g_iconst (q := 2) (0) C dL_advise_1 (by decide) rfl ?_
  refine g_aload_n (q := 3) C dL_advise_2 rfl (by first | exact hRef_r _ | exact hRef_o _ | exact hRef_n) rfl ?_
  refine g_iload_n (q := 4) C dL_advise_3 rfl rfl ?_
  refine g_iload_n (q := 5) C dL_advise_4 rfl rfl ?_
  refine gx_callVX (As := [.int d, .int dmp]) C hy_X4_advise (c_X4_advise Γ l d dmp hl hL0 hI) qw_662 (by exact pL) rfl ⟨Nat.le_of_ble_eq_true rfl, Nat.le_of_ble_eq_true rfl⟩ (Nat.le_of_ble_eq_true rfl) rfl ⟨(by decide), (by decide)⟩ dL_advise_5 rfl rfl (fun E hE => ?_) (fun r M1 hp => ?_)
  · obtain ⟨i, hi1, hi2⟩ := hE
    match i, hi1, hi2 with
    | 0, hi1, hi2 =>
      cases hi2
      refine g_catch (name := "java/lang/IllegalArgumentException") (hh := [(0, 10, 13, 13)]) C T [] (0, 10, 13, 13) [] rfl (fun z hz => absurd hz List.not_mem_nil) (by decide) (by decide) qw_383 qw_391 (fun q => ?_)
      refine g_astore4 (q := 15) C dL_advise_13 (by first | exact hRef_r _ | exact hRef_o _ | exact hRef_n) (by first | rfl | exact hNw_rf _) rfl ?_
      refine g_iconst (q := 16) (1) C dL_advise_15 (by decide) rfl ?_
      exact g_iret C dL_advise_16 (⟨by rw [hi1]; rfl, hL0, ⟨fo, hO, fun q9 => by rw [hi1] at q9; cases q9⟩, hKp.rf⟩) (by decide) (by decide)
    | n + 1, hi1, hi2 => cases hi2
  · obtain ⟨a, rfl, p1, p2, p3, p4⟩ := hp
    have hO1 := (p4 : hKp noCls _ _) _ _ _ hO rfl
    refine g_i2l (q := 9) C dL_advise_8 rfl ?_
    refine g_last (q := 10) C 0 rfl (by decide) (by decide) dL_advise_9 hO1 rfl ?_
    refine g_goto (t := 17) C dL_advise_10 (by decide) ?_
    refine g_iconst (q := 18) (0) C dL_advise_17 (by decide) rfl ?_
    exact g_iret C dL_advise_18 (⟨by rw [p1]; rfl, ltP.kp p3 (hKp.rf.put hO1 rfl : hKp noOut _ _) rfl rfl rfl rfl rfl rfl rfl, ⟨_, hU_s _ _ _, fun _ => by rw [← p2]; exact vp_updL_at⟩, ((p4 : hKp noCls _ _).wk noLw_c).tr ((hKp.rf.put hO1 rfl : hKp noOut _ _).wk noLw_o)⟩) (by decide) (by decide)
