/-! ===== the simulation: turning, a new one ===== -/
def noBun : kK → Bool := fun n => !(n.1 == 10 && n.2 == 5)
theorem noSim_noBun : ∀ n, noSim n = true → noBun n = true := fun n h => by
  unfold noSim at h
  unfold noBun
  revert h
  cases h1 : (n.1 == 10) <;> cases h2 : (n.2 == 5) <;> simp
theorem kd_bun (Γ : hGam) (f : Nat → Int32) : noBun (kd (aI Γ 5 f)) = false := rfl
theorem vTurn_lo {t : Nat} {B : Nat → hB} : vMix (t * 8) (vTurn t B) B = B := by
  funext i
  unfold vMix
  by_cases h : i < t * 8
  · rw [if_pos h]
    exact if_neg (fun q => by omega)
  · rw [if_neg h]
theorem vTurn_hi {t : Nat} {B : Nat → hB} : vMix (t * 8 + 8) (vTurn t B) B = vTurn t B := by
  funext i
  unfold vMix
  by_cases h : i < t * 8 + 8
  · rw [if_pos h]
  · rw [if_neg h]
    exact (if_neg (fun q => by omega)).symm
theorem smQ.bun {Γ : hGam} {M M1 : hM} {x : Nat} {S : hS} {ha oa la : Nat} {ob rx : Nat → Nat} {bd : Nat → Option Nat} (h : smQ Γ M x S ha oa la ob rx bd) {B1 : Nat → hB} (hk : hKp noBun M M1) (hn : sN S ≤ 6) (ho : sO S ≤ 6) (hB : smB Γ M1 bd B1) : smQ Γ M1 x (setB S B1) ha oa la ob rx bd :=
  ⟨hk _ _ _ h.1 rfl, h.2.1.kp hk rfl rfl, h.2.2.1.kp hk rfl rfl, h.2.2.2.1.kp hk rfl rfl, hB⟩
theorem smC.swp {j : Nat} {b : hB} {f : Nat → Int32} (h : smC j b f) : smC j (bSwp b) (upd (upd f 1 (f 2)) 2 (f 1)) := by
  obtain ⟨h0, h1, h2, h3, h4⟩ := h
  refine ⟨?_, ?_, ?_, ?_, ?_⟩
  · rw [pk_un (by decide), pk_un (by decide)]; exact h0
  · rw [pk_un (by decide), pk_us]; exact h2
  · rw [pk_us]; exact h1
  · rw [pk_un (by decide), pk_un (by decide)]; exact h3
  · rw [pk_un (by decide), pk_un (by decide)]; exact h4
set_option maxRecDepth 100000 in
set_option maxHeartbeats 4000000 in
theorem c_X5_turn (Γ : hGam) (l : Launch) {M : hM} {x : Nat} {S : hS} {t : Nat} (hS : smP Γ M x S) (ht : t < 5) (hn6 : sN S ≤ 6) (ho6 : sO S ≤ 6) : hMet Γ l yX5_turn cX5_turn 7 none rm_X5_turn [.ref x, .int (nI t)] M (hpV (fun M1 => smP Γ M1 x (setB S (vTurn t (sB S))) ∧ hKp noSim M M1)) := by
  obtain ⟨ha, oa, la, ob, rx, bd, hQ⟩ := hS
  obtain ⟨pX, pH, pO, pL, pB⟩ := id hQ
  obtain ⟨lf, pLf, pRow⟩ := pL.row
  obtain ⟨hr1, rf, hr2, hr3⟩ := pRow t ht
  refine hMet_of (by decide +kernel) (Nat.le_of_ble_eq_true rfl) (hCat_cons rfl (hCat_cons rfl hCat_nil)) (fun k9 C => ?_)
  show hG _ _ _ _ _ _ _ _ [some (.ref x), some (.int (nI t)), none, none, none, none, none] _
  refine g_aload_n (q := 1) C dX5_turn_0 rfl (by first | exact hRef_r _ | exact hRef_o _ | exact hRef_n) rfl ?_
  refine g_get (q := 4) C hcl_X5 5 (by decide) qw_644 rfl dX5_turn_1 (by exact pX) rfl rfl ?_
  refine g_iload_n (q := 5) C dX5_turn_4 rfl rfl ?_
  refine g_aaldRR (q := 6) C t rfl ht (by decide) dX5_turn_5 (pLf) hr1 rfl ?_
  refine g_astore2 (q := 7) C dX5_turn_6 (by first | exact hRef_r _ | exact hRef_o _ | exact hRef_n) (by first | rfl | exact hNw_rf _) rfl ?_
  refine g_aload_n (q := 8) C dX5_turn_7 rfl (by first | exact hRef_r _ | exact hRef_o _ | exact hRef_n) rfl ?_
  refine g_alenR (q := 9) C dX5_turn_8 (hr2) rfl ?_
  refine g_istore3 (q := 10) C dX5_turn_9 (by first | rfl | exact hNw_rf _) rfl ?_
  refine g_iconst (q := 11) (0) C dX5_turn_10 (by decide) rfl ?_
  refine g_istore4 (q := 13) C dX5_turn_11 (by first | rfl | exact hNw_rf _) rfl ?_
  refine h_loopU (P := fun h => ∀ (M1 : hM) (o5 o6 : Option Value), smB Γ M1 bd (vMix (t * 8 + h) (vTurn t (sB S)) (sB S)) → hKp noBun M M1 → hG Γ k9 _ _ M1 0 0 13 [some (.ref x), some (.int (nI t)), some (.ref (rx t)), some (.int (nI 8)), some (.int (nI h)), o5, o6] []) (N := 8) (fun h hh ih => ?_) 0 (Nat.zero_le _) M _ _ (by rw [Nat.add_zero, vTurn_lo]; exact pB) hKp.rf
  intro M1 o5 o6 hB1 hk1
  refine g_iload (q := 15) C dX5_turn_13 rfl rfl ?_
  refine g_iload_n (q := 16) C dX5_turn_15 rfl rfl ?_
  refine g_icmp_ge (t := 59) (q := 19) C dX5_turn_16 (by decide) rfl (fun c_16 => ?_) (fun c_16 => ?_)
  · skip
    have hN := nI_ge_eq hh (by decide) c_16
    subst hN
    rw [vTurn_hi] at hB1
    exact g_vret C dX5_turn_59 (⟨(hQ.bun hk1 hn6 ho6 hB1).P, hk1.wk noSim_noBun⟩) (Nat.zero_le _) (Nat.zero_le _)
  · skip
    have hlt := nI_nge_lt hh (by decide) c_16
    have hix : t * 8 + h < 40 := by omega
    refine g_aload_n (q := 20) C dX5_turn_19 rfl (by first | exact hRef_r _ | exact hRef_o _ | exact hRef_n) rfl ?_
    refine g_iload (q := 22) C dX5_turn_20 rfl rfl ?_
    refine g_aaldR (q := 23) C h rfl hlt (by omega) dX5_turn_22 (hk1 _ _ _ hr2 rfl) (congrArg va_rf (hr3 h hlt)) rfl ?_
    refine g_astore5 (q := 25) C dX5_turn_23 (by first | exact hRef_r _ | exact hRef_o _ | exact hRef_n) (by first | rfl | exact hNw_rf _) rfl ?_
    refine g_aload (q := 27) C dX5_turn_25 rfl (by first | exact hRef_r _ | exact hRef_o _ | exact hRef_n) rfl ?_
    refine g_ifnonnull (t := 33) (q := 30) C dX5_turn_27 (by decide) rfl (fun y_27 e_27 => ?_) (fun e_27 => ?_)
    · skip
      obtain ⟨j2, f9, tk2, hm2, q9⟩ := hB1.of hix e_27
      rw [vMix_at] at tk2 q9
      have tk : (sB S (t * 8 + h)).1.isSome = true := by rw [tk2]; rfl
      rw [e_27]
      refine g_aload (q := 35) C dX5_turn_33 rfl (by first | exact hRef_r _ | exact hRef_o _ | exact hRef_n) rfl ?_
      refine g_iconst (q := 36) (1) C dX5_turn_35 (by decide) rfl ?_
      refine g_iald (q := 37) C 1 rfl (by omega) (by omega) dX5_turn_36 (hm2) rfl ?_
      refine g_istore6 (q := 39) C dX5_turn_37 (by first | rfl | exact hNw_rf _) rfl ?_
      refine g_aload (q := 41) C dX5_turn_39 rfl (by first | exact hRef_r _ | exact hRef_o _ | exact hRef_n) rfl ?_
      refine g_iconst (q := 42) (1) C dX5_turn_41 (by decide) rfl ?_
      refine g_aload (q := 44) C dX5_turn_42 rfl (by first | exact hRef_r _ | exact hRef_o _ | exact hRef_n) rfl ?_
      refine g_iconst (q := 45) (2) C dX5_turn_44 (by decide) rfl ?_
      refine g_iald (q := 46) C 2 rfl (by omega) (by omega) dX5_turn_45 (hm2) rfl ?_
      refine g_iast (q := 47) C 1 rfl (by decide) (by decide) dX5_turn_46 (hm2) rfl ?_
      refine g_aload (q := 49) C dX5_turn_47 rfl (by first | exact hRef_r _ | exact hRef_o _ | exact hRef_n) rfl ?_
      refine g_iconst (q := 50) (2) C dX5_turn_49 (by decide) rfl ?_
      refine g_iload (q := 52) C dX5_turn_50 rfl rfl ?_
      refine g_iast (q := 53) C 2 rfl (by decide) (by decide) dX5_turn_52 (hU_s _ _ _) rfl ?_
      rw [hU_2]
      refine g_iinc4 (q := 56) (1) C dX5_turn_53 (by decide) (by first | rfl | exact hNw_rf _) rfl ?_
      refine g_goto (t := 13) C dX5_turn_56 (by decide) ?_
      rw [nI_1]
      refine ih hlt _ _ _ ?_ (hk1.put hm2 rfl)
      rw [show t * 8 + (h + 1) = (t * 8 + h) + 1 from rfl, ← vMix_s]
      have hv : vTurn t (sB S) (t * 8 + h) = bSwp (sB S (t * 8 + h)) := if_pos ⟨by omega, tk⟩
      rw [hv]
      exact hB1.put hix e_27 tk2 q9.swp
    · skip
      skip
      refine g_goto (t := 53) C dX5_turn_30 (by decide) ?_
      refine g_iinc4 (q := 56) (1) C dX5_turn_53 (by decide) (by first | rfl | exact hNw_rf _) rfl ?_
      refine g_goto (t := 13) C dX5_turn_56 (by decide) ?_
      rw [nI_1]
      have nt : (sB S (t * 8 + h)).1.isSome = false := by rw [pB.2.1 _ hix e_27]; rfl
      refine ih hlt M1 _ _ ?_ hk1
      rw [show t * 8 + (h + 1) = (t * 8 + h) + 1 from rfl, vMix_k (show vTurn t (sB S) (t * 8 + h) = sB S (t * 8 + h) from if_neg (fun q => by rw [nt] at q; exact absurd q.2 (by decide)))]
      exact hB1
def noSx : kK → Bool := fun n => !(n.1 == 6)
theorem noSim_noSx : ∀ n, noSim n = true → noSx n = true := fun n h => by
  unfold noSim at h
  unfold noSx
  revert h
  cases h1 : (n.1 == 6) <;> simp
set_option maxRecDepth 100000 in
set_option maxHeartbeats 4000000 in
theorem c_X5_init (Γ : hGam) (l : Launch) {M : hM} {x : Nat} (h0 : M x = some (true, oSim 0 0 0 none none none)) : hMet Γ l yX5_init cX5_init 1 none rm_X5_init [.ref x] M (hpV (fun M1 => smP Γ M1 x s0 ∧ hKp noSim M M1)) := by
  refine hMet_of (by decide +kernel) (Nat.le_of_ble_eq_true rfl) (hCat_cons rfl hCat_nil) (fun k9 C => ?_)
  show hG _ _ _ _ _ _ _ _ [some (.ref x)] _
  refine g_aload_n (q := 1) C dX5_init_0 rfl (by first | exact hRef_r _ | exact hRef_o _ | exact hRef_n) rfl ?_
  refine g_objInit (q := 4) C qw_633 qw_37 qw_38 rfl dX5_init_1 (by decide) (by decide) rfl ?_
  refine g_aload_n (q := 5) C dX5_init_4 rfl (by first | exact hRef_r _ | exact hRef_o _ | exact hRef_n) rfl ?_
  refine g_iconst (q := 6) (0) C dX5_init_5 (by decide) rfl ?_
  refine g_newR (q := 9) C qw_495 (N := 0) rfl (by decide) (by decide) (by decide) dX5_init_6 rfl (fun ha e_ha => ?_)
  refine g_put (q := 12) C hcl_X5 3 (by decide) qw_640 rfl rfl rfl rfl dX5_init_9 (by exact (hU_n (fun q => by rw [← q, h0] at e_ha; cases e_ha)).trans h0) (Nat.le_of_ble_eq_true rfl) rfl ?_
  (try rw [hU_2])
  obtain ⟨Ma, hMa⟩ : ∃ Mz, Mz = hU (hU M ha (aR Γ 0 (fun _ => none))) x (oSim 0 0 0 (some ha) none none) := ⟨_, rfl⟩
  refine g_eqw (M1 := Ma) hMa.symm ?_
  have nx1 : ha ≠ x := fun q => by rw [q, h0] at e_ha; cases e_ha
  have a_x : Ma x = some (true, oSim 0 0 0 (some ha) none none) := by rw [hMa]; exact hU_s _ _ _
  have a_1 : Ma ha = some (true, aR Γ 0 (fun _ => none)) := by rw [hMa]; exact (hU_n nx1).trans (hU_s _ _ _)
  have a_k : hKp noSx M Ma := by rw [hMa]; exact (hKp.rf.new e_ha : hKp noSx M (hU M ha (aR Γ 0 (fun _ => none)))).put ((hU_n (Ne.symm nx1)).trans h0) rfl
  refine g_aload_n (q := 13) C dX5_init_12 rfl (by first | exact hRef_r _ | exact hRef_o _ | exact hRef_n) rfl ?_
  refine g_iconst (q := 14) (0) C dX5_init_13 (by decide) rfl ?_
  refine g_newR (q := 17) C qw_495 (N := 0) rfl (by decide) (by decide) (by decide) dX5_init_14 rfl (fun oa e_oa => ?_)
  refine g_put (q := 20) C hcl_X5 4 (by decide) qw_642 rfl rfl rfl rfl dX5_init_17 (by exact (hU_n (fun q => by rw [← q, a_x] at e_oa; cases e_oa)).trans a_x) (Nat.le_of_ble_eq_true rfl) rfl ?_
  (try rw [hU_2])
  obtain ⟨Mb, hMb⟩ : ∃ Mz, Mz = hU (hU Ma oa (aR Γ 0 (fun _ => none))) x (oSim 0 0 0 (some ha) (some oa) none) := ⟨_, rfl⟩
  refine g_eqw (M1 := Mb) hMb.symm ?_
  have nx2 : oa ≠ x := fun q => by rw [q, a_x] at e_oa; cases e_oa
  have b_x : Mb x = some (true, oSim 0 0 0 (some ha) (some oa) none) := by rw [hMb]; exact hU_s _ _ _
  have b_2 : Mb oa = some (true, aR Γ 0 (fun _ => none)) := by rw [hMb]; exact (hU_n nx2).trans (hU_s _ _ _)
  have b_k : hKp noSx Ma Mb := by rw [hMb]; exact (hKp.rf.new e_oa : hKp noSx Ma (hU Ma oa (aR Γ 0 (fun _ => none)))).put ((hU_n (Ne.symm nx2)).trans a_x) rfl
  have b_1 := b_k _ _ _ a_1 rfl
  refine g_aload_n (q := 21) C dX5_init_20 rfl (by first | exact hRef_r _ | exact hRef_o _ | exact hRef_n) rfl ?_
  refine g_iconst (q := 22) (5) C dX5_init_21 (by decide) rfl ?_
  refine g_bipush (q := 24) (8) C dX5_init_22 (by decide) rfl ?_
  refine g_mna (q := 28) (N := 5) (K := 8) (ty := .array .int) (t1 := 5) (t2 := 4) (z0 := .inr (.inr (.inr (.inr (fun _ => none))))) C (by rw [sII]; exact qw_634) (C_aoaR C) (aoa_ac (C_aoaI C)) (C.hk.2 5 _ rfl).2 (nm_II C) rfl rfl (by decide) (by decide) (by decide) rfl rfl (fun c => mna_R c 8) (by decide) (by decide) dX5_init_24 rfl (fun la Mc e1 e2 m0 mr mo => ?_)
  refine g_put (q := 31) C hcl_X5 5 (by decide) qw_644 rfl rfl rfl rfl dX5_init_28 (by exact mo _ _ b_x) (Nat.le_of_ble_eq_true rfl) rfl ?_
  (try rw [hU_2])
  obtain ⟨Md, hMd⟩ : ∃ Mz, Mz = hU Mc x (oSim 0 0 0 (some ha) (some oa) (some la)) := ⟨_, rfl⟩
  refine g_eqw (M1 := Md) hMd.symm ?_
  have c_x := mo _ _ b_x
  have d_x : Md x = some (true, oSim 0 0 0 (some ha) (some oa) (some la)) := by rw [hMd]; exact hU_s _ _ _
  have d_k : hKp noSx Mb Md := by rw [hMd]; exact (show hKp noSx Mb Mc from fun a w e h _ => mo a _ h).put c_x rfl
  have c_k : hKp noSx Mc Md := by rw [hMd]; exact hKp.rf.put c_x rfl
  have d_1 := d_k _ _ _ b_1 rfl
  have d_2 := d_k _ _ _ b_2 rfl
  have d_l := c_k _ _ _ m0 rfl
  have hQ : smQ Γ Md x s0 ha oa la (fun _ => 0) (fun t => la + 1 + t) (fun _ => none) := ⟨d_x, ⟨_, d_1, fun i hi => absurd hi (Nat.not_lt_zero i)⟩, ⟨_, d_2, fun i hi => absurd hi (Nat.not_lt_zero i), fun i j hi => absurd hi (Nat.not_lt_zero i)⟩, ⟨_, d_l, fun t ht => ⟨if_pos ht, _, c_k _ _ _ (mr t ht) rfl, fun h hh => rfl⟩, fun i j hi hj q => by have q2 : la + 1 + i = la + 1 + j := q; omega⟩, ⟨(fun i hi a q => nomatch q), (fun i hi q => rfl), (fun i j a hi hj q _ => nomatch q)⟩⟩
  exact g_vret C dX5_init_31 (⟨hQ.P, ((a_k.tr b_k).tr d_k).wk noSim_noSx⟩) (by decide) (by decide)
