set_option maxRecDepth 100000 in
set_option maxHeartbeats 4000000 in
theorem c_X5_init (Γ : hGam) (l : Launch) {M : hM} {x o : Nat} {D : Nat → Prop} {ad : Nat → Nat} {G : Nat → Nat → Int32} (x0 : M x = some (true, oState 0 none none none none none)) (s0 : mdS D Γ M ad G) (ho : o + 4 < 15) (hD0 : ∀ c, o ≤ c → c < o + 5 → ¬ D c) : hMet Γ l yX5_init cX5_init 2 none rm_X5_init [.ref x] M (hpV (fun M1 => ∃ ad1 G1, mdS (fun k => D k ∨ (o ≤ k ∧ k < o + 5)) Γ M1 ad1 G1 ∧ (∀ c, D c → ad1 c = ad c ∧ G1 c = G c) ∧ M1 x = some (true, oSt ad1 o 0) ∧ (∀ i, i < 40 → G1 o i = -1) ∧ hKs x M M1)) := by
  have dd5 : ∀ c, (D c ∨ (o ≤ c ∧ c < o + 5)) → ((((D c ∨ c = o) ∨ c = o + 1) ∨ c = o + 2) ∨ c = o + 3) ∨ c = o + 4 := fun c hc => by
    rcases hc with hc | hc
    · exact Or.inl (Or.inl (Or.inl (Or.inl (Or.inl hc))))
    · omega
  have ddn : ∀ c, D c → ∀ i, i < 5 → c ≠ o + i := fun c hc i hi q => hD0 c (by omega) (by omega) hc
  refine hMet_of (by decide +kernel) (Nat.le_of_ble_eq_true rfl) (hCat_cons rfl hCat_nil) (fun k9 C => ?_)
  show hG _ _ _ _ _ _ _ _ [some (.ref x), none] _
  refine g_aload_n (q := 1) C dX5_init_0 rfl (by first | exact hRef_r _ | exact hRef_o _ | exact hRef_n) rfl ?_
  refine g_objInit (q := 4) C qw_682 qw_54 qw_55 rfl dX5_init_1 (by decide) (by decide) rfl ?_
  refine g_aload_n (q := 5) C dX5_init_4 rfl (by first | exact hRef_r _ | exact hRef_o _ | exact hRef_n) rfl ?_
  refine g_bipush (q := 7) (40) C dX5_init_5 (by decide) rfl ?_
  refine g_newI (q := 9) C qw_708 (N := 40) rfl (by decide) (by decide) (by decide) dX5_init_7 rfl (fun b0 e_b0 => ?_)
  refine g_putF (q := 12) C hcl_X5 1 (by decide) qw_685 rfl rfl rfl rfl rfl rfl dX5_init_9 (by exact (hU_n (fun q => by rw [← q, x0] at e_b0; cases e_b0)).trans x0) (Nat.le_of_ble_eq_true rfl) rfl ?_
  (try rw [hU_2])
  have n0 : b0 ≠ x := fun q => by rw [q, x0] at e_b0; cases e_b0
  obtain ⟨ad1, G1, s1, q1, r1, k1⟩ := s0.new e_b0 (c := o) (by exact hD0 _ (by omega) (by omega)) (fun _ => 0) (show 40 = adL (o) by unfold adL; rw [if_pos (by omega)])
  have s1c := s1.cell (y := x) ((hU_n (Ne.symm n0)).trans x0) (oState 0 (some b0) none none none none)
  obtain ⟨M1, hM1⟩ : ∃ Mz, Mz = hU (hU M b0 (aI Γ 40 (fun _ => 0))) x (oState 0 (some b0) none none none none) := ⟨_, rfl⟩
  refine g_eqw (M1 := M1) hM1.symm ?_
  rw [← hM1] at s1c
  have x1 : M1 x = some (true, oState 0 (some b0) none none none none) := by rw [hM1]; exact hU_s _ _ _
  have kk1 : hKs x M M1 := by rw [hM1]; exact (hKs.new e_b0).tr hKs.own
  refine g_aload_n (q := 13) C dX5_init_12 rfl (by first | exact hRef_r _ | exact hRef_o _ | exact hRef_n) rfl ?_
  refine g_bipush (q := 15) (40) C dX5_init_13 (by decide) rfl ?_
  refine g_newI (q := 17) C qw_708 (N := 40) rfl (by decide) (by decide) (by decide) dX5_init_15 rfl (fun b1 e_b1 => ?_)
  refine g_putF (q := 20) C hcl_X5 2 (by decide) qw_687 rfl rfl rfl rfl rfl rfl dX5_init_17 (by exact (hU_n (fun q => by rw [← q, x1] at e_b1; cases e_b1)).trans x1) (Nat.le_of_ble_eq_true rfl) rfl ?_
  (try rw [hU_2])
  have n1 : b1 ≠ x := fun q => by rw [q, x1] at e_b1; cases e_b1
  obtain ⟨ad2, G2, s2, q2, r2, k2⟩ := s1c.new e_b1 (c := o + 1) (by exact fun hq => by rcases hq with hq | hq; exact hD0 _ (by omega) (by omega) hq; omega) (fun _ => 0) (show 40 = adL (o + 1) by unfold adL; rw [if_pos (by omega)])
  have s2c := s2.cell (y := x) ((hU_n (Ne.symm n1)).trans x1) (oState 0 (some b0) (some b1) none none none)
  obtain ⟨M2, hM2⟩ : ∃ Mz, Mz = hU (hU M1 b1 (aI Γ 40 (fun _ => 0))) x (oState 0 (some b0) (some b1) none none none) := ⟨_, rfl⟩
  refine g_eqw (M1 := M2) hM2.symm ?_
  rw [← hM2] at s2c
  have x2 : M2 x = some (true, oState 0 (some b0) (some b1) none none none) := by rw [hM2]; exact hU_s _ _ _
  have kk2 : hKs x M1 M2 := by rw [hM2]; exact (hKs.new e_b1).tr hKs.own
  refine g_aload_n (q := 21) C dX5_init_20 rfl (by first | exact hRef_r _ | exact hRef_o _ | exact hRef_n) rfl ?_
  refine g_bipush (q := 23) (40) C dX5_init_21 (by decide) rfl ?_
  refine g_newI (q := 25) C qw_708 (N := 40) rfl (by decide) (by decide) (by decide) dX5_init_23 rfl (fun b2 e_b2 => ?_)
  refine g_putF (q := 28) C hcl_X5 3 (by decide) qw_689 rfl rfl rfl rfl rfl rfl dX5_init_25 (by exact (hU_n (fun q => by rw [← q, x2] at e_b2; cases e_b2)).trans x2) (Nat.le_of_ble_eq_true rfl) rfl ?_
  (try rw [hU_2])
  have n2 : b2 ≠ x := fun q => by rw [q, x2] at e_b2; cases e_b2
  obtain ⟨ad3, G3, s3, q3, r3, k3⟩ := s2c.new e_b2 (c := o + 2) (by exact fun hq => by rcases hq with (hq | hq) | hq; exact hD0 _ (by omega) (by omega) hq; omega; omega) (fun _ => 0) (show 40 = adL (o + 2) by unfold adL; rw [if_pos (by omega)])
  have s3c := s3.cell (y := x) ((hU_n (Ne.symm n2)).trans x2) (oState 0 (some b0) (some b1) (some b2) none none)
  obtain ⟨M3, hM3⟩ : ∃ Mz, Mz = hU (hU M2 b2 (aI Γ 40 (fun _ => 0))) x (oState 0 (some b0) (some b1) (some b2) none none) := ⟨_, rfl⟩
  refine g_eqw (M1 := M3) hM3.symm ?_
  rw [← hM3] at s3c
  have x3 : M3 x = some (true, oState 0 (some b0) (some b1) (some b2) none none) := by rw [hM3]; exact hU_s _ _ _
  have kk3 : hKs x M2 M3 := by rw [hM3]; exact (hKs.new e_b2).tr hKs.own
  refine g_aload_n (q := 29) C dX5_init_28 rfl (by first | exact hRef_r _ | exact hRef_o _ | exact hRef_n) rfl ?_
  refine g_bipush (q := 31) (40) C dX5_init_29 (by decide) rfl ?_
  refine g_newI (q := 33) C qw_708 (N := 40) rfl (by decide) (by decide) (by decide) dX5_init_31 rfl (fun b3 e_b3 => ?_)
  refine g_putF (q := 36) C hcl_X5 4 (by decide) qw_691 rfl rfl rfl rfl rfl rfl dX5_init_33 (by exact (hU_n (fun q => by rw [← q, x3] at e_b3; cases e_b3)).trans x3) (Nat.le_of_ble_eq_true rfl) rfl ?_
  (try rw [hU_2])
  have n3 : b3 ≠ x := fun q => by rw [q, x3] at e_b3; cases e_b3
  obtain ⟨ad4, G4, s4, q4, r4, k4⟩ := s3c.new e_b3 (c := o + 3) (by exact fun hq => by rcases hq with ((hq | hq) | hq) | hq; exact hD0 _ (by omega) (by omega) hq; omega; omega; omega) (fun _ => 0) (show 40 = adL (o + 3) by unfold adL; rw [if_pos (by omega)])
  have s4c := s4.cell (y := x) ((hU_n (Ne.symm n3)).trans x3) (oState 0 (some b0) (some b1) (some b2) (some b3) none)
  obtain ⟨M4, hM4⟩ : ∃ Mz, Mz = hU (hU M3 b3 (aI Γ 40 (fun _ => 0))) x (oState 0 (some b0) (some b1) (some b2) (some b3) none) := ⟨_, rfl⟩
  refine g_eqw (M1 := M4) hM4.symm ?_
  rw [← hM4] at s4c
  have x4 : M4 x = some (true, oState 0 (some b0) (some b1) (some b2) (some b3) none) := by rw [hM4]; exact hU_s _ _ _
  have kk4 : hKs x M3 M4 := by rw [hM4]; exact (hKs.new e_b3).tr hKs.own
  refine g_aload_n (q := 37) C dX5_init_36 rfl (by first | exact hRef_r _ | exact hRef_o _ | exact hRef_n) rfl ?_
  refine g_bipush (q := 39) (40) C dX5_init_37 (by decide) rfl ?_
  refine g_newI (q := 41) C qw_708 (N := 40) rfl (by decide) (by decide) (by decide) dX5_init_39 rfl (fun b4 e_b4 => ?_)
  refine g_putF (q := 44) C hcl_X5 5 (by decide) qw_693 rfl rfl rfl rfl rfl rfl dX5_init_41 (by exact (hU_n (fun q => by rw [← q, x4] at e_b4; cases e_b4)).trans x4) (Nat.le_of_ble_eq_true rfl) rfl ?_
  (try rw [hU_2])
  have n4 : b4 ≠ x := fun q => by rw [q, x4] at e_b4; cases e_b4
  obtain ⟨ad5, G5, s5, q5, r5, k5⟩ := s4c.new e_b4 (c := o + 4) (by exact fun hq => by rcases hq with (((hq | hq) | hq) | hq) | hq; exact hD0 _ (by omega) (by omega) hq; omega; omega; omega; omega) (fun _ => 0) (show 40 = adL (o + 4) by unfold adL; rw [if_pos (by omega)])
  have s5c := s5.cell (y := x) ((hU_n (Ne.symm n4)).trans x4) (oState 0 (some b0) (some b1) (some b2) (some b3) (some b4))
  obtain ⟨M5, hM5⟩ : ∃ Mz, Mz = hU (hU M4 b4 (aI Γ 40 (fun _ => 0))) x (oState 0 (some b0) (some b1) (some b2) (some b3) (some b4)) := ⟨_, rfl⟩
  refine g_eqw (M1 := M5) hM5.symm ?_
  rw [← hM5] at s5c
  have x5 : M5 x = some (true, oState 0 (some b0) (some b1) (some b2) (some b3) (some b4)) := by rw [hM5]; exact hU_s _ _ _
  have kk5 : hKs x M4 M5 := by rw [hM5]; exact (hKs.new e_b4).tr hKs.own
  refine g_iconst (q := 45) (0) C dX5_init_44 (by decide) rfl ?_
  refine g_istore1 (q := 46) C dX5_init_45 (by first | rfl | exact hNw_rf _) rfl ?_
  have a5 : ad5 (o + 4) = b4 := q5
  have a4 : ad5 (o + 3) = b3 := (k5 _ (by omega)).1.trans q4
  have a3 : ad5 (o + 2) = b2 := (k5 _ (by omega)).1.trans ((k4 _ (by omega)).1.trans q3)
  have a2 : ad5 (o + 1) = b1 := (k5 _ (by omega)).1.trans ((k4 _ (by omega)).1.trans ((k3 _ (by omega)).1.trans q2))
  have a1 : ad5 o = b0 := (k5 _ (by omega)).1.trans ((k4 _ (by omega)).1.trans ((k3 _ (by omega)).1.trans ((k2 _ (by omega)).1.trans q1)))
  have hfr : M b0 = none := e_b0
  refine h_loopU (P := fun i => ∀ (M9 : hM) (G9 : Nat → Nat → Int32), mdS (fun k => ((((D k ∨ k = o) ∨ k = o + 1) ∨ k = o + 2) ∨ k = o + 3) ∨ k = o + 4) Γ M9 ad5 G9 → M9 x = some (true, oState 0 (some b0) (some b1) (some b2) (some b3) (some b4)) → hKs x M M9 → (∀ c, c ≠ o → G9 c = G5 c) → (∀ k, k < i → G9 o k = -1) → hG Γ k9 _ _ M9 (0 + 1 + 1 + 1 + 1 + 1) (0 + 40 + 40 + 40 + 40 + 40) 46 [some (.ref x), some (.int (nI i))] []) (N := 40) (fun i hi ih => ?_) 0 (Nat.zero_le _) M5 G5 s5c x5 ((((kk1.tr kk2).tr kk3).tr kk4).tr kk5) (fun _ _ => rfl) (fun k hk => absurd hk (Nat.not_lt_zero _))
  intro M9 G9 hs9 hx9 hk9 hG9 hn9
  refine g_iload_n (q := 47) C dX5_init_46 rfl rfl ?_
  refine g_bipush (q := 49) (40) C dX5_init_47 (by decide) rfl ?_
  refine g_icmp_ge (t := 65) (q := 52) C dX5_init_49 (by decide) rfl (fun c_49 => ?_) (fun c_49 => ?_)
  · skip
    have hN := nI_ge_eq hi (by decide) c_49
    subst hN
    exact g_vret C dX5_init_65 (⟨ad5, G9, ⟨fun i j hi hj q => hs9.1 i j (dd5 i hi) (dd5 j hj) q, fun c hc => hs9.2 c (dd5 c hc)⟩, fun c hc => ⟨(k5 c (ddn c hc 4 (by decide))).1.trans ((k4 c (ddn c hc 3 (by decide))).1.trans ((k3 c (ddn c hc 2 (by decide))).1.trans ((k2 c (ddn c hc 1 (by decide))).1.trans (k1 c (ddn c hc 0 (by decide))).1))), (hG9 c (ddn c hc 0 (by decide))).trans ((k5 c (ddn c hc 4 (by decide))).2.trans ((k4 c (ddn c hc 3 (by decide))).2.trans ((k3 c (ddn c hc 2 (by decide))).2.trans ((k2 c (ddn c hc 1 (by decide))).2.trans (k1 c (ddn c hc 0 (by decide))).2))))⟩, by show M9 x = some (true, oState 0 (some (ad5 o)) (some (ad5 (o + 1))) (some (ad5 (o + 2))) (some (ad5 (o + 3))) (some (ad5 (o + 4)))); rw [a1, a2, a3, a4, a5]; exact hx9, hn9, hk9⟩) (by decide) (by decide)
  · skip
    have hlt := nI_nge_lt hi (by decide) c_49
    refine g_aload_n (q := 53) C dX5_init_52 rfl (by first | exact hRef_r _ | exact hRef_o _ | exact hRef_n) rfl ?_
    refine g_get (q := 56) C hcl_X5 1 (by decide) qw_685 rfl dX5_init_53 (by exact hx9) rfl rfl ?_
    refine g_iload_n (q := 57) C dX5_init_56 rfl rfl ?_
    refine g_iconst (q := 58) (-1) C dX5_init_57 (by decide) rfl ?_
    have hrow : M9 b0 = some (true, aI Γ 40 (G9 o)) := by have := hs9.2 o (Or.inl (Or.inl (Or.inl (Or.inl (Or.inr rfl))))); rw [a1, show adL o = 40 by unfold adL; rw [if_pos (by omega)]] at this; exact this
    refine g_iast (q := 59) C i rfl hlt (by decide) dX5_init_58 hrow rfl ?_
    have s9 := hs9.st (c := o) (n := 40) (Or.inl (Or.inl (Or.inl (Or.inl (Or.inr rfl))))) (upd (G9 o) i (-1)) (by unfold adL; rw [if_pos (by omega)])
    rw [a1] at s9
    refine g_iinc1 (q := 62) (1) C dX5_init_59 (by decide) (by first | rfl | exact hNw_rf _) rfl ?_
    refine g_goto (t := 46) C dX5_init_62 (by decide) ?_
    rw [nI_1]
    refine ih hlt _ _ s9 ((hU_n (by rw [← a1]; exact hs9.ne (Or.inl (Or.inl (Or.inl (Or.inl (Or.inr rfl))))) hx9)).trans hx9) (fun c w e hc hx => (hU_n (fun q => by rw [q, ← a1] at hc; rw [a1, hfr] at hc; cases hc)).trans (hk9 c w e hc hx)) (fun c hc => (fUp_n hc).trans (hG9 c hc)) (fun k hk => ?_)
    rw [fUp_s]
    by_cases e1 : k = i
    · subst e1; exact upd_s _ _ _
    · rw [upd_n e1]; exact hn9 k (by omega)
