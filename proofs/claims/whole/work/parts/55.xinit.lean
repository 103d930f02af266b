set_option maxRecDepth 100000 in
set_option maxHeartbeats 4000000 in
theorem c_X6_init (Γ : hGam) (l : Launch) {M : hM} {m : Nat} (x0 : M m = some (true, oModel 0 0 0 none none 0 none none none none 0 none none none)) : hMet Γ l yX6_init cX6_init 1 none rm_X6_init [.ref m] M (hpV (fun M1 => mdP Γ M1 m 0 s0 ∧ hKs m M M1)) := by
  have sZ : mdS (fun _ => False) Γ M id (fun _ _ => 0) := ⟨fun _ _ h => h.elim, fun _ h => h.elim⟩
  refine hMet_of (by decide +kernel) (Nat.le_of_ble_eq_true rfl) (hCat_cons rfl hCat_nil) (fun k9 C => ?_)
  show hG _ _ _ _ _ _ _ _ [some (.ref m)] _
  refine g_aload_n (q := 1) C dX6_init_0 rfl (by first | exact hRef_r _ | exact hRef_o _ | exact hRef_n) rfl ?_
  refine g_objInit (q := 4) C qw_676 qw_54 qw_55 rfl dX6_init_1 (by decide) (by decide) rfl ?_
  refine g_aload_n (q := 5) C dX6_init_4 rfl (by first | exact hRef_r _ | exact hRef_o _ | exact hRef_n) rfl ?_
  refine g_bipush (q := 7) (6) C dX6_init_5 (by decide) rfl ?_
  refine g_newI (q := 9) C qw_708 (N := 6) rfl (by decide) (by decide) (by decide) dX6_init_7 rfl (fun b0 e_b0 => ?_)
  refine g_putF (q := 12) C hcl_X6 3 (by decide) qw_712 rfl rfl rfl rfl rfl rfl dX6_init_9 (by exact (hU_n (fun q => by rw [← q, x0] at e_b0; cases e_b0)).trans x0) (Nat.le_of_ble_eq_true rfl) rfl ?_
  (try rw [hU_2])
  have n0 : b0 ≠ m := fun q => by rw [q, x0] at e_b0; cases e_b0
  obtain ⟨ad1, G1, s1, q1, r1, k1⟩ := sZ.new e_b0 (c := 15) (by exact fun hq => hq) (fun _ => 0) (show 6 = adL 15 by decide)
  have s1c := s1.cell (y := m) ((hU_n (Ne.symm n0)).trans x0) (oModel 0 0 0 (some b0) none 0 none none none none 0 none none none)
  obtain ⟨M1, hM1⟩ : ∃ Mz, Mz = hU (hU M b0 (aI Γ 6 (fun _ => 0))) m (oModel 0 0 0 (some b0) none 0 none none none none 0 none none none) := ⟨_, rfl⟩
  refine g_eqw (M1 := M1) hM1.symm ?_
  rw [← hM1] at s1c
  have x1 : M1 m = some (true, (oModel 0 0 0 (some b0) none 0 none none none none 0 none none none)) := by rw [hM1]; exact hU_s _ _ _
  have kk1 : hKs m M M1 := by rw [hM1]; exact (hKs.new e_b0).tr hKs.own
  refine g_aload_n (q := 13) C dX6_init_12 rfl (by first | exact hRef_r _ | exact hRef_o _ | exact hRef_n) rfl ?_
  refine g_bipush (q := 15) (6) C dX6_init_13 (by decide) rfl ?_
  refine g_newI (q := 17) C qw_708 (N := 6) rfl (by decide) (by decide) (by decide) dX6_init_15 rfl (fun b1 e_b1 => ?_)
  refine g_putF (q := 20) C hcl_X6 4 (by decide) qw_713 rfl rfl rfl rfl rfl rfl dX6_init_17 (by exact (hU_n (fun q => by rw [← q, x1] at e_b1; cases e_b1)).trans x1) (Nat.le_of_ble_eq_true rfl) rfl ?_
  (try rw [hU_2])
  have n1 : b1 ≠ m := fun q => by rw [q, x1] at e_b1; cases e_b1
  obtain ⟨ad2, G2, s2, q2, r2, k2⟩ := s1c.new e_b1 (c := 16) (by exact fun hq => by rcases hq with hq | hq; exact hq.elim; omega) (fun _ => 0) (show 6 = adL 16 by decide)
  have s2c := s2.cell (y := m) ((hU_n (Ne.symm n1)).trans x1) (oModel 0 0 0 (some b0) (some b1) 0 none none none none 0 none none none)
  obtain ⟨M2, hM2⟩ : ∃ Mz, Mz = hU (hU M1 b1 (aI Γ 6 (fun _ => 0))) m (oModel 0 0 0 (some b0) (some b1) 0 none none none none 0 none none none) := ⟨_, rfl⟩
  refine g_eqw (M1 := M2) hM2.symm ?_
  rw [← hM2] at s2c
  have x2 : M2 m = some (true, (oModel 0 0 0 (some b0) (some b1) 0 none none none none 0 none none none)) := by rw [hM2]; exact hU_s _ _ _
  have kk2 : hKs m M1 M2 := by rw [hM2]; exact (hKs.new e_b1).tr hKs.own
  refine g_aload_n (q := 21) C dX6_init_20 rfl (by first | exact hRef_r _ | exact hRef_o _ | exact hRef_n) rfl ?_
  refine g_bipush (q := 23) (6) C dX6_init_21 (by decide) rfl ?_
  refine g_newI (q := 25) C qw_708 (N := 6) rfl (by decide) (by decide) (by decide) dX6_init_23 rfl (fun b2 e_b2 => ?_)
  refine g_putF (q := 28) C hcl_X6 6 (by decide) qw_715 rfl rfl rfl rfl rfl rfl dX6_init_25 (by exact (hU_n (fun q => by rw [← q, x2] at e_b2; cases e_b2)).trans x2) (Nat.le_of_ble_eq_true rfl) rfl ?_
  (try rw [hU_2])
  have n2 : b2 ≠ m := fun q => by rw [q, x2] at e_b2; cases e_b2
  obtain ⟨ad3, G3, s3, q3, r3, k3⟩ := s2c.new e_b2 (c := 17) (by exact fun hq => by rcases hq with (hq | hq) | hq; exact hq.elim; omega; omega) (fun _ => 0) (show 6 = adL 17 by decide)
  have s3c := s3.cell (y := m) ((hU_n (Ne.symm n2)).trans x2) (oModel 0 0 0 (some b0) (some b1) 0 (some b2) none none none 0 none none none)
  obtain ⟨M3, hM3⟩ : ∃ Mz, Mz = hU (hU M2 b2 (aI Γ 6 (fun _ => 0))) m (oModel 0 0 0 (some b0) (some b1) 0 (some b2) none none none 0 none none none) := ⟨_, rfl⟩
  refine g_eqw (M1 := M3) hM3.symm ?_
  rw [← hM3] at s3c
  have x3 : M3 m = some (true, (oModel 0 0 0 (some b0) (some b1) 0 (some b2) none none none 0 none none none)) := by rw [hM3]; exact hU_s _ _ _
  have kk3 : hKs m M2 M3 := by rw [hM3]; exact (hKs.new e_b2).tr hKs.own
  refine g_aload_n (q := 29) C dX6_init_28 rfl (by first | exact hRef_r _ | exact hRef_o _ | exact hRef_n) rfl ?_
  refine g_bipush (q := 31) (6) C dX6_init_29 (by decide) rfl ?_
  refine g_newI (q := 33) C qw_708 (N := 6) rfl (by decide) (by decide) (by decide) dX6_init_31 rfl (fun b3 e_b3 => ?_)
  refine g_putF (q := 36) C hcl_X6 7 (by decide) qw_716 rfl rfl rfl rfl rfl rfl dX6_init_33 (by exact (hU_n (fun q => by rw [← q, x3] at e_b3; cases e_b3)).trans x3) (Nat.le_of_ble_eq_true rfl) rfl ?_
  (try rw [hU_2])
  have n3 : b3 ≠ m := fun q => by rw [q, x3] at e_b3; cases e_b3
  obtain ⟨ad4, G4, s4, q4, r4, k4⟩ := s3c.new e_b3 (c := 18) (by exact fun hq => by rcases hq with ((hq | hq) | hq) | hq; exact hq.elim; omega; omega; omega) (fun _ => 0) (show 6 = adL 18 by decide)
  have s4c := s4.cell (y := m) ((hU_n (Ne.symm n3)).trans x3) (oModel 0 0 0 (some b0) (some b1) 0 (some b2) (some b3) none none 0 none none none)
  obtain ⟨M4, hM4⟩ : ∃ Mz, Mz = hU (hU M3 b3 (aI Γ 6 (fun _ => 0))) m (oModel 0 0 0 (some b0) (some b1) 0 (some b2) (some b3) none none 0 none none none) := ⟨_, rfl⟩
  refine g_eqw (M1 := M4) hM4.symm ?_
  rw [← hM4] at s4c
  have x4 : M4 m = some (true, (oModel 0 0 0 (some b0) (some b1) 0 (some b2) (some b3) none none 0 none none none)) := by rw [hM4]; exact hU_s _ _ _
  have kk4 : hKs m M3 M4 := by rw [hM4]; exact (hKs.new e_b3).tr hKs.own
  refine g_aload_n (q := 37) C dX6_init_36 rfl (by first | exact hRef_r _ | exact hRef_o _ | exact hRef_n) rfl ?_
  refine g_bipush (q := 39) (6) C dX6_init_37 (by decide) rfl ?_
  refine g_newI (q := 41) C qw_708 (N := 6) rfl (by decide) (by decide) (by decide) dX6_init_39 rfl (fun b4 e_b4 => ?_)
  refine g_putF (q := 44) C hcl_X6 8 (by decide) qw_717 rfl rfl rfl rfl rfl rfl dX6_init_41 (by exact (hU_n (fun q => by rw [← q, x4] at e_b4; cases e_b4)).trans x4) (Nat.le_of_ble_eq_true rfl) rfl ?_
  (try rw [hU_2])
  have n4 : b4 ≠ m := fun q => by rw [q, x4] at e_b4; cases e_b4
  obtain ⟨ad5, G5, s5, q5, r5, k5⟩ := s4c.new e_b4 (c := 19) (by exact fun hq => by rcases hq with (((hq | hq) | hq) | hq) | hq; exact hq.elim; omega; omega; omega; omega) (fun _ => 0) (show 6 = adL 19 by decide)
  have s5c := s5.cell (y := m) ((hU_n (Ne.symm n4)).trans x4) (oModel 0 0 0 (some b0) (some b1) 0 (some b2) (some b3) (some b4) none 0 none none none)
  obtain ⟨M5, hM5⟩ : ∃ Mz, Mz = hU (hU M4 b4 (aI Γ 6 (fun _ => 0))) m (oModel 0 0 0 (some b0) (some b1) 0 (some b2) (some b3) (some b4) none 0 none none none) := ⟨_, rfl⟩
  refine g_eqw (M1 := M5) hM5.symm ?_
  rw [← hM5] at s5c
  have x5 : M5 m = some (true, (oModel 0 0 0 (some b0) (some b1) 0 (some b2) (some b3) (some b4) none 0 none none none)) := by rw [hM5]; exact hU_s _ _ _
  have kk5 : hKs m M4 M5 := by rw [hM5]; exact (hKs.new e_b4).tr hKs.own
  refine g_aload_n (q := 45) C dX6_init_44 rfl (by first | exact hRef_r _ | exact hRef_o _ | exact hRef_n) rfl ?_
  refine g_bipush (q := 47) (6) C dX6_init_45 (by decide) rfl ?_
  refine g_newI (q := 49) C qw_708 (N := 6) rfl (by decide) (by decide) (by decide) dX6_init_47 rfl (fun b5 e_b5 => ?_)
  refine g_putF (q := 52) C hcl_X6 9 (by decide) qw_718 rfl rfl rfl rfl rfl rfl dX6_init_49 (by exact (hU_n (fun q => by rw [← q, x5] at e_b5; cases e_b5)).trans x5) (Nat.le_of_ble_eq_true rfl) rfl ?_
  (try rw [hU_2])
  have n5 : b5 ≠ m := fun q => by rw [q, x5] at e_b5; cases e_b5
  obtain ⟨ad6, G6, s6, q6, r6, k6⟩ := s5c.new e_b5 (c := 20) (by exact fun hq => by rcases hq with ((((hq | hq) | hq) | hq) | hq) | hq; exact hq.elim; omega; omega; omega; omega; omega) (fun _ => 0) (show 6 = adL 20 by decide)
  have s6c := s6.cell (y := m) ((hU_n (Ne.symm n5)).trans x5) (oModel 0 0 0 (some b0) (some b1) 0 (some b2) (some b3) (some b4) (some b5) 0 none none none)
  obtain ⟨M6, hM6⟩ : ∃ Mz, Mz = hU (hU M5 b5 (aI Γ 6 (fun _ => 0))) m (oModel 0 0 0 (some b0) (some b1) 0 (some b2) (some b3) (some b4) (some b5) 0 none none none) := ⟨_, rfl⟩
  refine g_eqw (M1 := M6) hM6.symm ?_
  rw [← hM6] at s6c
  have x6 : M6 m = some (true, (oModel 0 0 0 (some b0) (some b1) 0 (some b2) (some b3) (some b4) (some b5) 0 none none none)) := by rw [hM6]; exact hU_s _ _ _
  have kk6 : hKs m M5 M6 := by rw [hM6]; exact (hKs.new e_b5).tr hKs.own
  have w6 : ∀ c, (15 ≤ c ∧ c < 21) → ((((((False ∨ c = 15) ∨ c = 16) ∨ c = 17) ∨ c = 18) ∨ c = 19) ∨ c = 20) := fun c hc => by omega
  have sA : mdS (fun k => 15 ≤ k ∧ k < 21) Γ M6 ad6 G6 := ⟨fun i j hi hj => s6c.1 i j (w6 i hi) (w6 j hj), fun c hc => s6c.2 c (w6 c hc)⟩
  have f15 : ad6 15 = b0 := ((k6 15 (by decide)).1.trans (((k5 15 (by decide)).1.trans (((k4 15 (by decide)).1.trans (((k3 15 (by decide)).1.trans (((k2 15 (by decide)).1.trans (q1))))))))))
  have f16 : ad6 16 = b1 := ((k6 16 (by decide)).1.trans (((k5 16 (by decide)).1.trans (((k4 16 (by decide)).1.trans (((k3 16 (by decide)).1.trans (q2))))))))
  have f17 : ad6 17 = b2 := ((k6 17 (by decide)).1.trans (((k5 17 (by decide)).1.trans (((k4 17 (by decide)).1.trans (q3))))))
  have f18 : ad6 18 = b3 := ((k6 18 (by decide)).1.trans (((k5 18 (by decide)).1.trans (q4))))
  have f19 : ad6 19 = b4 := ((k6 19 (by decide)).1.trans (q5))
  have f20 : ad6 20 = b5 := q6
  have g20 : G6 20 = fun _ => 0 := r6
  refine g_aload_n (q := 53) C dX6_init_52 rfl (by first | exact hRef_r _ | exact hRef_o _ | exact hRef_n) rfl ?_
  refine g_new (q := 56) C hcl_X5 qw_677 qw_678 qw_33 hfs_X5 (by decide) (by decide) dX6_init_53 rfl (fun t1 e_t1 => ?_)
  refine g_dup (q := 57) C dX6_init_56 rfl rfl ?_
  refine g_callI0Vm (q := 60) C hy_X5_init (c_X5_init Γ l (o := 0) (D := (fun k => 15 ≤ k ∧ k < 21)) (hU_s _ _ _) (sA.fresh e_t1 _) (by decide) (fun c h1 h2 h3 => by omega)) qw_679 ⟨Nat.le_of_ble_eq_true rfl, Nat.le_of_ble_eq_true rfl⟩ (Nat.le_of_ble_eq_true rfl) rfl dX6_init_57 ⟨(by decide), (by decide)⟩ rfl (fun M_57 p_57 => ?_)
  obtain ⟨adA, GA, z1, zk1, zt1, zm1, zs1⟩ := p_57
  have m1 : m ≠ t1 := fun q => by rw [← q, x6] at e_t1; cases e_t1
  have v1 := zs1 _ _ _ ((hU_n m1).trans x6) m1
  refine g_putF (q := 63) C hcl_X6 11 (by decide) qw_720 rfl rfl rfl rfl (by first | rfl | exact narO _) (by first | rfl | exact fitsB _ | exact fitsO _) dX6_init_60 (by exact v1) (Nat.le_of_ble_eq_true rfl) rfl ?_
  (try rw [hU_2])
  have sB := z1.cell v1 (oModel 0 0 0 (some b0) (some b1) 0 (some b2) (some b3) (some b4) (some b5) 0 (some t1) none none)
  obtain ⟨N1, hN1⟩ : ∃ Mz, Mz = hU M_57 m (oModel 0 0 0 (some b0) (some b1) 0 (some b2) (some b3) (some b4) (some b5) 0 (some t1) none none) := ⟨_, rfl⟩
  refine g_eqw (M1 := N1) hN1.symm ?_
  rw [← hN1] at sB
  have y1 : N1 m = some (true, (oModel 0 0 0 (some b0) (some b1) 0 (some b2) (some b3) (some b4) (some b5) 0 (some t1) none none)) := by rw [hN1]; exact hU_s _ _ _
  have kt1 : hKs m M6 N1 := by rw [hN1]; exact fun c w e hc hx => (hU_n hx).trans (zs1 c w e ((hU_n (fun q => by rw [q, e_t1] at hc; cases hc)).trans hc) (fun q => by rw [q, e_t1] at hc; cases hc))
  have ht1 : N1 t1 = some (true, oSt adA 0 0) := by rw [hN1]; exact (hU_n (Ne.symm m1)).trans zt1
  refine g_aload_n (q := 64) C dX6_init_63 rfl (by first | exact hRef_r _ | exact hRef_o _ | exact hRef_n) rfl ?_
  refine g_new (q := 67) C hcl_X5 qw_677 qw_678 qw_33 hfs_X5 (by decide) (by decide) dX6_init_64 rfl (fun t2 e_t2 => ?_)
  refine g_dup (q := 68) C dX6_init_67 rfl rfl ?_
  refine g_callI0Vm (q := 71) C hy_X5_init (c_X5_init Γ l (o := 5) (D := (fun k => (15 ≤ k ∧ k < 21) ∨ (0 ≤ k ∧ k < 0 + 5))) (hU_s _ _ _) (sB.fresh e_t2 _) (by decide) (fun c h1 h2 h3 => by omega)) qw_679 ⟨Nat.le_of_ble_eq_true rfl, Nat.le_of_ble_eq_true rfl⟩ (Nat.le_of_ble_eq_true rfl) rfl dX6_init_68 ⟨(by decide), (by decide)⟩ rfl (fun M_68 p_68 => ?_)
  obtain ⟨adB, GB, z2, zk2, zt2, zm2, zs2⟩ := p_68
  have m2 : m ≠ t2 := fun q => by rw [← q, y1] at e_t2; cases e_t2
  have v2 := zs2 _ _ _ ((hU_n m2).trans y1) m2
  refine g_putF (q := 74) C hcl_X6 12 (by decide) qw_721 rfl rfl rfl rfl (by first | rfl | exact narO _) (by first | rfl | exact fitsB _ | exact fitsO _) dX6_init_71 (by exact v2) (Nat.le_of_ble_eq_true rfl) rfl ?_
  (try rw [hU_2])
  have sC := z2.cell v2 (oModel 0 0 0 (some b0) (some b1) 0 (some b2) (some b3) (some b4) (some b5) 0 (some t1) (some t2) none)
  obtain ⟨N2, hN2⟩ : ∃ Mz, Mz = hU M_68 m (oModel 0 0 0 (some b0) (some b1) 0 (some b2) (some b3) (some b4) (some b5) 0 (some t1) (some t2) none) := ⟨_, rfl⟩
  refine g_eqw (M1 := N2) hN2.symm ?_
  rw [← hN2] at sC
  have y2 : N2 m = some (true, (oModel 0 0 0 (some b0) (some b1) 0 (some b2) (some b3) (some b4) (some b5) 0 (some t1) (some t2) none)) := by rw [hN2]; exact hU_s _ _ _
  have kt2 : hKs m N1 N2 := by rw [hN2]; exact fun c w e hc hx => (hU_n hx).trans (zs2 c w e ((hU_n (fun q => by rw [q, e_t2] at hc; cases hc)).trans hc) (fun q => by rw [q, e_t2] at hc; cases hc))
  have ht2 : N2 t2 = some (true, oSt adB 5 0) := by rw [hN2]; exact (hU_n (Ne.symm m2)).trans zt2
  refine g_aload_n (q := 75) C dX6_init_74 rfl (by first | exact hRef_r _ | exact hRef_o _ | exact hRef_n) rfl ?_
  refine g_new (q := 78) C hcl_X5 qw_677 qw_678 qw_33 hfs_X5 (by decide) (by decide) dX6_init_75 rfl (fun t3 e_t3 => ?_)
  refine g_dup (q := 79) C dX6_init_78 rfl rfl ?_
  refine g_callI0Vm (q := 82) C hy_X5_init (c_X5_init Γ l (o := 10) (D := (fun k => ((15 ≤ k ∧ k < 21) ∨ (0 ≤ k ∧ k < 0 + 5)) ∨ (5 ≤ k ∧ k < 5 + 5))) (hU_s _ _ _) (sC.fresh e_t3 _) (by decide) (fun c h1 h2 h3 => by omega)) qw_679 ⟨Nat.le_of_ble_eq_true rfl, Nat.le_of_ble_eq_true rfl⟩ (Nat.le_of_ble_eq_true rfl) rfl dX6_init_79 ⟨(by decide), (by decide)⟩ rfl (fun M_79 p_79 => ?_)
  obtain ⟨adC, GC, z3, zk3, zt3, zm3, zs3⟩ := p_79
  have m3 : m ≠ t3 := fun q => by rw [← q, y2] at e_t3; cases e_t3
  have v3 := zs3 _ _ _ ((hU_n m3).trans y2) m3
  refine g_putF (q := 85) C hcl_X6 13 (by decide) qw_722 rfl rfl rfl rfl (by first | rfl | exact narO _) (by first | rfl | exact fitsB _ | exact fitsO _) dX6_init_82 (by exact v3) (Nat.le_of_ble_eq_true rfl) rfl ?_
  (try rw [hU_2])
  have sD := z3.cell v3 (oModel 0 0 0 (some b0) (some b1) 0 (some b2) (some b3) (some b4) (some b5) 0 (some t1) (some t2) (some t3))
  obtain ⟨N3, hN3⟩ : ∃ Mz, Mz = hU M_79 m (oModel 0 0 0 (some b0) (some b1) 0 (some b2) (some b3) (some b4) (some b5) 0 (some t1) (some t2) (some t3)) := ⟨_, rfl⟩
  refine g_eqw (M1 := N3) hN3.symm ?_
  rw [← hN3] at sD
  have y3 : N3 m = some (true, (oModel 0 0 0 (some b0) (some b1) 0 (some b2) (some b3) (some b4) (some b5) 0 (some t1) (some t2) (some t3))) := by rw [hN3]; exact hU_s _ _ _
  have kt3 : hKs m N2 N3 := by rw [hN3]; exact fun c w e hc hx => (hU_n hx).trans (zs3 c w e ((hU_n (fun q => by rw [q, e_t3] at hc; cases hc)).trans hc) (fun q => by rw [q, e_t3] at hc; cases hc))
  have ht3 : N3 t3 = some (true, oSt adC 10 0) := by rw [hN3]; exact (hU_n (Ne.symm m3)).trans zt3
  have d12 : t1 ≠ t2 := fun q => by rw [← q, ht1] at e_t2; cases e_t2
  have u1 := kt2 _ _ _ ht1 (Ne.symm m1)
  have d13 : t1 ≠ t3 := fun q => by rw [← q, u1] at e_t3; cases e_t3
  have d23 : t2 ≠ t3 := fun q => by rw [← q, ht2] at e_t3; cases e_t3
  have w1 := kt3 _ _ _ u1 (Ne.symm m1)
  have w2 := kt3 _ _ _ ht2 (Ne.symm m2)
  have h15 : adC 15 = b0 := (zk3 15 (by omega)).1.trans ((zk2 15 (by omega)).1.trans ((zk1 15 (by omega)).1.trans f15))
  have h16 : adC 16 = b1 := (zk3 16 (by omega)).1.trans ((zk2 16 (by omega)).1.trans ((zk1 16 (by omega)).1.trans f16))
  have h17 : adC 17 = b2 := (zk3 17 (by omega)).1.trans ((zk2 17 (by omega)).1.trans ((zk1 17 (by omega)).1.trans f17))
  have h18 : adC 18 = b3 := (zk3 18 (by omega)).1.trans ((zk2 18 (by omega)).1.trans ((zk1 18 (by omega)).1.trans f18))
  have h19 : adC 19 = b4 := (zk3 19 (by omega)).1.trans ((zk2 19 (by omega)).1.trans ((zk1 19 (by omega)).1.trans f19))
  have h20 : adC 20 = b5 := (zk3 20 (by omega)).1.trans ((zk2 20 (by omega)).1.trans ((zk1 20 (by omega)).1.trans f20))
  have i0 : adC 0 = adA 0 := (zk3 0 (by omega)).1.trans (zk2 0 (by omega)).1
  have i1 : adC 1 = adA 1 := (zk3 1 (by omega)).1.trans (zk2 1 (by omega)).1
  have i2 : adC 2 = adA 2 := (zk3 2 (by omega)).1.trans (zk2 2 (by omega)).1
  have i3 : adC 3 = adA 3 := (zk3 3 (by omega)).1.trans (zk2 3 (by omega)).1
  have i4 : adC 4 = adA 4 := (zk3 4 (by omega)).1.trans (zk2 4 (by omega)).1
  have i5 : adC 5 = adB 5 := (zk3 5 (by omega)).1
  have i6 : adC 6 = adB 6 := (zk3 6 (by omega)).1
  have i7 : adC 7 = adB 7 := (zk3 7 (by omega)).1
  have i8 : adC 8 = adB 8 := (zk3 8 (by omega)).1
  have i9 : adC 9 = adB 9 := (zk3 9 (by omega)).1
  have hA : mdA Γ N3 adC GC := ⟨fun i j hi hj q => sD.1 i j (by omega) (by omega) q, fun c hc => sD.2 c (by omega)⟩
  have hG0 : ∀ i, i < 40 → GC 0 i = -1 := fun i hi => (congrFun ((zk3 0 (by omega)).2.trans (zk2 0 (by omega)).2) i).trans (zm1 i hi)
  have hG20 : ∀ i, GC 20 i = 0 := fun i => congrFun ((zk3 20 (by omega)).2.trans ((zk2 20 (by omega)).2.trans ((zk1 20 (by omega)).2.trans g20))) i
  have hQ : mdQ Γ N3 m 0 s0 t1 t2 t3 adC GC 0 0 := by
    refine ⟨?_, hA, ?_, ?_, ht3, ⟨d12, d13, d23⟩, fun i hi => absurd hi (Nat.not_lt_zero i), ⟨fun i hi => absurd hi (Nat.not_lt_zero i), fun i _ => hG20 i⟩, fun i hi => ⟨hG0 i hi, fun q => absurd rfl q⟩⟩
    · show N3 m = some (true, oModel 0 0 0 (some (adC 15)) (some (adC 16)) 0 (some (adC 17)) (some (adC 18)) (some (adC 19)) (some (adC 20)) 0 (some t1) (some t2) (some t3)); rw [h15, h16, h17, h18, h19, h20]; exact y3
    · show N3 t1 = some (true, oState 0 (some (adC 0)) (some (adC 1)) (some (adC 2)) (some (adC 3)) (some (adC 4))); rw [i0, i1, i2, i3, i4]; exact w1
    · show N3 t2 = some (true, oState 0 (some (adC 5)) (some (adC 6)) (some (adC 7)) (some (adC 8)) (some (adC 9))); rw [i5, i6, i7, i8, i9]; exact w2
  exact g_vret C dX6_init_85 (⟨hQ.P, ((((((((kk1.tr kk2).tr kk3).tr kk4).tr kk5).tr kk6).tr kt1).tr kt2).tr kt3)⟩) (by decide) (by decide)
