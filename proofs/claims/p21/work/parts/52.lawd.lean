theorem sFo_1 {S : hS} {d : Nat} (hd : d ≤ 9) : sFore S 1 (nI d) 3 = (0, hIt (fBad (sB (sGo S (nI d)))) 0 40) := by
  rw [goN_1]
  exact sFore_3 (n := 1) (by decide) (by decide) hd
theorem sPs_1 {S : hS} {d : Nat} (hd : d ≤ 9) : sPass S 1 (nI d) = (0, hIt (fBad (sB (sGo S (nI d)))) 0 40, sGo S (nI d)) := by
  rw [goN_1]
  exact sPass_ok (n := 1) (by decide) (by decide) hd
theorem rowE {S : hS} {D d i : Nat} {T N : Nat → Int32} (hI : sI2 S D) (hD : D < 1000000) (hd : d ≤ 9) (hi : i < 40) (hT : ∀ w, w < 8 → T w = tellI (sB S) i (nI w)) (hN : ∀ w, w < 6 → N w = tellI (sB (sGo S (nI d))) i (nI w)) : N 0 = T 0 := by
  cases e : (sB S i).1 with
  | none => rw [rowG_n e hN, hT 0 (by decide), tell_n e]
  | some j => exact (rowG hI hD hd hi e hT hN).1
theorem lz8 {k : Nat} (h : nI (k % 8) ≤ 0) : k % 8 = 0 := by
  have := (nI_leI (a := k % 8) (b := 0) (by omega) (by decide)).mp h
  omega
theorem l7 {k : Nat} (h : 7 ≤ nI (k % 8)) : k % 8 = 7 := by
  have := (nI_leI (a := 7) (b := k % 8) (by decide) (by omega)).mp h
  omega
set_option maxRecDepth 100000 in
set_option maxHeartbeats 8000000 in
theorem law_832 {Γ : hGam} {l : Launch} {k9 : hCtx} {nm : String} {A : Nat → Prop} {Q : State → Prop} (C : hC Γ l k9 RL nm cL_law 24 (some .boolean) room_1 A) (hl : l.stackTraces = false) {x y D : Nat} {S : hS} {M : hM} {n z tm b ta : Nat} {xv c8 c9 c10 c11 c12 c13 c14 c15 : Int32} {dg : Int64} (hn : n + 1000 ≤ 893913) (hz : z + 10000 ≤ 6419885) (hLS : lawS Γ M x y S D) (hT : tdP Γ M ta (sB S)) (o16 o17 o18 o19 o20 o21 o22 o23 : Option Value) (kk : ∀ (M1 : hM) (d : Nat) (p16 p17 : Int32), d ≤ 9 → lawS Γ M1 x y (sGo S (nI d)) (D + 1) → tdP Γ M1 ta (sB S) → hG Γ k9 A Q M1 (n + 14) (z + 102) 874 [some (.ref b), some (.ref x), some (.ref y), some (.int (nI tm)), some (.int xv), some (.long dg), none, some (.ref ta), some (.int c8), some (.int c9), some (.int c10), some (.int c11), some (.int c12), some (.int c13), some (.int c14), some (.int c15), some (.int p16), some (.int p17), o18, o19, o20, o21, o22, o23] []) : hG Γ k9 A Q M (n) (z) 832 [some (.ref b), some (.ref x), some (.ref y), some (.int (nI tm)), some (.int xv), some (.long dg), none, some (.ref ta), some (.int c8), some (.int c9), some (.int c10), some (.int c11), some (.int c12), some (.int c13), some (.int c14), some (.int c15), o16, o17, o18, o19, o20, o21, o22, o23] [] := by
  obtain ⟨hL, hS, hI, h0⟩ := id hLS
  obtain ⟨_, _, _, _, _, _, _, _, _, _, _, _, _, hLq⟩ := id hL
  refine g_iload (q := 834) C dL_law_832 rfl rfl ?_
  refine g_bipush (q := 836) (6) C dL_law_834 (by decide) rfl ?_
  refine g_ishr (q := 837) C dL_law_836 rfl ?_
  refine g_bipush (q := 839) (10) C dL_law_837 (by decide) rfl ?_
  refine g_callS2I (q := 842) C hy_L_below (c_L_below Γ l (N := 10) (by decide) (by decide)) qw_500 ⟨Nat.le_of_ble_eq_true rfl, Nat.le_of_ble_eq_true rfl⟩ (Nat.le_of_ble_eq_true rfl) rfl dL_law_839 ⟨rfl, rfl⟩ ⟨by show _ ≤ 893913; omega, by show _ ≤ 6419885; omega⟩ rfl (fun x_839 M_839 p_839 => ?_)
  obtain ⟨⟨d, hd9, e_839⟩, q_839⟩ := p_839
  subst e_839
  rw [q_839]
  have hd : d ≤ 9 := by omega
  refine g_istore16 (q := 844) C dL_law_842 (by first | rfl | exact hNw_rf _) rfl ?_
  refine g_aload_n (q := 845) C dL_law_844 rfl (by first | exact hRef_r _ | exact hRef_o _ | exact hRef_n) rfl ?_
  refine g_iconst (q := 846) (1) C dL_law_845 (by decide) rfl ?_
  refine g_iload (q := 848) C dL_law_846 rfl rfl ?_
  refine g_iconst (q := 849) (3) C dL_law_848 (by decide) rfl ?_
  refine g_callVX3I (q := 852) C hy_X4_foresee (c_X4_foresee Γ l 1 (nI d) 3 hl hL hI.inv) (thrN_no (by rw [sFo_1 hd])) qw_437 (by exact hLq.1) rfl ⟨Nat.le_of_ble_eq_true rfl, Nat.le_of_ble_eq_true rfl⟩ (Nat.le_of_ble_eq_true rfl) rfl dL_law_849 ⟨by show n + 1 ≤ 893913; omega, by show z + 6 ≤ 6419885; omega⟩ rfl (fun x_849 M_849 p_849 => ?_)
  rw [sFo_1 hd] at p_849
  obtain ⟨-, v849, hL2, k2⟩ := p_849
  refine g_widen (n' := n + 1) (z' := z + 6) (Nat.le_refl _) (Nat.le_refl _) ?_
  obtain ⟨_, _, _, _, _, _, _, _, _, _, _, _, _, hLq2⟩ := id hL2
  refine g_istore17 (q := 854) C dL_law_852 (by first | rfl | exact hNw_rf _) rfl ?_
  refine g_aload_n (q := 855) C dL_law_854 rfl (by first | exact hRef_r _ | exact hRef_o _ | exact hRef_n) rfl ?_
  refine g_iconst (q := 856) (1) C dL_law_855 (by decide) rfl ?_
  refine g_iload (q := 858) C dL_law_856 rfl rfl ?_
  refine g_callVX2I (q := 861) C hy_X4_pass (c_X4_pass Γ l 1 (nI d) hl hL2 hI.inv) (thrN_no (by rw [sPs_1 hd])) qw_312 (by exact hLq2.1) rfl ⟨Nat.le_of_ble_eq_true rfl, Nat.le_of_ble_eq_true rfl⟩ (Nat.le_of_ble_eq_true rfl) rfl dL_law_858 ⟨by show n + 1 + 1 ≤ 893913; omega, by show z + 6 + 6 ≤ 6419885; omega⟩ rfl (fun x_858 M_858 p_858 => ?_)
  rw [sPs_1 hd] at p_858
  obtain ⟨-, v858, hL3, k3⟩ := p_858
  refine g_widen (n' := n + 2) (z' := z + 12) (Nat.le_refl _) (Nat.le_refl _) ?_
  have k9b := k2.tr k3
  obtain ⟨ha, oa, la, ob, rx, bd, hQ⟩ := smP.cls hS hI k9b
  obtain ⟨_, _, _, _, _, _, _, _, _, _, _, _, _, hLq3⟩ := id hL3
  refine g_iload (q := 863) C dL_law_861 rfl rfl ?_
  refine g_icmp_eq (t := 868) (q := 866) C dL_law_863 (by decide) rfl (fun c_863 => ?_) (fun c_863 => ?_)
  · skip
    refine g_aload_n (q := 869) C dL_law_868 rfl (by first | exact hRef_r _ | exact hRef_o _ | exact hRef_n) rfl ?_
    refine g_iload (q := 871) C dL_law_869 rfl rfl ?_
    refine g_callV1Vm (q := 874) C hy_X5_go (c_X5_go Γ l hQ.P hI hd) qw_461 (by exact hQ.1) rfl ⟨Nat.le_of_ble_eq_true rfl, Nat.le_of_ble_eq_true rfl⟩ (Nat.le_of_ble_eq_true rfl) rfl dL_law_871 ⟨by show n + 2 + 12 ≤ 893913; omega, by show z + 12 + 90 ≤ 6419885; omega⟩ rfl (fun M_871 p_871 => ?_)
    obtain ⟨hS4, k4⟩ := p_871
    refine g_widen (n' := n + 14) (z' := z + 102) (Nat.le_refl _) (Nat.le_refl _) ?_
    have hL4 := hL3.sim k4
    exact kk _ d _ _ hd ⟨hL4, hS4, hI.go hd, h0⟩ ((hT.kp k9b rfl rfl).kp k4 rfl rfl)
  · skip
    first | exact absurd (by rw [v858, v849]) c_863
set_option maxRecDepth 100000 in
set_option maxHeartbeats 8000000 in
theorem cmp_1124 {Γ : hGam} {l : Launch} {k9 : hCtx} {nm : String} {A : Nat → Prop} {Q : State → Prop} (C : hC Γ l k9 RL nm cL_law 24 (some .boolean) room_1 A) (hl : l.stackTraces = false) {x y D k j ra nb : Nat} {S S1 : hS} {M : hM} {n z tm b ta : Nat} {xv c8 c9 c10 c11 c12 c13 c14 c15 c16 c17 v21 : Int32} {dg : Int64} {T N : Nat → Int32} (hn : n ≤ 893913) (hz : z ≤ 6419885) (hL : ltP Γ M x S1) (hI : sI2 S1 D) (hN : M nb = some (true, aI Γ 6 N)) (hT : M ra = some (true, aI Γ 8 T)) (T0 : T 0 = nI j) (hj : j < sN S1) (g1 : ¬ T 1 < N 1) (g2 : ¬ T 2 < N 2) (g3 : ¬ N 5 < T 5) (g4 : ¬ T 5 + 1 < N 5) (g5 : ¬ N 4 = 0 → N 4 = T 4 + 1) (g6 : T 5 < N 5 → N 4 < 3 → T 5 = 0 ∧ nSp (sB S) k = true) (g7 : T 5 = 0 → nSp (sB S) k = true → ¬ N 5 = 0) (g8 : 0 < N 4 ↔ sL S1 j < N 3) (h21 : v21 = bI (nSp (sB S) k)) (o22 o23 : Option Value) (kk : hG Γ k9 A Q M (n) (z) 1162 [some (.ref b), some (.ref x), some (.ref y), some (.int (nI tm)), some (.int xv), some (.long dg), none, some (.ref ta), some (.int c8), some (.int c9), some (.int c10), some (.int c11), some (.int c12), some (.int c13), some (.int c14), some (.int c15), some (.int c16), some (.int c17), some (.int (nI k)), some (.ref ra), some (.ref nb), some (.int v21), o22, o23] []) : hG Γ k9 A Q M (n) (z) 1124 [some (.ref b), some (.ref x), some (.ref y), some (.int (nI tm)), some (.int xv), some (.long dg), none, some (.ref ta), some (.int c8), some (.int c9), some (.int c10), some (.int c11), some (.int c12), some (.int c13), some (.int c14), some (.int c15), some (.int c16), some (.int c17), some (.int (nI k)), some (.ref ra), some (.ref nb), some (.int v21), o22, o23] [] := by
  obtain ⟨_, _, _, _, _, _, _, _, _, _, _, _, _, hLq⟩ := id hL
  refine g_aload (q := 1126) C dL_law_1124 rfl (by first | exact hRef_r _ | exact hRef_o _ | exact hRef_n) rfl ?_
  refine g_iconst (q := 1127) (4) C dL_law_1126 (by decide) rfl ?_
  refine g_iald (q := 1128) C 4 rfl (by decide) (by decide) dL_law_1127 (hN) rfl ?_
  refine g_if_le (t := 1135) (q := 1131) C dL_law_1128 (by decide) rfl (fun c_1128 => ?_) (fun c_1128 => ?_)
  · skip
    refine g_iconst (q := 1136) (0) C dL_law_1135 (by decide) rfl ?_
    refine g_aload (q := 1138) C dL_law_1136 rfl (by first | exact hRef_r _ | exact hRef_o _ | exact hRef_n) rfl ?_
    refine g_iconst (q := 1139) (3) C dL_law_1138 (by decide) rfl ?_
    refine g_iald (q := 1140) C 3 rfl (by decide) (by decide) dL_law_1139 (hN) rfl ?_
    refine g_aload_n (q := 1141) C dL_law_1140 rfl (by first | exact hRef_r _ | exact hRef_o _ | exact hRef_n) rfl ?_
    refine g_aload (q := 1143) C dL_law_1141 rfl (by first | exact hRef_r _ | exact hRef_o _ | exact hRef_n) rfl ?_
    refine g_iconst (q := 1144) (0) C dL_law_1143 (by decide) rfl ?_
    refine g_iald (q := 1145) C 0 rfl (by decide) (by decide) dL_law_1144 (hT) rfl ?_
    refine g_iconst (q := 1146) (1) C dL_law_1145 (by decide) rfl ?_
    refine g_callV2P (q := 1149) C hy_X4_about (c_X4_about_n Γ l (T 0) 1 hL hI.inv (by rw [T0, (sAb_n hI.1.1 hj).1])) qw_381 (by exact hLq.1) rfl ⟨Nat.le_of_ble_eq_true rfl, Nat.le_of_ble_eq_true rfl⟩ (Nat.le_of_ble_eq_true rfl) rfl dL_law_1146 ⟨rfl, rfl⟩ ⟨by show _ ≤ 893913; omega, by show _ ≤ 6419885; omega⟩ rfl ?_
    have hab : (sAbout S1 (T 0) 1).2 = sL S1 j := by rw [T0, (sAb_n hI.1.1 hj).1]; exact abI_1
    refine g_icmp_le (t := 1156) (q := 1152) C dL_law_1149 (by decide) rfl (fun c_1149 => ?_) (fun c_1149 => ?_)
    · skip
      refine g_iconst (q := 1157) (0) C dL_law_1156 (by decide) rfl ?_
      refine g_icmp_eq (t := 1162) (q := 1160) C dL_law_1157 (by decide) rfl (fun c_1157 => ?_) (fun c_1157 => ?_)
      · skip
        exact kk
      · skip
        first | exact absurd rfl c_1157 | exact absurd (g8.mpr (by rw [← hab]; exact Int32.not_le.mp c_1149)) (Int32.not_lt.mpr c_1128) | exact absurd (g8.mp (Int32.not_le.mp c_1128)) (by rw [← hab]; exact Int32.not_lt.mpr c_1149)
    · skip
      refine g_iconst (q := 1153) (1) C dL_law_1152 (by decide) rfl ?_
      refine g_goto (t := 1157) C dL_law_1153 (by decide) ?_
      refine g_icmp_eq (t := 1162) (q := 1160) C dL_law_1157 (by decide) rfl (fun c_1157 => ?_) (fun c_1157 => ?_)
      · skip
        exact kk
      · skip
        first | exact absurd rfl c_1157 | exact absurd (g8.mpr (by rw [← hab]; exact Int32.not_le.mp c_1149)) (Int32.not_lt.mpr c_1128) | exact absurd (g8.mp (Int32.not_le.mp c_1128)) (by rw [← hab]; exact Int32.not_lt.mpr c_1149)
  · skip
    refine g_iconst (q := 1132) (1) C dL_law_1131 (by decide) rfl ?_
    refine g_goto (t := 1136) C dL_law_1132 (by decide) ?_
    refine g_aload (q := 1138) C dL_law_1136 rfl (by first | exact hRef_r _ | exact hRef_o _ | exact hRef_n) rfl ?_
    refine g_iconst (q := 1139) (3) C dL_law_1138 (by decide) rfl ?_
    refine g_iald (q := 1140) C 3 rfl (by decide) (by decide) dL_law_1139 (hN) rfl ?_
    refine g_aload_n (q := 1141) C dL_law_1140 rfl (by first | exact hRef_r _ | exact hRef_o _ | exact hRef_n) rfl ?_
    refine g_aload (q := 1143) C dL_law_1141 rfl (by first | exact hRef_r _ | exact hRef_o _ | exact hRef_n) rfl ?_
    refine g_iconst (q := 1144) (0) C dL_law_1143 (by decide) rfl ?_
    refine g_iald (q := 1145) C 0 rfl (by decide) (by decide) dL_law_1144 (hT) rfl ?_
    refine g_iconst (q := 1146) (1) C dL_law_1145 (by decide) rfl ?_
    refine g_callV2P (q := 1149) C hy_X4_about (c_X4_about_n Γ l (T 0) 1 hL hI.inv (by rw [T0, (sAb_n hI.1.1 hj).1])) qw_381 (by exact hLq.1) rfl ⟨Nat.le_of_ble_eq_true rfl, Nat.le_of_ble_eq_true rfl⟩ (Nat.le_of_ble_eq_true rfl) rfl dL_law_1146 ⟨rfl, rfl⟩ ⟨by show _ ≤ 893913; omega, by show _ ≤ 6419885; omega⟩ rfl ?_
    have hab : (sAbout S1 (T 0) 1).2 = sL S1 j := by rw [T0, (sAb_n hI.1.1 hj).1]; exact abI_1
    refine g_icmp_le (t := 1156) (q := 1152) C dL_law_1149 (by decide) rfl (fun c_1149 => ?_) (fun c_1149 => ?_)
    · skip
      refine g_iconst (q := 1157) (0) C dL_law_1156 (by decide) rfl ?_
      refine g_icmp_eq (t := 1162) (q := 1160) C dL_law_1157 (by decide) rfl (fun c_1157 => ?_) (fun c_1157 => ?_)
      · skip
        exact kk
      · skip
        first | exact absurd rfl c_1157 | exact absurd (g8.mpr (by rw [← hab]; exact Int32.not_le.mp c_1149)) (Int32.not_lt.mpr c_1128) | exact absurd (g8.mp (Int32.not_le.mp c_1128)) (by rw [← hab]; exact Int32.not_lt.mpr c_1149)
    · skip
      refine g_iconst (q := 1153) (1) C dL_law_1152 (by decide) rfl ?_
      refine g_goto (t := 1157) C dL_law_1153 (by decide) ?_
      refine g_icmp_eq (t := 1162) (q := 1160) C dL_law_1157 (by decide) rfl (fun c_1157 => ?_) (fun c_1157 => ?_)
      · skip
        exact kk
      · skip
        first | exact absurd rfl c_1157 | exact absurd (g8.mpr (by rw [← hab]; exact Int32.not_le.mp c_1149)) (Int32.not_lt.mpr c_1128) | exact absurd (g8.mp (Int32.not_le.mp c_1128)) (by rw [← hab]; exact Int32.not_lt.mpr c_1149)
set_option maxRecDepth 100000 in
set_option maxHeartbeats 8000000 in
theorem cmp_1105 {Γ : hGam} {l : Launch} {k9 : hCtx} {nm : String} {A : Nat → Prop} {Q : State → Prop} (C : hC Γ l k9 RL nm cL_law 24 (some .boolean) room_1 A) (hl : l.stackTraces = false) {x y D k j ra nb : Nat} {S S1 : hS} {M : hM} {n z tm b ta : Nat} {xv c8 c9 c10 c11 c12 c13 c14 c15 c16 c17 v21 : Int32} {dg : Int64} {T N : Nat → Int32} (hn : n ≤ 893913) (hz : z ≤ 6419885) (hL : ltP Γ M x S1) (hI : sI2 S1 D) (hN : M nb = some (true, aI Γ 6 N)) (hT : M ra = some (true, aI Γ 8 T)) (T0 : T 0 = nI j) (hj : j < sN S1) (g1 : ¬ T 1 < N 1) (g2 : ¬ T 2 < N 2) (g3 : ¬ N 5 < T 5) (g4 : ¬ T 5 + 1 < N 5) (g5 : ¬ N 4 = 0 → N 4 = T 4 + 1) (g6 : T 5 < N 5 → N 4 < 3 → T 5 = 0 ∧ nSp (sB S) k = true) (g7 : T 5 = 0 → nSp (sB S) k = true → ¬ N 5 = 0) (g8 : 0 < N 4 ↔ sL S1 j < N 3) (h21 : v21 = bI (nSp (sB S) k)) (o22 o23 : Option Value) (kk : hG Γ k9 A Q M (n) (z) 1162 [some (.ref b), some (.ref x), some (.ref y), some (.int (nI tm)), some (.int xv), some (.long dg), none, some (.ref ta), some (.int c8), some (.int c9), some (.int c10), some (.int c11), some (.int c12), some (.int c13), some (.int c14), some (.int c15), some (.int c16), some (.int c17), some (.int (nI k)), some (.ref ra), some (.ref nb), some (.int v21), o22, o23] []) : hG Γ k9 A Q M (n) (z) 1105 [some (.ref b), some (.ref x), some (.ref y), some (.int (nI tm)), some (.int xv), some (.long dg), none, some (.ref ta), some (.int c8), some (.int c9), some (.int c10), some (.int c11), some (.int c12), some (.int c13), some (.int c14), some (.int c15), some (.int c16), some (.int c17), some (.int (nI k)), some (.ref ra), some (.ref nb), some (.int v21), o22, o23] [] := by
  obtain ⟨_, _, _, _, _, _, _, _, _, _, _, _, _, hLq⟩ := id hL
  refine g_aload (q := 1107) C dL_law_1105 rfl (by first | exact hRef_r _ | exact hRef_o _ | exact hRef_n) rfl ?_
  refine g_iconst (q := 1108) (5) C dL_law_1107 (by decide) rfl ?_
  refine g_iald (q := 1109) C 5 rfl (by decide) (by decide) dL_law_1108 (hT) rfl ?_
  refine g_if_ne (t := 1124) (q := 1112) C dL_law_1109 (by decide) rfl (fun c_1109 => ?_) (fun c_1109 => ?_)
  · skip
    exact cmp_1124 C hl hn hz hL hI hN hT T0 hj g1 g2 g3 g4 g5 g6 g7 g8 h21 _ _ kk
  · skip
    have g7b := g7 c_1109
    refine g_iload (q := 1114) C dL_law_1112 rfl rfl ?_
    refine g_if_eq (t := 1124) (q := 1117) C dL_law_1114 (by decide) rfl (fun c_1114 => ?_) (fun c_1114 => ?_)
    · skip
      exact cmp_1124 C hl hn hz hL hI hN hT T0 hj g1 g2 g3 g4 g5 g6 g7 g8 h21 _ _ kk
    · skip
      have g7c := g7b (by
        cases q : nSp (sB S) k with
        | true => rfl
        | false => exact absurd (by rw [h21, q]; rfl) c_1114)
      refine g_aload (q := 1119) C dL_law_1117 rfl (by first | exact hRef_r _ | exact hRef_o _ | exact hRef_n) rfl ?_
      refine g_iconst (q := 1120) (5) C dL_law_1119 (by decide) rfl ?_
      refine g_iald (q := 1121) C 5 rfl (by decide) (by decide) dL_law_1120 (hN) rfl ?_
      refine g_if_eq (t := 1160) (q := 1124) C dL_law_1121 (by decide) rfl (fun c_1121 => ?_) (fun c_1121 => ?_)
      · skip
        exact absurd c_1121 g7c
      · skip
        exact cmp_1124 C hl hn hz hL hI hN hT T0 hj g1 g2 g3 g4 g5 g6 g7 g8 h21 _ _ kk
set_option maxRecDepth 100000 in
set_option maxHeartbeats 8000000 in
theorem cmp_1074 {Γ : hGam} {l : Launch} {k9 : hCtx} {nm : String} {A : Nat → Prop} {Q : State → Prop} (C : hC Γ l k9 RL nm cL_law 24 (some .boolean) room_1 A) (hl : l.stackTraces = false) {x y D k j ra nb : Nat} {S S1 : hS} {M : hM} {n z tm b ta : Nat} {xv c8 c9 c10 c11 c12 c13 c14 c15 c16 c17 v21 : Int32} {dg : Int64} {T N : Nat → Int32} (hn : n ≤ 893913) (hz : z ≤ 6419885) (hL : ltP Γ M x S1) (hI : sI2 S1 D) (hN : M nb = some (true, aI Γ 6 N)) (hT : M ra = some (true, aI Γ 8 T)) (T0 : T 0 = nI j) (hj : j < sN S1) (g1 : ¬ T 1 < N 1) (g2 : ¬ T 2 < N 2) (g3 : ¬ N 5 < T 5) (g4 : ¬ T 5 + 1 < N 5) (g5 : ¬ N 4 = 0 → N 4 = T 4 + 1) (g6 : T 5 < N 5 → N 4 < 3 → T 5 = 0 ∧ nSp (sB S) k = true) (g7 : T 5 = 0 → nSp (sB S) k = true → ¬ N 5 = 0) (g8 : 0 < N 4 ↔ sL S1 j < N 3) (h21 : v21 = bI (nSp (sB S) k)) (o22 o23 : Option Value) (kk : hG Γ k9 A Q M (n) (z) 1162 [some (.ref b), some (.ref x), some (.ref y), some (.int (nI tm)), some (.int xv), some (.long dg), none, some (.ref ta), some (.int c8), some (.int c9), some (.int c10), some (.int c11), some (.int c12), some (.int c13), some (.int c14), some (.int c15), some (.int c16), some (.int c17), some (.int (nI k)), some (.ref ra), some (.ref nb), some (.int v21), o22, o23] []) : hG Γ k9 A Q M (n) (z) 1074 [some (.ref b), some (.ref x), some (.ref y), some (.int (nI tm)), some (.int xv), some (.long dg), none, some (.ref ta), some (.int c8), some (.int c9), some (.int c10), some (.int c11), some (.int c12), some (.int c13), some (.int c14), some (.int c15), some (.int c16), some (.int c17), some (.int (nI k)), some (.ref ra), some (.ref nb), some (.int v21), o22, o23] [] := by
  obtain ⟨_, _, _, _, _, _, _, _, _, _, _, _, _, hLq⟩ := id hL
  refine g_aload (q := 1076) C dL_law_1074 rfl (by first | exact hRef_r _ | exact hRef_o _ | exact hRef_n) rfl ?_
  refine g_iconst (q := 1077) (5) C dL_law_1076 (by decide) rfl ?_
  refine g_iald (q := 1078) C 5 rfl (by decide) (by decide) dL_law_1077 (hN) rfl ?_
  refine g_aload (q := 1080) C dL_law_1078 rfl (by first | exact hRef_r _ | exact hRef_o _ | exact hRef_n) rfl ?_
  refine g_iconst (q := 1081) (5) C dL_law_1080 (by decide) rfl ?_
  refine g_iald (q := 1082) C 5 rfl (by decide) (by decide) dL_law_1081 (hT) rfl ?_
  refine g_icmp_le (t := 1105) (q := 1085) C dL_law_1082 (by decide) rfl (fun c_1082 => ?_) (fun c_1082 => ?_)
  · skip
    exact cmp_1105 C hl hn hz hL hI hN hT T0 hj g1 g2 g3 g4 g5 g6 g7 g8 h21 _ _ kk
  · skip
    refine g_aload (q := 1087) C dL_law_1085 rfl (by first | exact hRef_r _ | exact hRef_o _ | exact hRef_n) rfl ?_
    refine g_iconst (q := 1088) (4) C dL_law_1087 (by decide) rfl ?_
    refine g_iald (q := 1089) C 4 rfl (by decide) (by decide) dL_law_1088 (hN) rfl ?_
    refine g_iconst (q := 1090) (3) C dL_law_1089 (by decide) rfl ?_
    refine g_icmp_ge (t := 1105) (q := 1093) C dL_law_1090 (by decide) rfl (fun c_1090 => ?_) (fun c_1090 => ?_)
    · skip
      exact cmp_1105 C hl hn hz hL hI hN hT T0 hj g1 g2 g3 g4 g5 g6 g7 g8 h21 _ _ kk
    · skip
      have g6b := g6 (Int32.not_le.mp c_1082) (Int32.not_le.mp c_1090)
      refine g_aload (q := 1095) C dL_law_1093 rfl (by first | exact hRef_r _ | exact hRef_o _ | exact hRef_n) rfl ?_
      refine g_iconst (q := 1096) (5) C dL_law_1095 (by decide) rfl ?_
      refine g_iald (q := 1097) C 5 rfl (by decide) (by decide) dL_law_1096 (hT) rfl ?_
      refine g_if_ne (t := 1160) (q := 1100) C dL_law_1097 (by decide) rfl (fun c_1097 => ?_) (fun c_1097 => ?_)
      · skip
        exact absurd g6b.1 c_1097
      · skip
        refine g_iload (q := 1102) C dL_law_1100 rfl rfl ?_
        refine g_if_eq (t := 1160) (q := 1105) C dL_law_1102 (by decide) rfl (fun c_1102 => ?_) (fun c_1102 => ?_)
        · skip
          exact absurd c_1102 (by rw [h21, g6b.2]; decide)
        · skip
          exact cmp_1105 C hl hn hz hL hI hN hT T0 hj g1 g2 g3 g4 g5 g6 g7 g8 h21 _ _ kk
set_option maxRecDepth 100000 in
set_option maxHeartbeats 8000000 in
theorem cmp_1008 {Γ : hGam} {l : Launch} {k9 : hCtx} {nm : String} {A : Nat → Prop} {Q : State → Prop} (C : hC Γ l k9 RL nm cL_law 24 (some .boolean) room_1 A) (hl : l.stackTraces = false) {x y D k j ra nb : Nat} {S S1 : hS} {M : hM} {n z tm b ta : Nat} {xv c8 c9 c10 c11 c12 c13 c14 c15 c16 c17 v21 : Int32} {dg : Int64} {T N : Nat → Int32} (hn : n ≤ 893913) (hz : z ≤ 6419885) (hL : ltP Γ M x S1) (hI : sI2 S1 D) (hN : M nb = some (true, aI Γ 6 N)) (hT : M ra = some (true, aI Γ 8 T)) (T0 : T 0 = nI j) (hj : j < sN S1) (g1 : ¬ T 1 < N 1) (g2 : ¬ T 2 < N 2) (g3 : ¬ N 5 < T 5) (g4 : ¬ T 5 + 1 < N 5) (g5 : ¬ N 4 = 0 → N 4 = T 4 + 1) (g6 : T 5 < N 5 → N 4 < 3 → T 5 = 0 ∧ nSp (sB S) k = true) (g7 : T 5 = 0 → nSp (sB S) k = true → ¬ N 5 = 0) (g8 : 0 < N 4 ↔ sL S1 j < N 3) (h21 : v21 = bI (nSp (sB S) k)) (o22 o23 : Option Value) (kk : hG Γ k9 A Q M (n) (z) 1162 [some (.ref b), some (.ref x), some (.ref y), some (.int (nI tm)), some (.int xv), some (.long dg), none, some (.ref ta), some (.int c8), some (.int c9), some (.int c10), some (.int c11), some (.int c12), some (.int c13), some (.int c14), some (.int c15), some (.int c16), some (.int c17), some (.int (nI k)), some (.ref ra), some (.ref nb), some (.int v21), o22, o23] []) : hG Γ k9 A Q M (n) (z) 1008 [some (.ref b), some (.ref x), some (.ref y), some (.int (nI tm)), some (.int xv), some (.long dg), none, some (.ref ta), some (.int c8), some (.int c9), some (.int c10), some (.int c11), some (.int c12), some (.int c13), some (.int c14), some (.int c15), some (.int c16), some (.int c17), some (.int (nI k)), some (.ref ra), some (.ref nb), some (.int v21), o22, o23] [] := by
  obtain ⟨_, _, _, _, _, _, _, _, _, _, _, _, _, hLq⟩ := id hL
  refine g_aload (q := 1010) C dL_law_1008 rfl (by first | exact hRef_r _ | exact hRef_o _ | exact hRef_n) rfl ?_
  refine g_iconst (q := 1011) (1) C dL_law_1010 (by decide) rfl ?_
  refine g_iald (q := 1012) C 1 rfl (by decide) (by decide) dL_law_1011 (hN) rfl ?_
  refine g_aload (q := 1014) C dL_law_1012 rfl (by first | exact hRef_r _ | exact hRef_o _ | exact hRef_n) rfl ?_
  refine g_iconst (q := 1015) (1) C dL_law_1014 (by decide) rfl ?_
  refine g_iald (q := 1016) C 1 rfl (by decide) (by decide) dL_law_1015 (hT) rfl ?_
  refine g_icmp_gt (t := 1160) (q := 1019) C dL_law_1016 (by decide) rfl (fun c_1016 => ?_) (fun c_1016 => ?_)
  · skip
    exact absurd c_1016 g1
  · skip
    refine g_aload (q := 1021) C dL_law_1019 rfl (by first | exact hRef_r _ | exact hRef_o _ | exact hRef_n) rfl ?_
    refine g_iconst (q := 1022) (2) C dL_law_1021 (by decide) rfl ?_
    refine g_iald (q := 1023) C 2 rfl (by decide) (by decide) dL_law_1022 (hN) rfl ?_
    refine g_aload (q := 1025) C dL_law_1023 rfl (by first | exact hRef_r _ | exact hRef_o _ | exact hRef_n) rfl ?_
    refine g_iconst (q := 1026) (2) C dL_law_1025 (by decide) rfl ?_
    refine g_iald (q := 1027) C 2 rfl (by decide) (by decide) dL_law_1026 (hT) rfl ?_
    refine g_icmp_gt (t := 1160) (q := 1030) C dL_law_1027 (by decide) rfl (fun c_1027 => ?_) (fun c_1027 => ?_)
    · skip
      exact absurd c_1027 g2
    · skip
      refine g_aload (q := 1032) C dL_law_1030 rfl (by first | exact hRef_r _ | exact hRef_o _ | exact hRef_n) rfl ?_
      refine g_iconst (q := 1033) (5) C dL_law_1032 (by decide) rfl ?_
      refine g_iald (q := 1034) C 5 rfl (by decide) (by decide) dL_law_1033 (hN) rfl ?_
      refine g_aload (q := 1036) C dL_law_1034 rfl (by first | exact hRef_r _ | exact hRef_o _ | exact hRef_n) rfl ?_
      refine g_iconst (q := 1037) (5) C dL_law_1036 (by decide) rfl ?_
      refine g_iald (q := 1038) C 5 rfl (by decide) (by decide) dL_law_1037 (hT) rfl ?_
      refine g_icmp_lt (t := 1160) (q := 1041) C dL_law_1038 (by decide) rfl (fun c_1038 => ?_) (fun c_1038 => ?_)
      · skip
        exact absurd c_1038 g3
      · skip
        refine g_aload (q := 1043) C dL_law_1041 rfl (by first | exact hRef_r _ | exact hRef_o _ | exact hRef_n) rfl ?_
        refine g_iconst (q := 1044) (5) C dL_law_1043 (by decide) rfl ?_
        refine g_iald (q := 1045) C 5 rfl (by decide) (by decide) dL_law_1044 (hN) rfl ?_
        refine g_aload (q := 1047) C dL_law_1045 rfl (by first | exact hRef_r _ | exact hRef_o _ | exact hRef_n) rfl ?_
        refine g_iconst (q := 1048) (5) C dL_law_1047 (by decide) rfl ?_
        refine g_iald (q := 1049) C 5 rfl (by decide) (by decide) dL_law_1048 (hT) rfl ?_
        refine g_iconst (q := 1050) (1) C dL_law_1049 (by decide) rfl ?_
        refine g_iadd (q := 1051) C dL_law_1050 rfl ?_
        refine g_icmp_gt (t := 1160) (q := 1054) C dL_law_1051 (by decide) rfl (fun c_1051 => ?_) (fun c_1051 => ?_)
        · skip
          exact absurd c_1051 g4
        · skip
          refine g_aload (q := 1056) C dL_law_1054 rfl (by first | exact hRef_r _ | exact hRef_o _ | exact hRef_n) rfl ?_
          refine g_iconst (q := 1057) (4) C dL_law_1056 (by decide) rfl ?_
          refine g_iald (q := 1058) C 4 rfl (by decide) (by decide) dL_law_1057 (hN) rfl ?_
          refine g_if_eq (t := 1074) (q := 1061) C dL_law_1058 (by decide) rfl (fun c_1058 => ?_) (fun c_1058 => ?_)
          · skip
            exact cmp_1074 C hl hn hz hL hI hN hT T0 hj g1 g2 g3 g4 g5 g6 g7 g8 h21 _ _ kk
          · skip
            refine g_aload (q := 1063) C dL_law_1061 rfl (by first | exact hRef_r _ | exact hRef_o _ | exact hRef_n) rfl ?_
            refine g_iconst (q := 1064) (4) C dL_law_1063 (by decide) rfl ?_
            refine g_iald (q := 1065) C 4 rfl (by decide) (by decide) dL_law_1064 (hN) rfl ?_
            refine g_aload (q := 1067) C dL_law_1065 rfl (by first | exact hRef_r _ | exact hRef_o _ | exact hRef_n) rfl ?_
            refine g_iconst (q := 1068) (4) C dL_law_1067 (by decide) rfl ?_
            refine g_iald (q := 1069) C 4 rfl (by decide) (by decide) dL_law_1068 (hT) rfl ?_
            refine g_iconst (q := 1070) (1) C dL_law_1069 (by decide) rfl ?_
            refine g_iadd (q := 1071) C dL_law_1070 rfl ?_
            refine g_icmp_ne (t := 1160) (q := 1074) C dL_law_1071 (by decide) rfl (fun c_1071 => ?_) (fun c_1071 => ?_)
            · skip
              exact absurd (g5 c_1058) c_1071
            · skip
              exact cmp_1074 C hl hn hz hL hI hN hT T0 hj g1 g2 g3 g4 g5 g6 g7 g8 h21 _ _ kk
