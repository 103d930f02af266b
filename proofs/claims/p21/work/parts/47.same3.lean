set_option maxRecDepth 100000 in
set_option maxHeartbeats 4000000 in
theorem c_X5_isSame (Γ : hGam) (l : Launch) {M : hM} {x y D : Nat} {S : hS} (hLt : ltP Γ M x S) (hS : smP Γ M y S) (hI : sI2 S D) : hMet Γ l yX5_isSame cX5_isSame 12 (some .boolean) rm_X5_isSame [.ref y, .ref x] M (hpI (fun a _ => a = 1)) := by
  have hn6 := hI.1.1
  have ho6 := hI.1.2
  obtain ⟨ha, oa, la, ob, rx, bd, hQ⟩ := hS
  obtain ⟨pX, pH, pO, pLs, pB⟩ := id hQ
  obtain ⟨hf0, hHa, hHr⟩ := id pH
  obtain ⟨gf, ga, gb, gc⟩ := id pO
  refine hMet_of (by decide +kernel) (Nat.le_of_ble_eq_true rfl) (hCat_cons rfl (hCat_cons rfl hCat_nil)) (fun k9 C => ?_)
  show hG _ _ _ _ _ _ _ _ [some (.ref y), some (.ref x), none, none, none, none, none, none, none, none, none, none] _
  refine g_aload_n (q := 1) C dX5_isSame_0 rfl (by first | exact hRef_r _ | exact hRef_o _ | exact hRef_n) rfl ?_
  refine g_callV0Qm (q := 4) C hy_X5_sums (c_X5_sums Γ l hQ.P) qw_490 (by exact pX) rfl ⟨Nat.le_of_ble_eq_true rfl, Nat.le_of_ble_eq_true rfl⟩ (Nat.le_of_ble_eq_true rfl) rfl dX5_isSame_1 ⟨by decide, by decide⟩ rfl (fun x_1 M_1 p_1 => ?_)
  obtain ⟨b1, sf, rfl, e_b1, rfl, s0, s1, s2⟩ := p_1
  have k1 : hKp (fun _ => true) M (hU M b1 (aI Γ 3 sf)) := hKp.rf.new e_b1
  have hb1 := hU_s M b1 (aI Γ 3 sf)
  refine g_astore2 (q := 5) C dX5_isSame_4 (by first | exact hRef_r _ | exact hRef_o _ | exact hRef_n) (by first | rfl | exact hNw_rf _) rfl ?_
  refine g_iconst (q := 6) (0) C dX5_isSame_5 (by decide) rfl ?_
  refine g_istore3 (q := 7) C dX5_isSame_6 (by first | rfl | exact hNw_rf _) rfl ?_
  refine g_aload_n (q := 8) C dX5_isSame_7 rfl (by first | exact hRef_r _ | exact hRef_o _ | exact hRef_n) rfl ?_
  refine g_get (q := 11) C hcl_X5 4 (by decide) qw_642 rfl dX5_isSame_8 (by exact k1 _ _ _ pX rfl) rfl rfl ?_
  refine g_astore4 (q := 13) C dX5_isSame_11 (by first | exact hRef_r _ | exact hRef_o _ | exact hRef_n) (by first | rfl | exact hNw_rf _) rfl ?_
  refine g_aload (q := 15) C dX5_isSame_13 rfl (by first | exact hRef_r _ | exact hRef_o _ | exact hRef_n) rfl ?_
  refine g_alenR (q := 16) C dX5_isSame_15 (k1 _ _ _ ga rfl) rfl ?_
  refine g_istore5 (q := 18) C dX5_isSame_16 (by first | rfl | exact hNw_rf _) rfl ?_
  refine g_iconst (q := 19) (0) C dX5_isSame_18 (by decide) rfl ?_
  refine g_istore6 (q := 21) C dX5_isSame_19 (by first | rfl | exact hNw_rf _) rfl ?_
  refine h_loopU (P := fun i => ∀ (fl : Int32) (o7 : Option Value), fl = hIt (fun i s => if sG S i < sM S i then s else s + 1) 0 i → hG Γ k9 _ _ (hU M b1 (aI Γ 3 sf)) (1) (3) 21 [some (.ref y), some (.ref x), some (.ref b1), some (.int fl), some (.ref oa), some (.int (nI (sO S))), some (.int (nI i)), o7, none, none, none, none] []) (N := (sO S)) (fun i ha iha => ?_) 0 (Nat.zero_le _) _ _ rfl
  intro fl o7a hfl
  refine g_iload (q := 23) C dX5_isSame_21 rfl rfl ?_
  refine g_iload (q := 25) C dX5_isSame_23 rfl rfl ?_
  refine g_icmp_ge (t := 60) (q := 28) C dX5_isSame_25 (by decide) rfl (fun c_25 => ?_) (fun c_25 => ?_)
  · skip
    have hNa := nI_ge_eq ha (by omega) c_25
    refine g_bipush (q := 62) (9) C dX5_isSame_60 (by decide) rfl ?_
    refine g_newI (q := 64) C qw_476 (N := 9) rfl (by decide) (by decide) (by decide) dX5_isSame_62 rfl (fun b2 e_b2 => ?_)
    have k2 : ∀ e : va_E, hKp (fun _ => true) M (hU (hU M b1 (aI Γ 3 sf)) b2 e) := fun e => k1.new e_b2
    have hb2 : ∀ e : va_E, hU (hU M b1 (aI Γ 3 sf)) b2 e b1 = some (true, aI Γ 3 sf) := fun e => (hKp.rf.new e_b2 : hKp (fun _ => true) (hU M b1 (aI Γ 3 sf)) _) _ _ _ hb1 rfl
    refine g_dup (q := 65) C dX5_isSame_64 rfl rfl ?_
    refine g_iconst (q := 66) (0) C dX5_isSame_65 (by decide) rfl ?_
    refine g_aload_n (q := 67) C dX5_isSame_66 rfl (by first | exact hRef_r _ | exact hRef_o _ | exact hRef_n) rfl ?_
    refine g_get (q := 70) C hcl_X5 0 (by decide) qw_636 rfl dX5_isSame_67 (by exact k2 _ _ _ _ pX rfl) rfl rfl ?_
    refine g_iast (q := 71) C 0 rfl (by decide) (by decide) dX5_isSame_70 (hU_s _ _ _) rfl ?_
    rw [hU_2]
    refine g_dup (q := 72) C dX5_isSame_71 rfl rfl ?_
    refine g_iconst (q := 73) (1) C dX5_isSame_72 (by decide) rfl ?_
    refine g_aload_n (q := 74) C dX5_isSame_73 rfl (by first | exact hRef_r _ | exact hRef_o _ | exact hRef_n) rfl ?_
    refine g_get (q := 77) C hcl_X5 3 (by decide) qw_640 rfl dX5_isSame_74 (by exact k2 _ _ _ _ pX rfl) rfl rfl ?_
    refine g_alenR (q := 78) C dX5_isSame_77 (k2 _ _ _ _ hHa rfl) rfl ?_
    refine g_iast (q := 79) C 1 rfl (by decide) (by decide) dX5_isSame_78 (hU_s _ _ _) rfl ?_
    rw [hU_2]
    refine g_dup (q := 80) C dX5_isSame_79 rfl rfl ?_
    refine g_iconst (q := 81) (2) C dX5_isSame_80 (by decide) rfl ?_
    refine g_aload_n (q := 82) C dX5_isSame_81 rfl (by first | exact hRef_r _ | exact hRef_o _ | exact hRef_n) rfl ?_
    refine g_iconst (q := 83) (0) C dX5_isSame_82 (by decide) rfl ?_
    refine g_iald (q := 84) C 0 rfl (by decide) (by decide) dX5_isSame_83 (hb2 _) rfl ?_
    refine g_iast (q := 85) C 2 rfl (by decide) (by decide) dX5_isSame_84 (hU_s _ _ _) rfl ?_
    rw [hU_2]
    refine g_dup (q := 86) C dX5_isSame_85 rfl rfl ?_
    refine g_iconst (q := 87) (3) C dX5_isSame_86 (by decide) rfl ?_
    refine g_aload_n (q := 88) C dX5_isSame_87 rfl (by first | exact hRef_r _ | exact hRef_o _ | exact hRef_n) rfl ?_
    refine g_iconst (q := 89) (1) C dX5_isSame_88 (by decide) rfl ?_
    refine g_iald (q := 90) C 1 rfl (by decide) (by decide) dX5_isSame_89 (hb2 _) rfl ?_
    refine g_iast (q := 91) C 3 rfl (by decide) (by decide) dX5_isSame_90 (hU_s _ _ _) rfl ?_
    rw [hU_2]
    refine g_dup (q := 92) C dX5_isSame_91 rfl rfl ?_
    refine g_iconst (q := 93) (4) C dX5_isSame_92 (by decide) rfl ?_
    refine g_aload_n (q := 94) C dX5_isSame_93 rfl (by first | exact hRef_r _ | exact hRef_o _ | exact hRef_n) rfl ?_
    refine g_get (q := 97) C hcl_X5 4 (by decide) qw_642 rfl dX5_isSame_94 (by exact k2 _ _ _ _ pX rfl) rfl rfl ?_
    refine g_alenR (q := 98) C dX5_isSame_97 (k2 _ _ _ _ ga rfl) rfl ?_
    refine g_iast (q := 99) C 4 rfl (by decide) (by decide) dX5_isSame_98 (hU_s _ _ _) rfl ?_
    rw [hU_2]
    refine g_dup (q := 100) C dX5_isSame_99 rfl rfl ?_
    refine g_iconst (q := 101) (5) C dX5_isSame_100 (by decide) rfl ?_
    refine g_iload_n (q := 102) C dX5_isSame_101 rfl rfl ?_
    refine g_iast (q := 103) C 5 rfl (by decide) (by decide) dX5_isSame_102 (hU_s _ _ _) rfl ?_
    rw [hU_2]
    refine g_dup (q := 104) C dX5_isSame_103 rfl rfl ?_
    refine g_bipush (q := 106) (6) C dX5_isSame_104 (by decide) rfl ?_
    refine g_aload_n (q := 107) C dX5_isSame_106 rfl (by first | exact hRef_r _ | exact hRef_o _ | exact hRef_n) rfl ?_
    refine g_get (q := 110) C hcl_X5 2 (by decide) qw_639 rfl dX5_isSame_107 (by exact k2 _ _ _ _ pX rfl) rfl rfl ?_
    refine g_iast (q := 111) C 6 rfl (by decide) (by decide) dX5_isSame_110 (hU_s _ _ _) rfl ?_
    rw [hU_2]
    refine g_dup (q := 112) C dX5_isSame_111 rfl rfl ?_
    refine g_bipush (q := 114) (7) C dX5_isSame_112 (by decide) rfl ?_
    refine g_aload_n (q := 115) C dX5_isSame_114 rfl (by first | exact hRef_r _ | exact hRef_o _ | exact hRef_n) rfl ?_
    refine g_get (q := 118) C hcl_X5 1 (by decide) qw_638 rfl dX5_isSame_115 (by exact k2 _ _ _ _ pX rfl) rfl rfl ?_
    refine g_iast (q := 119) C 7 rfl (by decide) (by decide) dX5_isSame_118 (hU_s _ _ _) rfl ?_
    rw [hU_2]
    refine g_dup (q := 120) C dX5_isSame_119 rfl rfl ?_
    refine g_bipush (q := 122) (8) C dX5_isSame_120 (by decide) rfl ?_
    refine g_aload_n (q := 123) C dX5_isSame_122 rfl (by first | exact hRef_r _ | exact hRef_o _ | exact hRef_n) rfl ?_
    refine g_iconst (q := 124) (2) C dX5_isSame_123 (by decide) rfl ?_
    refine g_iald (q := 125) C 2 rfl (by decide) (by decide) dX5_isSame_124 (hb2 _) rfl ?_
    refine g_iast (q := 126) C 8 rfl (by decide) (by decide) dX5_isSame_125 (hU_s _ _ _) rfl ?_
    rw [hU_2]
    obtain ⟨f2, hf2⟩ : ∃ f8, f8 = (upd (upd (upd (upd (upd (upd (upd (upd (upd (fun _ => 0) 0 (sDay S)) 1 (nI (sN S))) 2 (sf 0)) 3 (sf 1)) 4 (nI (sO S))) 5 fl) 6 (givn S)) 7 (sWin S)) 8 (sf 2)) := ⟨_, rfl⟩
    rw [← hf2]
    have hc9 := cnt_v (S := S) hf2 cnI_0.symm cnI_1.symm (s0.trans cnI_2.symm) (s1.trans cnI_3.symm) cnI_4.symm (by rw [hfl, hNa]; exact cnI_5.symm) cnI_6.symm cnI_7.symm (s2.trans cnI_8.symm)
    obtain ⟨M2, hM2⟩ : ∃ Mz, Mz = hU (hU M b1 (aI Γ 3 sf)) b2 (aI Γ 9 f2) := ⟨_, rfl⟩
    refine g_eqw (M1 := M2) hM2.symm ?_
    have kM2 : hKp (fun _ => true) M M2 := by rw [hM2]; exact k2 _
    have b2b1 : M2 b1 = some (true, aI Γ 3 sf) := by rw [hM2]; exact hb2 _
    have b2b2 : M2 b2 = some (true, aI Γ 9 f2) := by rw [hM2]; exact hU_s _ _ _
    have hL2 := hLt.kp kM2 rfl rfl rfl rfl rfl rfl ⟨rfl, rfl⟩ rfl
    obtain ⟨_, _, _, _, _, _, _, _, _, _, _, _, _, hLq2⟩ := id hL2
    refine g_astore4 (q := 128) C dX5_isSame_126 (by first | exact hRef_r _ | exact hRef_o _ | exact hRef_n) (by first | rfl | exact hNw_rf _) rfl ?_
    refine g_iconst (q := 129) (0) C dX5_isSame_128 (by decide) rfl ?_
    refine g_istore5 (q := 131) C dX5_isSame_129 (by first | rfl | exact hNw_rf _) rfl ?_
    refine g_widen (n' := 2) (z' := 12) (by decide) (by decide) ?_
    refine h_loopU (P := fun w => hG Γ k9 _ _ M2 (2) (12) 131 [some (.ref y), some (.ref x), some (.ref b1), some (.int fl), some (.ref b2), some (.int (nI w)), some (.int (nI i)), o7a, none, none, none, none] []) (N := 9) (fun w hw ihw => ?_) 0 (Nat.zero_le _) 
    refine g_iload (q := 133) C dX5_isSame_131 rfl rfl ?_
    refine g_bipush (q := 135) (9) C dX5_isSame_133 (by decide) rfl ?_
    refine g_icmp_ge (t := 160) (q := 138) C dX5_isSame_135 (by decide) rfl (fun c_135 => ?_) (fun c_135 => ?_)
    · skip
      have hNw := nI_ge_eq hw (by omega) c_135
      refine g_aload_n (q := 161) C dX5_isSame_160 rfl (by first | exact hRef_r _ | exact hRef_o _ | exact hRef_n) rfl ?_
      refine g_get (q := 164) C hcl_X5 3 (by decide) qw_640 rfl dX5_isSame_161 (by exact kM2 _ _ _ pX rfl) rfl rfl ?_
      refine g_alenR (q := 165) C dX5_isSame_164 (kM2 _ _ _ hHa rfl) rfl ?_
      refine g_newR (q := 168) C qw_495 (N := sN S) rfl (by omega) (by decide) (by show 12 + sN S ≤ 400; omega) dX5_isSame_165 rfl (fun b3 e_b3 => ?_)
      refine g_astore5 (q := 170) C dX5_isSame_168 (by first | exact hRef_r _ | exact hRef_o _ | exact hRef_n) (by first | rfl | exact hNw_rf _) rfl ?_
      refine g_iconst (q := 171) (0) C dX5_isSame_170 (by decide) rfl ?_
      refine g_istore6 (q := 173) C dX5_isSame_171 (by first | rfl | exact hNw_rf _) rfl ?_
      have hMb3 : M b3 = none := by
        cases q : M b3 with
        | none => rfl
        | some v => have z := kM2 b3 v.1 v.2 q rfl; rw [e_b3] at z; cases z
      refine g_widen (n' := 3 + 0) (z' := 18 + 5 * 0) (by show 2 + 1 ≤ _; omega) (by show 12 + sN S ≤ _; omega) ?_
      refine h_loopU (P := fun h => ∀ (M4 : hM) (g : Nat → Option Nat) (ar : Nat → Nat) (F : Nat → Nat → Int32) (o7 o8 o9 o10 : Option Value), hKp (fun _ => true) M M4 → M4 b1 = some (true, aI Γ 3 sf) → M4 b3 = some (true, aR Γ (sN S) g) → (∀ c, c < h → g c = some (ar c)) → (∀ c, c < h → M4 (ar c) = some (true, aI Γ 5 (F c)) ∧ M (ar c) = none ∧ F c 0 = sE S c ∧ F c 1 = sL S c ∧ F c 2 = 0 ∧ F c 3 = 0 ∧ F c 4 = -1) → (∀ c c2, c < h → c2 < h → ar c = ar c2 → c = c2) → hG Γ k9 _ _ M4 (3 + h) (18 + 5 * h) 173 [some (.ref y), some (.ref x), some (.ref b1), some (.int fl), some (.ref b2), some (.ref b3), some (.int (nI h)), o7, o8, o9, o10, none] []) (N := (sN S)) (fun h hh ihh => ?_) 0 (Nat.zero_le _) _ (fun _ => none) (fun _ => 0) (fun _ _ => 0) _ _ _ _ (kM2.new e_b3) ((hKp.rf.new e_b3 : hKp (fun _ => true) M2 _) _ _ _ b2b1 rfl) (hU_s _ _ _) (fun c hc => absurd hc (Nat.not_lt_zero _)) (fun c hc => absurd hc (Nat.not_lt_zero _)) (fun c c2 hc => absurd hc (Nat.not_lt_zero _))
      intro M4 g ar F o7b o8b o9b o10b q1 q2 q3 q4 q5 q6
      refine g_iload (q := 175) C dX5_isSame_173 rfl rfl ?_
      refine g_aload_n (q := 176) C dX5_isSame_175 rfl (by first | exact hRef_r _ | exact hRef_o _ | exact hRef_n) rfl ?_
      refine g_get (q := 179) C hcl_X5 3 (by decide) qw_640 rfl dX5_isSame_176 (by exact q1 _ _ _ pX rfl) rfl rfl ?_
      refine g_alenR (q := 180) C dX5_isSame_179 (q1 _ _ _ hHa rfl) rfl ?_
      refine g_icmp_ge (t := 233) (q := 183) C dX5_isSame_180 (by decide) rfl (fun c_180 => ?_) (fun c_180 => ?_)
      · skip
        have hNh := nI_ge_eq hh (by omega) c_180
        refine g_aload_n (q := 234) C dX5_isSame_233 rfl (by first | exact hRef_r _ | exact hRef_o _ | exact hRef_n) rfl ?_
        refine g_get (q := 237) C hcl_X5 4 (by decide) qw_642 rfl dX5_isSame_234 (by exact q1 _ _ _ pX rfl) rfl rfl ?_
        refine g_alenR (q := 238) C dX5_isSame_237 (q1 _ _ _ ga rfl) rfl ?_
        refine g_newI (q := 240) C qw_476 (N := sO S) rfl (by omega) (by show 3 + h + 1 ≤ 60; omega) (by show 18 + 5 * h + sO S ≤ 400; omega) dX5_isSame_238 rfl (fun b4 e_b4 => ?_)
        have hMb4 : M b4 = none := by
          cases q : M b4 with
          | none => rfl
          | some v => have z := q1 b4 v.1 v.2 q rfl; rw [e_b4] at z; cases z
        rw [hNh] at q4 q5 q6
        have k4 : hKp (fun _ => true) M4 (hU M4 b4 (aI Γ (sO S) (fun _ => 0))) := hKp.rf.new e_b4
        have hs : isS Γ M (hU M4 b4 (aI Γ (sO S) (fun _ => 0))) S b1 b3 b4 sf g ar F (fun _ => 0) := ⟨q1.new e_b4, k4 _ _ _ q2 rfl, k4 _ _ _ q3 rfl, q4, fun c hc => k4 _ _ _ (q5 c hc).1 rfl, fun c hc => (q5 c hc).2.1, fun c c2 hc hc2 q => q6 c c2 hc hc2 q, hU_s _ _ _, hMb4, (fun c hc q => by have w1 := (q5 c hc).1; rw [q, e_b4] at w1; cases w1), (fun q => by rw [← q, q2] at e_b4; cases e_b4)⟩
        have hv : isV S F (fun _ => 0) 0 := ⟨fun c hc => (q5 c hc).2.2, fun o ho => rfl⟩
        refine g_astore6 (q := 242) C dX5_isSame_240 (by first | exact hRef_r _ | exact hRef_o _ | exact hRef_n) (by first | rfl | exact hNw_rf _) rfl ?_
        refine g_widen (n' := 10) (z' := 54) (by show 3 + h + 1 ≤ _; omega) (by show 18 + 5 * h + sO S ≤ _; omega) ?_
        exact same_242 C hLt hQ hI hs hv s0 s2 _ _ _ _ _ _ _
      · skip
        have hlth := nI_nge_lt hh (by omega) c_180
        obtain ⟨aH, fH, z1, z2, z3, z4⟩ := hHr h hlth
        refine g_aload (q := 185) C dX5_isSame_183 rfl (by first | exact hRef_r _ | exact hRef_o _ | exact hRef_n) rfl ?_
        refine g_iload (q := 187) C dX5_isSame_185 rfl rfl ?_
        refine g_iconst (q := 188) (5) C dX5_isSame_187 (by decide) rfl ?_
        refine g_newI (q := 190) C qw_476 (N := 5) rfl (by decide) (by show 3 + h + 1 ≤ 60; omega) (by show 18 + 5 * h + 5 ≤ 400; omega) dX5_isSame_188 rfl (fun a e_a => ?_)
        have qn : ∀ e : va_E, hKp (fun _ => true) M (hU M4 a e) := fun e => q1.new e_a
        refine g_dup (q := 191) C dX5_isSame_190 rfl rfl ?_
        refine g_iconst (q := 192) (0) C dX5_isSame_191 (by decide) rfl ?_
        refine g_aload_n (q := 193) C dX5_isSame_192 rfl (by first | exact hRef_r _ | exact hRef_o _ | exact hRef_n) rfl ?_
        refine g_get (q := 196) C hcl_X5 3 (by decide) qw_640 rfl dX5_isSame_193 (by exact qn _ _ _ _ pX rfl) rfl rfl ?_
        refine g_iload (q := 198) C dX5_isSame_196 rfl rfl ?_
        refine g_aaldR (q := 199) C h rfl hlth (by omega) dX5_isSame_198 (qn _ _ _ _ hHa rfl) (congrArg va_rf z1) rfl ?_
        refine g_iconst (q := 200) (0) C dX5_isSame_199 (by decide) rfl ?_
        refine g_iald (q := 201) C 0 rfl (by decide) (by decide) dX5_isSame_200 (qn _ _ _ _ z2 rfl) rfl ?_
        refine g_iast (q := 202) C 0 rfl (by decide) (by decide) dX5_isSame_201 (hU_s _ _ _) rfl ?_
        rw [hU_2]
        refine g_dup (q := 203) C dX5_isSame_202 rfl rfl ?_
        refine g_iconst (q := 204) (1) C dX5_isSame_203 (by decide) rfl ?_
        refine g_aload_n (q := 205) C dX5_isSame_204 rfl (by first | exact hRef_r _ | exact hRef_o _ | exact hRef_n) rfl ?_
        refine g_get (q := 208) C hcl_X5 3 (by decide) qw_640 rfl dX5_isSame_205 (by exact qn _ _ _ _ pX rfl) rfl rfl ?_
        refine g_iload (q := 210) C dX5_isSame_208 rfl rfl ?_
        refine g_aaldR (q := 211) C h rfl hlth (by omega) dX5_isSame_210 (qn _ _ _ _ hHa rfl) (congrArg va_rf z1) rfl ?_
        refine g_iconst (q := 212) (1) C dX5_isSame_211 (by decide) rfl ?_
        refine g_iald (q := 213) C 1 rfl (by decide) (by decide) dX5_isSame_212 (qn _ _ _ _ z2 rfl) rfl ?_
        refine g_iast (q := 214) C 1 rfl (by decide) (by decide) dX5_isSame_213 (hU_s _ _ _) rfl ?_
        rw [hU_2]
        refine g_dup (q := 215) C dX5_isSame_214 rfl rfl ?_
        refine g_iconst (q := 216) (2) C dX5_isSame_215 (by decide) rfl ?_
        refine g_iconst (q := 217) (0) C dX5_isSame_216 (by decide) rfl ?_
        refine g_iast (q := 218) C 2 rfl (by decide) (by decide) dX5_isSame_217 (hU_s _ _ _) rfl ?_
        rw [hU_2]
        refine g_dup (q := 219) C dX5_isSame_218 rfl rfl ?_
        refine g_iconst (q := 220) (3) C dX5_isSame_219 (by decide) rfl ?_
        refine g_iconst (q := 221) (0) C dX5_isSame_220 (by decide) rfl ?_
        refine g_iast (q := 222) C 3 rfl (by decide) (by decide) dX5_isSame_221 (hU_s _ _ _) rfl ?_
        rw [hU_2]
        refine g_dup (q := 223) C dX5_isSame_222 rfl rfl ?_
        refine g_iconst (q := 224) (4) C dX5_isSame_223 (by decide) rfl ?_
        refine g_iconst (q := 225) (-1) C dX5_isSame_224 (by decide) rfl ?_
        refine g_iast (q := 226) C 4 rfl (by decide) (by decide) dX5_isSame_225 (hU_s _ _ _) rfl ?_
        rw [hU_2]
        obtain ⟨fa, hfa⟩ : ∃ f8, f8 = (upd (upd (upd (upd (upd (fun _ => 0) 0 (fH 0)) 1 (fH 1)) 2 0) 3 0) 4 (-1)) := ⟨_, rfl⟩
        rw [← hfa]
        obtain ⟨f0, f1, f2a, f3, f4⟩ := up5_v (fH 0) (fH 1) 0 0 (-1)
        rw [show up5 (fH 0) (fH 1) 0 0 (-1) = fa from hfa.symm] at f0 f1 f2a f3 f4
        have n1a : b1 ≠ a := fun q => by rw [← q, q2] at e_a; cases e_a
        have n3a : a ≠ b3 := fun q => by rw [q, q3] at e_a; cases e_a
        have n3a : b3 ≠ a := Ne.symm n3a
        have n31 : b3 ≠ b1 := ne_IR q2 q3
        have hMa : M a = none := by
          cases q : M a with
          | none => rfl
          | some v => have z := q1 a v.1 v.2 q rfl; rw [e_a] at z; cases z
        refine g_aastR (q := 227) C h rfl hlth (by omega) dX5_isSame_226 ((hU_n n3a).trans q3) (hU_s _ _ _) rfl ?_
        refine g_iinc6 (q := 230) (1) C dX5_isSame_227 (by decide) (by first | rfl | exact hNw_rf _) rfl ?_
        refine g_goto (t := 173) C dX5_isSame_230 (by decide) ?_
        rw [nI_1]
        refine g_widen (n' := 3 + (h + 1)) (z' := 18 + 5 * (h + 1)) (by omega) (by omega) ?_
        refine ihh hlth (hU (hU M4 a (aI Γ 5 fa)) b3 (aR Γ (sN S) (va_up g h (some a)))) (va_up g h (some a)) (fUp ar h a) (fUp F h fa) _ _ _ _ ?_ ?_ (hU_s _ _ _) (fun c hc => ?_) (fun c hc => ?_) (fun c c2 hc hc2 q => ?_)
        · exact (q1.new e_a).old hMb3
        · exact (hU_n (Ne.symm n31)).trans ((hU_n n1a).trans q2)
        · by_cases e : c = h
          · subst e; rw [va_up_self, fUp_s]
          · rw [va_up_ne _ _ e, fUp_n e]; exact q4 c (by omega)
        · by_cases e : c = h
          · subst e
            rw [fUp_s, fUp_s]
            exact ⟨(hU_n (Ne.symm n3a)).trans (hU_s _ _ _), hMa, f0.trans z3, f1.trans z4, f2a, f3, f4⟩
          · rw [fUp_n e, fUp_n e]
            obtain ⟨w1, w2⟩ := q5 c (by omega)
            exact ⟨(hU_n (Ne.symm (ne_IR w1 q3))).trans ((hU_n (fun q => by rw [q, e_a] at w1; cases w1)).trans w1), w2⟩
        · have hna : ∀ c, c < h → ar c ≠ a := fun c hc q => by have w1 := (q5 c hc).1; rw [q, e_a] at w1; cases w1
          by_cases e1 : c = h <;> by_cases e2 : c2 = h
          · omega
          · rw [e1, fUp_s, fUp_n e2] at q; exact absurd q.symm (hna c2 (by omega))
          · rw [e2, fUp_s, fUp_n e1] at q; exact absurd q (hna c (by omega))
          · rw [fUp_n e1, fUp_n e2] at q; exact q6 c c2 (by omega) (by omega) q
    · skip
      have hltw := nI_nge_lt hw (by omega) c_135
      refine g_aload_n (q := 139) C dX5_isSame_138 rfl (by first | exact hRef_r _ | exact hRef_o _ | exact hRef_n) rfl ?_
      refine g_iload (q := 141) C dX5_isSame_139 rfl rfl ?_
      refine g_callV1P (q := 144) C hy_X4_count (c_X4_count_n Γ l (nI w) hL2 hI.inv (by rw [sCount_ok hltw])) qw_494 (by exact hLq2.1) rfl ⟨Nat.le_of_ble_eq_true rfl, Nat.le_of_ble_eq_true rfl⟩ (Nat.le_of_ble_eq_true rfl) rfl dX5_isSame_141 ⟨rfl, rfl⟩ ⟨by decide, by decide⟩ rfl ?_
      refine g_aload (q := 146) C dX5_isSame_144 rfl (by first | exact hRef_r _ | exact hRef_o _ | exact hRef_n) rfl ?_
      refine g_iload (q := 148) C dX5_isSame_146 rfl rfl ?_
      refine g_iald (q := 149) C w rfl hltw (by decide) dX5_isSame_148 (b2b2) rfl ?_
      refine g_icmp_eq (t := 154) (q := 152) C dX5_isSame_149 (by decide) rfl (fun c_149 => ?_) (fun c_149 => ?_)
      · skip
        refine g_iinc5 (q := 157) (1) C dX5_isSame_154 (by decide) (by first | rfl | exact hNw_rf _) rfl ?_
        refine g_goto (t := 131) C dX5_isSame_157 (by decide) ?_
        rw [nI_1]
        exact ihw hltw
      · skip
        exact absurd (by rw [sCount_ok hltw]; exact (hc9 w hltw).symm) c_149
  · skip
    have hlta := nI_nge_lt ha (by omega) c_25
    obtain ⟨z1, fo, z2, z3, z4, z5, z6⟩ := gb i hlta
    obtain ⟨-, m9, d9, g9, y1, y2, y3, y4, y5, y6, y7⟩ := hI.2.2.2.2 i hlta
    refine g_aload (q := 30) C dX5_isSame_28 rfl (by first | exact hRef_r _ | exact hRef_o _ | exact hRef_n) rfl ?_
    refine g_iload (q := 32) C dX5_isSame_30 rfl rfl ?_
    refine g_aaldR (q := 33) C i rfl hlta (by omega) dX5_isSame_32 (k1 _ _ _ ga rfl) (congrArg va_rf z1) rfl ?_
    refine g_astore7 (q := 35) C dX5_isSame_33 (by first | exact hRef_r _ | exact hRef_o _ | exact hRef_n) (by first | rfl | exact hNw_rf _) rfl ?_
    refine g_iload_n (q := 36) C dX5_isSame_35 rfl rfl ?_
    refine g_aload (q := 38) C dX5_isSame_36 rfl (by first | exact hRef_r _ | exact hRef_o _ | exact hRef_n) rfl ?_
    refine g_iconst (q := 39) (3) C dX5_isSame_38 (by decide) rfl ?_
    refine g_iald (q := 40) C 3 rfl (by decide) (by decide) dX5_isSame_39 (k1 _ _ _ z2 rfl) rfl ?_
    refine g_aload (q := 42) C dX5_isSame_40 rfl (by first | exact hRef_r _ | exact hRef_o _ | exact hRef_n) rfl ?_
    refine g_iconst (q := 43) (1) C dX5_isSame_42 (by decide) rfl ?_
    refine g_iald (q := 44) C 1 rfl (by decide) (by decide) dX5_isSame_43 (k1 _ _ _ z2 rfl) rfl ?_
    refine g_icmp_ne (t := 51) (q := 47) C dX5_isSame_44 (by decide) rfl (fun c_44 => ?_) (fun c_44 => ?_)
    · skip
      have hlg : sG S i < sM S i := by
        rw [z6, z4, y7, y5] at c_44
        rw [y7, y5]
        exact nI_lt (by have : g9 ≠ m9 := fun q => c_44 (by rw [q]); omega) (by omega)
      refine g_iconst (q := 52) (0) C dX5_isSame_51 (by decide) rfl ?_
      refine g_iadd (q := 53) C dX5_isSame_52 rfl ?_
      refine g_istore3 (q := 54) C dX5_isSame_53 (by first | rfl | exact hNw_rf _) rfl ?_
      refine g_iinc6 (q := 57) (1) C dX5_isSame_54 (by decide) (by first | rfl | exact hNw_rf _) rfl ?_
      refine g_goto (t := 21) C dX5_isSame_57 (by decide) ?_
      rw [nI_1, Int32.add_zero]
      exact iha hlta _ _ (hfl.trans (by rw [hIt_s]; exact (if_pos hlg).symm))
    · skip
      have hlg : ¬ sG S i < sM S i := by
        rw [z6, z4] at c_44
        rw [c_44]
        exact fun z => Int32.lt_irrefl z
      refine g_iconst (q := 48) (1) C dX5_isSame_47 (by decide) rfl ?_
      refine g_goto (t := 52) C dX5_isSame_48 (by decide) ?_
      refine g_iadd (q := 53) C dX5_isSame_52 rfl ?_
      refine g_istore3 (q := 54) C dX5_isSame_53 (by first | rfl | exact hNw_rf _) rfl ?_
      refine g_iinc6 (q := 57) (1) C dX5_isSame_54 (by decide) (by first | rfl | exact hNw_rf _) rfl ?_
      refine g_goto (t := 21) C dX5_isSame_57 (by decide) ?_
      rw [nI_1]
      exact iha hlta _ _ (by rw [hIt_s, if_neg hlg, hfl])
