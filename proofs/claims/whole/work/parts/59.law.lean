set_option maxRecDepth 100000 in
set_option maxHeartbeats 40000000 in
theorem law_walk {Γ : hGam} {l : Launch} {k : hCtx} {A : Nat → Prop} {Q : State → Prop} {nm : String} (C : hC Γ l k RL nm cL_law 9 (some .boolean) room_1 A) (hl : l.stackTraces = false) {M : hM} {b N : Nat} {xs : Nat → Int32} {g0 : Nat → Option Nat} (hN : N ≤ 2560) (hX : va_X b N xs (kS k) (kS k).heap) (hbl : b < (kS k).heap.size) (hbA : ¬ A b) (hT : M Γ.2.2 = some (false, aO Γ 0 g0))
    (hend : ∀ (M1 : hM) (n z pc : Nat) (L : List (Option Value)), n ≤ 636058 → z ≤ 7187931 → decode cL_law pc = .ok (.ireturn, 1) → hG Γ k A Q M1 n z pc L [.int 1]) : hG Γ k A Q M 0 0 0 [some (.ref b), none, none, none, none, none, none, none, none] [] := by
  refine g_new (q := 3) C hcl_X4 qw_48 qw_49 qw_26 hfs_X4 (by decide) (by decide) dL_law_0 rfl (fun x ex => ?_)
  refine g_dup (q := 4) C dL_law_3 rfl rfl ?_
  refine g_callI0Vm (q := 7) C hy_X4_init (c_X4_init Γ l (hU_s _ _ _) ((hU_n (fun q => by rw [q, ex] at hT; cases hT)).trans hT)) qw_50 ⟨Nat.le_of_ble_eq_true rfl, Nat.le_of_ble_eq_true rfl⟩ (Nat.le_of_ble_eq_true rfl) rfl dL_law_4 ⟨(by decide), (by decide)⟩ rfl (fun M_4 p_4 => ?_)
  obtain ⟨lt1, kq1⟩ := p_4
  refine g_astore1 (q := 8) C dL_law_7 (by first | exact hRef_r _ | exact hRef_o _ | exact hRef_n) (by first | rfl | exact hNw_rf _) rfl ?_
  refine g_new (q := 11) C hcl_X6 qw_671 qw_672 qw_32 hfs_X6 (by decide) (by decide) dL_law_8 rfl (fun m em => ?_)
  refine g_dup (q := 12) C dL_law_11 rfl rfl ?_
  refine g_callI0Vm (q := 15) C hy_X6_init (c_X6_init Γ l (hU_s _ _ _)) qw_673 ⟨Nat.le_of_ble_eq_true rfl, Nat.le_of_ble_eq_true rfl⟩ (Nat.le_of_ble_eq_true rfl) rfl dL_law_12 ⟨(by decide), (by decide)⟩ rfl (fun M_12 p_12 => ?_)
  obtain ⟨md4, kq2⟩ := p_12
  have kq3 : hKp (fun _ => true) M_4 M_12 := fun a w e ha _ => kq2 a w e ((hU_n (fun q => by rw [q, em] at ha; cases ha)).trans ha) (fun q => by rw [q, em] at ha; cases ha)
  have lt4 := ltP.kp lt1 kq3 rfl rfl rfl rfl rfl rfl rfl
  refine g_astore2 (q := 16) C dL_law_15 (by first | exact hRef_r _ | exact hRef_o _ | exact hRef_n) (by first | rfl | exact hNw_rf _) rfl ?_
  refine g_iconst (q := 17) (1) C dL_law_16 (by decide) rfl ?_
  refine g_newJ (q := 19) C qw_945 (N := 1) rfl (by decide) (by decide) (by decide) dL_law_17 rfl (fun out eo => ?_)
  have hO5 := hU_s M_12 out (aJ Γ 1 (fun _ => 0))
  have kn := (hKp.rf.new eo : hKp (fun _ => true) M_12 (hU M_12 out (aJ Γ 1 (fun _ => 0))))
  have lt5 := ltP.kp lt4 kn rfl rfl rfl rfl rfl rfl rfl
  have md5 := md4.kp (kn.wk (fun _ _ => rfl))
  obtain ⟨M5, hM5⟩ : ∃ Mz, Mz = hU M_12 out (aJ Γ 1 (fun _ => 0)) := ⟨_, rfl⟩
  refine g_eqw (M1 := M5) hM5.symm ?_
  rw [← hM5] at hO5 lt5 md5
  refine g_astore3 (q := 20) C dL_law_19 (by first | exact hRef_r _ | exact hRef_o _ | exact hRef_n) (by first | rfl | exact hNw_rf _) rfl ?_
  refine g_iconst (q := 21) (0) C dL_law_20 (by decide) rfl ?_
  refine g_istore4 (q := 23) C dL_law_21 (by first | rfl | exact hNw_rf _) rfl ?_
  refine g_widen (n' := 113 + 2 * 0) (z' := 1563 + 14 * 0) (by decide) (by decide) ?_
  refine h_loopU (P := fun t => ∀ (M1 : hM) (S : hS) (th : Int32) (fo : Nat → Int64) (o5 o6 o7 o8 : Option Value), sInv S → ltP Γ M1 x S → mdP Γ M1 m th S → M1 out = some (true, aJ Γ 1 fo) → hG Γ k A Q M1 (113 + 2 * t) (1563 + 14 * t) 23 [some (.ref b), some (.ref x), some (.ref m), some (.ref out), some (.int (nI (5 * t))), o5, o6, o7, o8] []) (N := N / 5) (fun t ht ih => ?_) 0 (Nat.zero_le _) M5 s0 0 _ none none none none sInv_0 lt5 md5 hO5
  intro M1 S th fo o5 o6 o7 o8 hI hL hM hO
  obtain ⟨hl9, ol, rk, tr, _, _, _, _, _, _, _, _, _, hLq⟩ := id hL
  have pL := hLq.1
  obtain ⟨s1, a1, o1, ad1, G1, e1, f1, hq⟩ := id hM
  refine g_iload (q := 25) C dL_law_23 rfl rfl ?_
  refine g_aload_n (q := 26) C dL_law_25 rfl (by first | exact hRef_r _ | exact hRef_o _ | exact hRef_n) rfl ?_
  refine g_xlen (q := 27) C hX hbl hbA dL_law_26 rfl ?_
  refine g_iconst (q := 28) (5) C dL_law_27 (by decide) rfl ?_
  refine g_isub (q := 29) C dL_law_28 rfl ?_
  refine g_icmp_gt (t := 1290) (q := 32) C dL_law_29 (by decide) rfl (fun c_29 => ?_) (fun c_29 => ?_)
  · skip
    have hle : 113 + 2 * t ≤ 636058 ∧ 1563 + 14 * t ≤ 7187931 := ⟨by omega, by omega⟩
    refine g_iconst (q := 1291) (1) C dL_law_1290 (by decide) rfl ?_
    exact hend _ _ _ _ _ hle.1 hle.2 dL_law_1291
  · skip
    have hlt := go5 hN ht c_29
    refine g_aload_n (q := 33) C dL_law_32 rfl (by first | exact hRef_r _ | exact hRef_o _ | exact hRef_n) rfl ?_
    refine g_iload (q := 35) C dL_law_33 rfl rfl ?_
    refine g_xald (q := 36) C hX hbl hbA (5 * t) rfl (by omega) (by omega) dL_law_35 rfl ?_
    refine g_bipush (q := 38) (31) C dL_law_36 (by decide) rfl ?_
    refine g_iand (q := 39) C dL_law_38 rfl ?_
    by_cases s_0 : xs (5 * t) &&& 31 = 0
    · skip
      refine g_tswI (t := 124) 0 C dL_law_39 (by rw [s_0]; rfl) (by decide) (by decide) rfl (by decide) ?_
      refine g_aload_n (q := 125) C dL_law_124 rfl (by first | exact hRef_r _ | exact hRef_o _ | exact hRef_n) rfl ?_
      refine g_aload_n (q := 126) C dL_law_125 rfl (by first | exact hRef_r _ | exact hRef_o _ | exact hRef_n) rfl ?_
      refine g_iload (q := 128) C dL_law_126 rfl rfl ?_
      refine g_iconst (q := 129) (1) C dL_law_128 (by decide) rfl ?_
      refine g_iadd (q := 130) C dL_law_129 rfl ?_
      refine g_xald (q := 131) C hX hbl hbA (5 * t + 1) (nI_a 1) (by omega) (by omega) dL_law_130 rfl ?_
      refine g_aload_n (q := 132) C dL_law_131 rfl (by first | exact hRef_r _ | exact hRef_o _ | exact hRef_n) rfl ?_
      refine g_iload (q := 134) C dL_law_132 rfl rfl ?_
      refine g_iconst (q := 135) (2) C dL_law_134 (by decide) rfl ?_
      refine g_iadd (q := 136) C dL_law_135 rfl ?_
      refine g_xald (q := 137) C hX hbl hbA (5 * t + 2) (nI_a 2) (by omega) (by omega) dL_law_136 rfl ?_
      refine g_aload_n (q := 138) C dL_law_137 rfl (by first | exact hRef_r _ | exact hRef_o _ | exact hRef_n) rfl ?_
      refine gx_callSW (As := [.ref x, .int (xs (5 * t + 1)), .int (xs (5 * t + 2)), .ref out]) C hy_L_herb (c_L_herb Γ l (xs (5 * t + 1)) (xs (5 * t + 2)) hl hL hI hO) qw_380 ⟨Nat.le_of_ble_eq_true rfl, Nat.le_of_ble_eq_true rfl⟩ (Nat.le_of_ble_eq_true rfl) rfl ⟨by show 113 + 2 * t + 2 ≤ 636058; omega, by show 1563 + 14 * t + 13 ≤ 7187931; omega⟩ dL_law_138 rfl rfl (fun r M4 hp => ?_)
      obtain ⟨kc, rfl, k1, k2, ⟨g4, k3, k4⟩, k5⟩ := hp
      subst k1
      have hM4 := hM.kp k5
      obtain ⟨s4, a4, o4, ad4, G4, e4, f4, hq4⟩ := id hM4
      refine g_istore5 (q := 143) C dL_law_141 (by first | rfl | exact hNw_rf _) rfl ?_
      refine g_aload_n (q := 144) C dL_law_143 rfl (by first | exact hRef_r _ | exact hRef_o _ | exact hRef_n) rfl ?_
      refine g_aload_n (q := 145) C dL_law_144 rfl (by first | exact hRef_r _ | exact hRef_o _ | exact hRef_n) rfl ?_
      refine g_iload (q := 147) C dL_law_145 rfl rfl ?_
      refine g_iconst (q := 148) (1) C dL_law_147 (by decide) rfl ?_
      refine g_iadd (q := 149) C dL_law_148 rfl ?_
      refine g_xald (q := 150) C hX hbl hbA (5 * t + 1) (nI_a 1) (by omega) (by omega) dL_law_149 rfl ?_
      refine g_aload_n (q := 151) C dL_law_150 rfl (by first | exact hRef_r _ | exact hRef_o _ | exact hRef_n) rfl ?_
      refine g_iload (q := 153) C dL_law_151 rfl rfl ?_
      refine g_iconst (q := 154) (2) C dL_law_153 (by decide) rfl ?_
      refine g_iadd (q := 155) C dL_law_154 rfl ?_
      refine g_xald (q := 156) C hX hbl hbA (5 * t + 2) (nI_a 2) (by omega) (by omega) dL_law_155 rfl ?_
      refine g_callV2I (q := 159) C hy_X6_herb (c_X6_herb Γ l (xs (5 * t + 1)) (xs (5 * t + 2)) hM4 hI) qw_756 (by exact hq4.1) rfl ⟨Nat.le_of_ble_eq_true rfl, Nat.le_of_ble_eq_true rfl⟩ (Nat.le_of_ble_eq_true rfl) rfl dL_law_156 ⟨rfl, rfl⟩ ⟨by show 113 + 2 * t + 2 ≤ 636058; omega, by show 1563 + 14 * t + 13 ≤ 7187931; omega⟩ rfl (fun x_156 M_156 p_156 => ?_)
      obtain ⟨u1, u2, u3⟩ := p_156
      have hL5 := k2.km u3
      have hO5 := u3 _ _ _ k3 (Or.inr ⟨by show (11 : Nat) ≠ 6; decide, by show (11 : Nat) ≠ 7; decide, by show (11 : Nat) ≠ 10; decide⟩)
      obtain ⟨s5, a5, o5_, ad5, G5, e5, f5, hq5⟩ := id u1
      have hI5 := (hI.herb (xs (5 * t + 1)) (xs (5 * t + 2)))
      refine g_istore6 (q := 161) C dL_law_159 (by first | rfl | exact hNw_rf _) rfl ?_
      refine g_aload_n (q := 162) C dL_law_161 rfl (by first | exact hRef_r _ | exact hRef_o _ | exact hRef_n) rfl ?_
      refine g_callV0P (q := 165) C hy_X6_thrown (c_X6_thrown Γ l hq5 hI5) qw_752 (by exact hq5.1) rfl ⟨Nat.le_of_ble_eq_true rfl, Nat.le_of_ble_eq_true rfl⟩ (Nat.le_of_ble_eq_true rfl) rfl dL_law_162 ⟨rfl, rfl⟩ ⟨by show 113 + 2 * t + 2 ≤ 636058; omega, by show 1563 + 14 * t + 13 ≤ 7187931; omega⟩ rfl ?_
      refine g_iload (q := 167) C dL_law_165 rfl rfl ?_
      refine g_icmp_eq (t := 172) (q := 170) C dL_law_167 (by decide) rfl (fun c_167 => ?_) (fun c_167 => ?_)
      · skip
        refine g_iload (q := 174) C dL_law_172 rfl rfl ?_
        refine g_if_ne (t := 189) (q := 177) C dL_law_174 (by decide) rfl (fun c_174 => ?_) (fun c_174 => ?_)
        · skip
          refine g_goto (t := 1284) C dL_law_189 (by decide) ?_
          refine g_iinc4 (q := 1287) (5) C dL_law_1284 (by decide) (by first | rfl | exact hNw_rf _) rfl ?_
          refine g_goto (t := 23) C dL_law_1287 (by decide) ?_
          rw [show nI (5 * t) + 5 = nI (5 * (t + 1)) from nI_a 5]
          refine g_widen (n' := 113 + 2 * (t + 1)) (z' := 1563 + 14 * (t + 1)) (by show 113 + 2 * t + 2 ≤ _; omega) (by show 1563 + 14 * t + 13 ≤ _; omega) ?_
          exact ih hlt _ _ _ _ _ _ _ _ hI5 hL5 u1 hO5
        · skip
          have hc0 : (sHerb S (xs (5 * t + 1)) (xs (5 * t + 2))).1 = 0 := nIz (sHerb_le S (xs (5 * t + 1)) (xs (5 * t + 2))) c_174
          refine g_aload_n (q := 178) C dL_law_177 rfl (by first | exact hRef_r _ | exact hRef_o _ | exact hRef_n) rfl ?_
          refine g_iconst (q := 179) (0) C dL_law_178 (by decide) rfl ?_
          refine g_lald (q := 180) C 0 rfl (by decide) (by decide) dL_law_179 hO5 rfl ?_
          refine g_iload (q := 182) C dL_law_180 rfl rfl ?_
          refine g_i2l (q := 183) C dL_law_182 rfl ?_
          refine g_lcmp (q := 184) C dL_law_183 rfl ?_
          refine g_if_eq (t := 189) (q := 187) C dL_law_184 (by decide) rfl (fun c_184 => ?_) (fun c_184 => ?_)
          · skip
            refine g_goto (t := 1284) C dL_law_189 (by decide) ?_
            refine g_iinc4 (q := 1287) (5) C dL_law_1284 (by decide) (by first | rfl | exact hNw_rf _) rfl ?_
            refine g_goto (t := 23) C dL_law_1287 (by decide) ?_
            rw [show nI (5 * t) + 5 = nI (5 * (t + 1)) from nI_a 5]
            refine g_widen (n' := 113 + 2 * (t + 1)) (z' := 1563 + 14 * (t + 1)) (by show 113 + 2 * t + 2 ≤ _; omega) (by show 1563 + 14 * t + 13 ≤ _; omega) ?_
            exact ih hlt _ _ _ _ _ _ _ _ hI5 hL5 u1 hO5
          · skip
            exact absurd (by rw [k4 hc0, u2 hc0]; exact lgc _) c_184
      · skip
        exact absurd rfl c_167
    by_cases s_1 : xs (5 * t) &&& 31 = 1
    · skip
      refine g_tswI (t := 192) 1 C dL_law_39 (by rw [s_1]; rfl) (by decide) (by decide) rfl (by decide) ?_
      refine g_aload_n (q := 193) C dL_law_192 rfl (by first | exact hRef_r _ | exact hRef_o _ | exact hRef_n) rfl ?_
      refine g_aload_n (q := 194) C dL_law_193 rfl (by first | exact hRef_r _ | exact hRef_o _ | exact hRef_n) rfl ?_
      refine g_iload (q := 196) C dL_law_194 rfl rfl ?_
      refine g_iconst (q := 197) (1) C dL_law_196 (by decide) rfl ?_
      refine g_iadd (q := 198) C dL_law_197 rfl ?_
      refine g_xald (q := 199) C hX hbl hbA (5 * t + 1) (nI_a 1) (by omega) (by omega) dL_law_198 rfl ?_
      refine g_aload_n (q := 200) C dL_law_199 rfl (by first | exact hRef_r _ | exact hRef_o _ | exact hRef_n) rfl ?_
      refine g_iload (q := 202) C dL_law_200 rfl rfl ?_
      refine g_iconst (q := 203) (2) C dL_law_202 (by decide) rfl ?_
      refine g_iadd (q := 204) C dL_law_203 rfl ?_
      refine g_xald (q := 205) C hX hbl hbA (5 * t + 2) (nI_a 2) (by omega) (by omega) dL_law_204 rfl ?_
      refine g_aload_n (q := 206) C dL_law_205 rfl (by first | exact hRef_r _ | exact hRef_o _ | exact hRef_n) rfl ?_
      refine g_iload (q := 208) C dL_law_206 rfl rfl ?_
      refine g_iconst (q := 209) (3) C dL_law_208 (by decide) rfl ?_
      refine g_iadd (q := 210) C dL_law_209 rfl ?_
      refine g_xald (q := 211) C hX hbl hbA (5 * t + 3) (nI_a 3) (by omega) (by omega) dL_law_210 rfl ?_
      refine g_aload_n (q := 212) C dL_law_211 rfl (by first | exact hRef_r _ | exact hRef_o _ | exact hRef_n) rfl ?_
      refine g_iload (q := 214) C dL_law_212 rfl rfl ?_
      refine g_iconst (q := 215) (4) C dL_law_214 (by decide) rfl ?_
      refine g_iadd (q := 216) C dL_law_215 rfl ?_
      refine g_xald (q := 217) C hX hbl hbA (5 * t + 4) (nI_a 4) (by omega) (by omega) dL_law_216 rfl ?_
      refine g_aload_n (q := 218) C dL_law_217 rfl (by first | exact hRef_r _ | exact hRef_o _ | exact hRef_n) rfl ?_
      refine gx_callSW (As := [.ref x, .int (xs (5 * t + 1)), .int (xs (5 * t + 2)), .int (xs (5 * t + 3)), .int (xs (5 * t + 4)), .ref out]) C hy_L_hang (c_L_hang Γ l (xs (5 * t + 1)) (xs (5 * t + 2)) (xs (5 * t + 3)) (xs (5 * t + 4)) hl hL hI hO) qw_501 ⟨Nat.le_of_ble_eq_true rfl, Nat.le_of_ble_eq_true rfl⟩ (Nat.le_of_ble_eq_true rfl) rfl ⟨by show 113 + 2 * t + 1 ≤ 636058; omega, by show 1563 + 14 * t + 6 ≤ 7187931; omega⟩ dL_law_218 rfl rfl (fun r M4 hp => ?_)
      obtain ⟨kc, rfl, k1, k2, ⟨g4, k3, k4⟩, k5⟩ := hp
      subst k1
      have hM4 := hM.kp k5
      obtain ⟨s4, a4, o4, ad4, G4, e4, f4, hq4⟩ := id hM4
      refine g_istore5 (q := 223) C dL_law_221 (by first | rfl | exact hNw_rf _) rfl ?_
      refine g_aload_n (q := 224) C dL_law_223 rfl (by first | exact hRef_r _ | exact hRef_o _ | exact hRef_n) rfl ?_
      refine g_aload_n (q := 225) C dL_law_224 rfl (by first | exact hRef_r _ | exact hRef_o _ | exact hRef_n) rfl ?_
      refine g_iload (q := 227) C dL_law_225 rfl rfl ?_
      refine g_iconst (q := 228) (1) C dL_law_227 (by decide) rfl ?_
      refine g_iadd (q := 229) C dL_law_228 rfl ?_
      refine g_xald (q := 230) C hX hbl hbA (5 * t + 1) (nI_a 1) (by omega) (by omega) dL_law_229 rfl ?_
      refine g_aload_n (q := 231) C dL_law_230 rfl (by first | exact hRef_r _ | exact hRef_o _ | exact hRef_n) rfl ?_
      refine g_iload (q := 233) C dL_law_231 rfl rfl ?_
      refine g_iconst (q := 234) (2) C dL_law_233 (by decide) rfl ?_
      refine g_iadd (q := 235) C dL_law_234 rfl ?_
      refine g_xald (q := 236) C hX hbl hbA (5 * t + 2) (nI_a 2) (by omega) (by omega) dL_law_235 rfl ?_
      refine g_aload_n (q := 237) C dL_law_236 rfl (by first | exact hRef_r _ | exact hRef_o _ | exact hRef_n) rfl ?_
      refine g_iload (q := 239) C dL_law_237 rfl rfl ?_
      refine g_iconst (q := 240) (3) C dL_law_239 (by decide) rfl ?_
      refine g_iadd (q := 241) C dL_law_240 rfl ?_
      refine g_xald (q := 242) C hX hbl hbA (5 * t + 3) (nI_a 3) (by omega) (by omega) dL_law_241 rfl ?_
      refine g_aload_n (q := 243) C dL_law_242 rfl (by first | exact hRef_r _ | exact hRef_o _ | exact hRef_n) rfl ?_
      refine g_iload (q := 245) C dL_law_243 rfl rfl ?_
      refine g_iconst (q := 246) (4) C dL_law_245 (by decide) rfl ?_
      refine g_iadd (q := 247) C dL_law_246 rfl ?_
      refine g_xald (q := 248) C hX hbl hbA (5 * t + 4) (nI_a 4) (by omega) (by omega) dL_law_247 rfl ?_
      refine g_callV4I (q := 251) C hy_X6_hang (c_X6_hang Γ l (xs (5 * t + 1)) (xs (5 * t + 2)) (xs (5 * t + 3)) (xs (5 * t + 4)) hM4 hI) qw_767 (by exact hq4.1) rfl ⟨Nat.le_of_ble_eq_true rfl, Nat.le_of_ble_eq_true rfl⟩ (Nat.le_of_ble_eq_true rfl) rfl dL_law_248 ⟨rfl, rfl⟩ ⟨by show 113 + 2 * t + 1 ≤ 636058; omega, by show 1563 + 14 * t + 6 ≤ 7187931; omega⟩ rfl (fun x_248 M_248 p_248 => ?_)
      obtain ⟨u1, u2, u3⟩ := p_248
      have hL5 := k2.km u3
      have hO5 := u3 _ _ _ k3 (Or.inr ⟨by show (11 : Nat) ≠ 6; decide, by show (11 : Nat) ≠ 7; decide, by show (11 : Nat) ≠ 10; decide⟩)
      obtain ⟨s5, a5, o5_, ad5, G5, e5, f5, hq5⟩ := id u1
      have hI5 := (hI.hang (xs (5 * t + 1)) (xs (5 * t + 2)) (xs (5 * t + 3)) (xs (5 * t + 4)))
      refine g_istore6 (q := 253) C dL_law_251 (by first | rfl | exact hNw_rf _) rfl ?_
      refine g_aload_n (q := 254) C dL_law_253 rfl (by first | exact hRef_r _ | exact hRef_o _ | exact hRef_n) rfl ?_
      refine g_callV0P (q := 257) C hy_X6_thrown (c_X6_thrown Γ l hq5 hI5) qw_752 (by exact hq5.1) rfl ⟨Nat.le_of_ble_eq_true rfl, Nat.le_of_ble_eq_true rfl⟩ (Nat.le_of_ble_eq_true rfl) rfl dL_law_254 ⟨rfl, rfl⟩ ⟨by show 113 + 2 * t + 1 ≤ 636058; omega, by show 1563 + 14 * t + 6 ≤ 7187931; omega⟩ rfl ?_
      refine g_iload (q := 259) C dL_law_257 rfl rfl ?_
      refine g_icmp_eq (t := 264) (q := 262) C dL_law_259 (by decide) rfl (fun c_259 => ?_) (fun c_259 => ?_)
      · skip
        refine g_iload (q := 266) C dL_law_264 rfl rfl ?_
        refine g_if_ne (t := 281) (q := 269) C dL_law_266 (by decide) rfl (fun c_266 => ?_) (fun c_266 => ?_)
        · skip
          refine g_goto (t := 1284) C dL_law_281 (by decide) ?_
          refine g_iinc4 (q := 1287) (5) C dL_law_1284 (by decide) (by first | rfl | exact hNw_rf _) rfl ?_
          refine g_goto (t := 23) C dL_law_1287 (by decide) ?_
          rw [show nI (5 * t) + 5 = nI (5 * (t + 1)) from nI_a 5]
          refine g_widen (n' := 113 + 2 * (t + 1)) (z' := 1563 + 14 * (t + 1)) (by show 113 + 2 * t + 1 ≤ _; omega) (by show 1563 + 14 * t + 6 ≤ _; omega) ?_
          exact ih hlt _ _ _ _ _ _ _ _ hI5 hL5 u1 hO5
        · skip
          have hc0 : (sHang S (xs (5 * t + 1)) (xs (5 * t + 2)) (xs (5 * t + 3)) (xs (5 * t + 4))).1 = 0 := nIz (sHang_le S (xs (5 * t + 1)) (xs (5 * t + 2)) (xs (5 * t + 3)) (xs (5 * t + 4))) c_266
          refine g_aload_n (q := 270) C dL_law_269 rfl (by first | exact hRef_r _ | exact hRef_o _ | exact hRef_n) rfl ?_
          refine g_iconst (q := 271) (0) C dL_law_270 (by decide) rfl ?_
          refine g_lald (q := 272) C 0 rfl (by decide) (by decide) dL_law_271 hO5 rfl ?_
          refine g_iload (q := 274) C dL_law_272 rfl rfl ?_
          refine g_i2l (q := 275) C dL_law_274 rfl ?_
          refine g_lcmp (q := 276) C dL_law_275 rfl ?_
          refine g_if_eq (t := 281) (q := 279) C dL_law_276 (by decide) rfl (fun c_276 => ?_) (fun c_276 => ?_)
          · skip
            refine g_goto (t := 1284) C dL_law_281 (by decide) ?_
            refine g_iinc4 (q := 1287) (5) C dL_law_1284 (by decide) (by first | rfl | exact hNw_rf _) rfl ?_
            refine g_goto (t := 23) C dL_law_1287 (by decide) ?_
            rw [show nI (5 * t) + 5 = nI (5 * (t + 1)) from nI_a 5]
            refine g_widen (n' := 113 + 2 * (t + 1)) (z' := 1563 + 14 * (t + 1)) (by show 113 + 2 * t + 1 ≤ _; omega) (by show 1563 + 14 * t + 6 ≤ _; omega) ?_
            exact ih hlt _ _ _ _ _ _ _ _ hI5 hL5 u1 hO5
          · skip
            exact absurd (by rw [k4 hc0, u2 hc0]; exact lgc _) c_276
      · skip
        exact absurd rfl c_259
    by_cases s_2 : xs (5 * t) &&& 31 = 2
    · skip
      refine g_tswI (t := 284) 2 C dL_law_39 (by rw [s_2]; rfl) (by decide) (by decide) rfl (by decide) ?_
      refine g_aload_n (q := 285) C dL_law_284 rfl (by first | exact hRef_r _ | exact hRef_o _ | exact hRef_n) rfl ?_
      refine g_aload_n (q := 286) C dL_law_285 rfl (by first | exact hRef_r _ | exact hRef_o _ | exact hRef_n) rfl ?_
      refine g_iload (q := 288) C dL_law_286 rfl rfl ?_
      refine g_iconst (q := 289) (1) C dL_law_288 (by decide) rfl ?_
      refine g_iadd (q := 290) C dL_law_289 rfl ?_
      refine g_xald (q := 291) C hX hbl hbA (5 * t + 1) (nI_a 1) (by omega) (by omega) dL_law_290 rfl ?_
      refine g_aload_n (q := 292) C dL_law_291 rfl (by first | exact hRef_r _ | exact hRef_o _ | exact hRef_n) rfl ?_
      refine g_iload (q := 294) C dL_law_292 rfl rfl ?_
      refine g_iconst (q := 295) (2) C dL_law_294 (by decide) rfl ?_
      refine g_iadd (q := 296) C dL_law_295 rfl ?_
      refine g_xald (q := 297) C hX hbl hbA (5 * t + 2) (nI_a 2) (by omega) (by omega) dL_law_296 rfl ?_
      refine g_aload_n (q := 298) C dL_law_297 rfl (by first | exact hRef_r _ | exact hRef_o _ | exact hRef_n) rfl ?_
      refine gx_callSW (As := [.ref x, .int (xs (5 * t + 1)), .int (xs (5 * t + 2)), .ref out]) C hy_L_take (c_L_take Γ l (xs (5 * t + 1)) (xs (5 * t + 2)) hl hL hI hO) qw_513 ⟨Nat.le_of_ble_eq_true rfl, Nat.le_of_ble_eq_true rfl⟩ (Nat.le_of_ble_eq_true rfl) rfl ⟨by show 113 + 2 * t + 1 ≤ 636058; omega, by show 1563 + 14 * t + 6 ≤ 7187931; omega⟩ dL_law_298 rfl rfl (fun r M4 hp => ?_)
      obtain ⟨kc, rfl, k1, k2, ⟨g4, k3, k4⟩, k5⟩ := hp
      subst k1
      have hM4 := hM.kp k5
      obtain ⟨s4, a4, o4, ad4, G4, e4, f4, hq4⟩ := id hM4
      refine g_istore5 (q := 303) C dL_law_301 (by first | rfl | exact hNw_rf _) rfl ?_
      refine g_aload_n (q := 304) C dL_law_303 rfl (by first | exact hRef_r _ | exact hRef_o _ | exact hRef_n) rfl ?_
      refine g_aload_n (q := 305) C dL_law_304 rfl (by first | exact hRef_r _ | exact hRef_o _ | exact hRef_n) rfl ?_
      refine g_iload (q := 307) C dL_law_305 rfl rfl ?_
      refine g_iconst (q := 308) (1) C dL_law_307 (by decide) rfl ?_
      refine g_iadd (q := 309) C dL_law_308 rfl ?_
      refine g_xald (q := 310) C hX hbl hbA (5 * t + 1) (nI_a 1) (by omega) (by omega) dL_law_309 rfl ?_
      refine g_aload_n (q := 311) C dL_law_310 rfl (by first | exact hRef_r _ | exact hRef_o _ | exact hRef_n) rfl ?_
      refine g_iload (q := 313) C dL_law_311 rfl rfl ?_
      refine g_iconst (q := 314) (2) C dL_law_313 (by decide) rfl ?_
      refine g_iadd (q := 315) C dL_law_314 rfl ?_
      refine g_xald (q := 316) C hX hbl hbA (5 * t + 2) (nI_a 2) (by omega) (by omega) dL_law_315 rfl ?_
      refine g_callV2I (q := 319) C hy_X6_take (c_X6_take Γ l (xs (5 * t + 1)) (xs (5 * t + 2)) hM4 hI) qw_791 (by exact hq4.1) rfl ⟨Nat.le_of_ble_eq_true rfl, Nat.le_of_ble_eq_true rfl⟩ (Nat.le_of_ble_eq_true rfl) rfl dL_law_316 ⟨rfl, rfl⟩ ⟨by show 113 + 2 * t + 1 ≤ 636058; omega, by show 1563 + 14 * t + 6 ≤ 7187931; omega⟩ rfl (fun x_316 M_316 p_316 => ?_)
      obtain ⟨u1, u2, u3⟩ := p_316
      have hL5 := k2.km u3
      have hO5 := u3 _ _ _ k3 (Or.inr ⟨by show (11 : Nat) ≠ 6; decide, by show (11 : Nat) ≠ 7; decide, by show (11 : Nat) ≠ 10; decide⟩)
      obtain ⟨s5, a5, o5_, ad5, G5, e5, f5, hq5⟩ := id u1
      have hI5 := (hI.take (xs (5 * t + 1)) (xs (5 * t + 2)))
      refine g_istore6 (q := 321) C dL_law_319 (by first | rfl | exact hNw_rf _) rfl ?_
      refine g_aload_n (q := 322) C dL_law_321 rfl (by first | exact hRef_r _ | exact hRef_o _ | exact hRef_n) rfl ?_
      refine g_callV0P (q := 325) C hy_X6_thrown (c_X6_thrown Γ l hq5 hI5) qw_752 (by exact hq5.1) rfl ⟨Nat.le_of_ble_eq_true rfl, Nat.le_of_ble_eq_true rfl⟩ (Nat.le_of_ble_eq_true rfl) rfl dL_law_322 ⟨rfl, rfl⟩ ⟨by show 113 + 2 * t + 1 ≤ 636058; omega, by show 1563 + 14 * t + 6 ≤ 7187931; omega⟩ rfl ?_
      refine g_iload (q := 327) C dL_law_325 rfl rfl ?_
      refine g_icmp_eq (t := 332) (q := 330) C dL_law_327 (by decide) rfl (fun c_327 => ?_) (fun c_327 => ?_)
      · skip
        refine g_iload (q := 334) C dL_law_332 rfl rfl ?_
        refine g_if_ne (t := 349) (q := 337) C dL_law_334 (by decide) rfl (fun c_334 => ?_) (fun c_334 => ?_)
        · skip
          refine g_goto (t := 1284) C dL_law_349 (by decide) ?_
          refine g_iinc4 (q := 1287) (5) C dL_law_1284 (by decide) (by first | rfl | exact hNw_rf _) rfl ?_
          refine g_goto (t := 23) C dL_law_1287 (by decide) ?_
          rw [show nI (5 * t) + 5 = nI (5 * (t + 1)) from nI_a 5]
          refine g_widen (n' := 113 + 2 * (t + 1)) (z' := 1563 + 14 * (t + 1)) (by show 113 + 2 * t + 1 ≤ _; omega) (by show 1563 + 14 * t + 6 ≤ _; omega) ?_
          exact ih hlt _ _ _ _ _ _ _ _ hI5 hL5 u1 hO5
        · skip
          have hc0 : (sTake S (xs (5 * t + 1)) (xs (5 * t + 2))).1 = 0 := nIz (sTake_le S (xs (5 * t + 1)) (xs (5 * t + 2))) c_334
          refine g_aload_n (q := 338) C dL_law_337 rfl (by first | exact hRef_r _ | exact hRef_o _ | exact hRef_n) rfl ?_
          refine g_iconst (q := 339) (0) C dL_law_338 (by decide) rfl ?_
          refine g_lald (q := 340) C 0 rfl (by decide) (by decide) dL_law_339 hO5 rfl ?_
          refine g_iload (q := 342) C dL_law_340 rfl rfl ?_
          refine g_i2l (q := 343) C dL_law_342 rfl ?_
          refine g_lcmp (q := 344) C dL_law_343 rfl ?_
          refine g_if_eq (t := 349) (q := 347) C dL_law_344 (by decide) rfl (fun c_344 => ?_) (fun c_344 => ?_)
          · skip
            refine g_goto (t := 1284) C dL_law_349 (by decide) ?_
            refine g_iinc4 (q := 1287) (5) C dL_law_1284 (by decide) (by first | rfl | exact hNw_rf _) rfl ?_
            refine g_goto (t := 23) C dL_law_1287 (by decide) ?_
            rw [show nI (5 * t) + 5 = nI (5 * (t + 1)) from nI_a 5]
            refine g_widen (n' := 113 + 2 * (t + 1)) (z' := 1563 + 14 * (t + 1)) (by show 113 + 2 * t + 1 ≤ _; omega) (by show 1563 + 14 * t + 6 ≤ _; omega) ?_
            exact ih hlt _ _ _ _ _ _ _ _ hI5 hL5 u1 hO5
          · skip
            exact absurd (by rw [k4 hc0, u2 hc0]; exact lgc _) c_344
      · skip
        exact absurd rfl c_327
    by_cases s_3 : xs (5 * t) &&& 31 = 3
    · skip
      refine g_tswI (t := 352) 3 C dL_law_39 (by rw [s_3]; rfl) (by decide) (by decide) rfl (by decide) ?_
      refine g_aload_n (q := 353) C dL_law_352 rfl (by first | exact hRef_r _ | exact hRef_o _ | exact hRef_n) rfl ?_
      refine g_aload_n (q := 354) C dL_law_353 rfl (by first | exact hRef_r _ | exact hRef_o _ | exact hRef_n) rfl ?_
      refine g_iload (q := 356) C dL_law_354 rfl rfl ?_
      refine g_iconst (q := 357) (1) C dL_law_356 (by decide) rfl ?_
      refine g_iadd (q := 358) C dL_law_357 rfl ?_
      refine g_xald (q := 359) C hX hbl hbA (5 * t + 1) (nI_a 1) (by omega) (by omega) dL_law_358 rfl ?_
      refine g_aload_n (q := 360) C dL_law_359 rfl (by first | exact hRef_r _ | exact hRef_o _ | exact hRef_n) rfl ?_
      refine g_iload (q := 362) C dL_law_360 rfl rfl ?_
      refine g_iconst (q := 363) (2) C dL_law_362 (by decide) rfl ?_
      refine g_iadd (q := 364) C dL_law_363 rfl ?_
      refine g_xald (q := 365) C hX hbl hbA (5 * t + 2) (nI_a 2) (by omega) (by omega) dL_law_364 rfl ?_
      refine g_aload_n (q := 366) C dL_law_365 rfl (by first | exact hRef_r _ | exact hRef_o _ | exact hRef_n) rfl ?_
      refine g_iload (q := 368) C dL_law_366 rfl rfl ?_
      refine g_iconst (q := 369) (3) C dL_law_368 (by decide) rfl ?_
      refine g_iadd (q := 370) C dL_law_369 rfl ?_
      refine g_xald (q := 371) C hX hbl hbA (5 * t + 3) (nI_a 3) (by omega) (by omega) dL_law_370 rfl ?_
      refine g_aload_n (q := 372) C dL_law_371 rfl (by first | exact hRef_r _ | exact hRef_o _ | exact hRef_n) rfl ?_
      refine g_iload (q := 374) C dL_law_372 rfl rfl ?_
      refine g_iconst (q := 375) (4) C dL_law_374 (by decide) rfl ?_
      refine g_iadd (q := 376) C dL_law_375 rfl ?_
      refine g_xald (q := 377) C hX hbl hbA (5 * t + 4) (nI_a 4) (by omega) (by omega) dL_law_376 rfl ?_
      refine g_aload_n (q := 378) C dL_law_377 rfl (by first | exact hRef_r _ | exact hRef_o _ | exact hRef_n) rfl ?_
      refine gx_callSW (As := [.ref x, .int (xs (5 * t + 1)), .int (xs (5 * t + 2)), .int (xs (5 * t + 3)), .int (xs (5 * t + 4)), .ref out]) C hy_L_move (c_L_move Γ l (xs (5 * t + 1)) (xs (5 * t + 2)) (xs (5 * t + 3)) (xs (5 * t + 4)) hl hL hI hO) qw_523 ⟨Nat.le_of_ble_eq_true rfl, Nat.le_of_ble_eq_true rfl⟩ (Nat.le_of_ble_eq_true rfl) rfl ⟨by show 113 + 2 * t + 1 ≤ 636058; omega, by show 1563 + 14 * t + 6 ≤ 7187931; omega⟩ dL_law_378 rfl rfl (fun r M4 hp => ?_)
      obtain ⟨kc, rfl, k1, k2, ⟨g4, k3, k4⟩, k5⟩ := hp
      subst k1
      have hM4 := hM.kp k5
      obtain ⟨s4, a4, o4, ad4, G4, e4, f4, hq4⟩ := id hM4
      refine g_istore5 (q := 383) C dL_law_381 (by first | rfl | exact hNw_rf _) rfl ?_
      refine g_aload_n (q := 384) C dL_law_383 rfl (by first | exact hRef_r _ | exact hRef_o _ | exact hRef_n) rfl ?_
      refine g_aload_n (q := 385) C dL_law_384 rfl (by first | exact hRef_r _ | exact hRef_o _ | exact hRef_n) rfl ?_
      refine g_iload (q := 387) C dL_law_385 rfl rfl ?_
      refine g_iconst (q := 388) (1) C dL_law_387 (by decide) rfl ?_
      refine g_iadd (q := 389) C dL_law_388 rfl ?_
      refine g_xald (q := 390) C hX hbl hbA (5 * t + 1) (nI_a 1) (by omega) (by omega) dL_law_389 rfl ?_
      refine g_aload_n (q := 391) C dL_law_390 rfl (by first | exact hRef_r _ | exact hRef_o _ | exact hRef_n) rfl ?_
      refine g_iload (q := 393) C dL_law_391 rfl rfl ?_
      refine g_iconst (q := 394) (2) C dL_law_393 (by decide) rfl ?_
      refine g_iadd (q := 395) C dL_law_394 rfl ?_
      refine g_xald (q := 396) C hX hbl hbA (5 * t + 2) (nI_a 2) (by omega) (by omega) dL_law_395 rfl ?_
      refine g_aload_n (q := 397) C dL_law_396 rfl (by first | exact hRef_r _ | exact hRef_o _ | exact hRef_n) rfl ?_
      refine g_iload (q := 399) C dL_law_397 rfl rfl ?_
      refine g_iconst (q := 400) (3) C dL_law_399 (by decide) rfl ?_
      refine g_iadd (q := 401) C dL_law_400 rfl ?_
      refine g_xald (q := 402) C hX hbl hbA (5 * t + 3) (nI_a 3) (by omega) (by omega) dL_law_401 rfl ?_
      refine g_aload_n (q := 403) C dL_law_402 rfl (by first | exact hRef_r _ | exact hRef_o _ | exact hRef_n) rfl ?_
      refine g_iload (q := 405) C dL_law_403 rfl rfl ?_
      refine g_iconst (q := 406) (4) C dL_law_405 (by decide) rfl ?_
      refine g_iadd (q := 407) C dL_law_406 rfl ?_
      refine g_xald (q := 408) C hX hbl hbA (5 * t + 4) (nI_a 4) (by omega) (by omega) dL_law_407 rfl ?_
      refine g_callV4I (q := 411) C hy_X6_move (c_X6_move Γ l (xs (5 * t + 1)) (xs (5 * t + 2)) (xs (5 * t + 3)) (xs (5 * t + 4)) hM4 hI) qw_796 (by exact hq4.1) rfl ⟨Nat.le_of_ble_eq_true rfl, Nat.le_of_ble_eq_true rfl⟩ (Nat.le_of_ble_eq_true rfl) rfl dL_law_408 ⟨rfl, rfl⟩ ⟨by show 113 + 2 * t + 1 ≤ 636058; omega, by show 1563 + 14 * t + 6 ≤ 7187931; omega⟩ rfl (fun x_408 M_408 p_408 => ?_)
      obtain ⟨u1, u2, u3⟩ := p_408
      have hL5 := k2.km u3
      have hO5 := u3 _ _ _ k3 (Or.inr ⟨by show (11 : Nat) ≠ 6; decide, by show (11 : Nat) ≠ 7; decide, by show (11 : Nat) ≠ 10; decide⟩)
      obtain ⟨s5, a5, o5_, ad5, G5, e5, f5, hq5⟩ := id u1
      have hI5 := (hI.move (xs (5 * t + 1)) (xs (5 * t + 2)) (xs (5 * t + 3)) (xs (5 * t + 4)))
      refine g_istore6 (q := 413) C dL_law_411 (by first | rfl | exact hNw_rf _) rfl ?_
      refine g_aload_n (q := 414) C dL_law_413 rfl (by first | exact hRef_r _ | exact hRef_o _ | exact hRef_n) rfl ?_
      refine g_callV0P (q := 417) C hy_X6_thrown (c_X6_thrown Γ l hq5 hI5) qw_752 (by exact hq5.1) rfl ⟨Nat.le_of_ble_eq_true rfl, Nat.le_of_ble_eq_true rfl⟩ (Nat.le_of_ble_eq_true rfl) rfl dL_law_414 ⟨rfl, rfl⟩ ⟨by show 113 + 2 * t + 1 ≤ 636058; omega, by show 1563 + 14 * t + 6 ≤ 7187931; omega⟩ rfl ?_
      refine g_iload (q := 419) C dL_law_417 rfl rfl ?_
      refine g_icmp_eq (t := 424) (q := 422) C dL_law_419 (by decide) rfl (fun c_419 => ?_) (fun c_419 => ?_)
      · skip
        refine g_iload (q := 426) C dL_law_424 rfl rfl ?_
        refine g_if_ne (t := 441) (q := 429) C dL_law_426 (by decide) rfl (fun c_426 => ?_) (fun c_426 => ?_)
        · skip
          refine g_goto (t := 1284) C dL_law_441 (by decide) ?_
          refine g_iinc4 (q := 1287) (5) C dL_law_1284 (by decide) (by first | rfl | exact hNw_rf _) rfl ?_
          refine g_goto (t := 23) C dL_law_1287 (by decide) ?_
          rw [show nI (5 * t) + 5 = nI (5 * (t + 1)) from nI_a 5]
          refine g_widen (n' := 113 + 2 * (t + 1)) (z' := 1563 + 14 * (t + 1)) (by show 113 + 2 * t + 1 ≤ _; omega) (by show 1563 + 14 * t + 6 ≤ _; omega) ?_
          exact ih hlt _ _ _ _ _ _ _ _ hI5 hL5 u1 hO5
        · skip
          have hc0 : (sMove S (xs (5 * t + 1)) (xs (5 * t + 2)) (xs (5 * t + 3)) (xs (5 * t + 4))).1 = 0 := nIz (sMove_le S (xs (5 * t + 1)) (xs (5 * t + 2)) (xs (5 * t + 3)) (xs (5 * t + 4))) c_426
          refine g_aload_n (q := 430) C dL_law_429 rfl (by first | exact hRef_r _ | exact hRef_o _ | exact hRef_n) rfl ?_
          refine g_iconst (q := 431) (0) C dL_law_430 (by decide) rfl ?_
          refine g_lald (q := 432) C 0 rfl (by decide) (by decide) dL_law_431 hO5 rfl ?_
          refine g_iload (q := 434) C dL_law_432 rfl rfl ?_
          refine g_i2l (q := 435) C dL_law_434 rfl ?_
          refine g_lcmp (q := 436) C dL_law_435 rfl ?_
          refine g_if_eq (t := 441) (q := 439) C dL_law_436 (by decide) rfl (fun c_436 => ?_) (fun c_436 => ?_)
          · skip
            refine g_goto (t := 1284) C dL_law_441 (by decide) ?_
            refine g_iinc4 (q := 1287) (5) C dL_law_1284 (by decide) (by first | rfl | exact hNw_rf _) rfl ?_
            refine g_goto (t := 23) C dL_law_1287 (by decide) ?_
            rw [show nI (5 * t) + 5 = nI (5 * (t + 1)) from nI_a 5]
            refine g_widen (n' := 113 + 2 * (t + 1)) (z' := 1563 + 14 * (t + 1)) (by show 113 + 2 * t + 1 ≤ _; omega) (by show 1563 + 14 * t + 6 ≤ _; omega) ?_
            exact ih hlt _ _ _ _ _ _ _ _ hI5 hL5 u1 hO5
          · skip
            exact absurd (by rw [k4 hc0, u2 hc0]; exact lgc _) c_436
      · skip
        exact absurd rfl c_419
    by_cases s_4 : xs (5 * t) &&& 31 = 4
    · skip
      refine g_tswI (t := 444) 4 C dL_law_39 (by rw [s_4]; rfl) (by decide) (by decide) rfl (by decide) ?_
      refine g_aload_n (q := 445) C dL_law_444 rfl (by first | exact hRef_r _ | exact hRef_o _ | exact hRef_n) rfl ?_
      refine g_aload_n (q := 446) C dL_law_445 rfl (by first | exact hRef_r _ | exact hRef_o _ | exact hRef_n) rfl ?_
      refine g_iload (q := 448) C dL_law_446 rfl rfl ?_
      refine g_iconst (q := 449) (1) C dL_law_448 (by decide) rfl ?_
      refine g_iadd (q := 450) C dL_law_449 rfl ?_
      refine g_xald (q := 451) C hX hbl hbA (5 * t + 1) (nI_a 1) (by omega) (by omega) dL_law_450 rfl ?_
      refine g_aload_n (q := 452) C dL_law_451 rfl (by first | exact hRef_r _ | exact hRef_o _ | exact hRef_n) rfl ?_
      refine gx_callSW (As := [.ref x, .int (xs (5 * t + 1)), .ref out]) C hy_L_turn (c_L_turn Γ l (xs (5 * t + 1)) hl hL hI hO) qw_537 ⟨Nat.le_of_ble_eq_true rfl, Nat.le_of_ble_eq_true rfl⟩ (Nat.le_of_ble_eq_true rfl) rfl ⟨by show 113 + 2 * t + 1 ≤ 636058; omega, by show 1563 + 14 * t + 6 ≤ 7187931; omega⟩ dL_law_452 rfl rfl (fun r M4 hp => ?_)
      obtain ⟨kc, rfl, k1, k2, ⟨g4, k3, k4⟩, k5⟩ := hp
      subst k1
      have hM4 := hM.kp k5
      obtain ⟨s4, a4, o4, ad4, G4, e4, f4, hq4⟩ := id hM4
      refine g_istore5 (q := 457) C dL_law_455 (by first | rfl | exact hNw_rf _) rfl ?_
      refine g_aload_n (q := 458) C dL_law_457 rfl (by first | exact hRef_r _ | exact hRef_o _ | exact hRef_n) rfl ?_
      refine g_aload_n (q := 459) C dL_law_458 rfl (by first | exact hRef_r _ | exact hRef_o _ | exact hRef_n) rfl ?_
      refine g_iload (q := 461) C dL_law_459 rfl rfl ?_
      refine g_iconst (q := 462) (1) C dL_law_461 (by decide) rfl ?_
      refine g_iadd (q := 463) C dL_law_462 rfl ?_
      refine g_xald (q := 464) C hX hbl hbA (5 * t + 1) (nI_a 1) (by omega) (by omega) dL_law_463 rfl ?_
      refine g_callV1I (q := 467) C hy_X6_turn (c_X6_turn Γ l (xs (5 * t + 1)) hM4 hI) qw_813 (by exact hq4.1) rfl ⟨Nat.le_of_ble_eq_true rfl, Nat.le_of_ble_eq_true rfl⟩ (Nat.le_of_ble_eq_true rfl) rfl dL_law_464 ⟨rfl, rfl⟩ ⟨by show 113 + 2 * t + 1 ≤ 636058; omega, by show 1563 + 14 * t + 6 ≤ 7187931; omega⟩ rfl (fun x_464 M_464 p_464 => ?_)
      obtain ⟨u1, u2, u3⟩ := p_464
      have hL5 := k2.km u3
      have hO5 := u3 _ _ _ k3 (Or.inr ⟨by show (11 : Nat) ≠ 6; decide, by show (11 : Nat) ≠ 7; decide, by show (11 : Nat) ≠ 10; decide⟩)
      obtain ⟨s5, a5, o5_, ad5, G5, e5, f5, hq5⟩ := id u1
      have hI5 := (hI.turn (xs (5 * t + 1)))
      refine g_istore6 (q := 469) C dL_law_467 (by first | rfl | exact hNw_rf _) rfl ?_
      refine g_aload_n (q := 470) C dL_law_469 rfl (by first | exact hRef_r _ | exact hRef_o _ | exact hRef_n) rfl ?_
      refine g_callV0P (q := 473) C hy_X6_thrown (c_X6_thrown Γ l hq5 hI5) qw_752 (by exact hq5.1) rfl ⟨Nat.le_of_ble_eq_true rfl, Nat.le_of_ble_eq_true rfl⟩ (Nat.le_of_ble_eq_true rfl) rfl dL_law_470 ⟨rfl, rfl⟩ ⟨by show 113 + 2 * t + 1 ≤ 636058; omega, by show 1563 + 14 * t + 6 ≤ 7187931; omega⟩ rfl ?_
      refine g_iload (q := 475) C dL_law_473 rfl rfl ?_
      refine g_icmp_eq (t := 480) (q := 478) C dL_law_475 (by decide) rfl (fun c_475 => ?_) (fun c_475 => ?_)
      · skip
        refine g_iload (q := 482) C dL_law_480 rfl rfl ?_
        refine g_if_ne (t := 497) (q := 485) C dL_law_482 (by decide) rfl (fun c_482 => ?_) (fun c_482 => ?_)
        · skip
          refine g_goto (t := 1284) C dL_law_497 (by decide) ?_
          refine g_iinc4 (q := 1287) (5) C dL_law_1284 (by decide) (by first | rfl | exact hNw_rf _) rfl ?_
          refine g_goto (t := 23) C dL_law_1287 (by decide) ?_
          rw [show nI (5 * t) + 5 = nI (5 * (t + 1)) from nI_a 5]
          refine g_widen (n' := 113 + 2 * (t + 1)) (z' := 1563 + 14 * (t + 1)) (by show 113 + 2 * t + 1 ≤ _; omega) (by show 1563 + 14 * t + 6 ≤ _; omega) ?_
          exact ih hlt _ _ _ _ _ _ _ _ hI5 hL5 u1 hO5
        · skip
          have hc0 : (sTurn S (xs (5 * t + 1))).1 = 0 := nIz (sTurn_le S (xs (5 * t + 1))) c_482
          refine g_aload_n (q := 486) C dL_law_485 rfl (by first | exact hRef_r _ | exact hRef_o _ | exact hRef_n) rfl ?_
          refine g_iconst (q := 487) (0) C dL_law_486 (by decide) rfl ?_
          refine g_lald (q := 488) C 0 rfl (by decide) (by decide) dL_law_487 hO5 rfl ?_
          refine g_iload (q := 490) C dL_law_488 rfl rfl ?_
          refine g_i2l (q := 491) C dL_law_490 rfl ?_
          refine g_lcmp (q := 492) C dL_law_491 rfl ?_
          refine g_if_eq (t := 497) (q := 495) C dL_law_492 (by decide) rfl (fun c_492 => ?_) (fun c_492 => ?_)
          · skip
            refine g_goto (t := 1284) C dL_law_497 (by decide) ?_
            refine g_iinc4 (q := 1287) (5) C dL_law_1284 (by decide) (by first | rfl | exact hNw_rf _) rfl ?_
            refine g_goto (t := 23) C dL_law_1287 (by decide) ?_
            rw [show nI (5 * t) + 5 = nI (5 * (t + 1)) from nI_a 5]
            refine g_widen (n' := 113 + 2 * (t + 1)) (z' := 1563 + 14 * (t + 1)) (by show 113 + 2 * t + 1 ≤ _; omega) (by show 1563 + 14 * t + 6 ≤ _; omega) ?_
            exact ih hlt _ _ _ _ _ _ _ _ hI5 hL5 u1 hO5
          · skip
            exact absurd (by rw [k4 hc0, u2 hc0]; exact lgc _) c_492
      · skip
        exact absurd rfl c_475
    by_cases s_5 : xs (5 * t) &&& 31 = 5
    · skip
      refine g_tswI (t := 500) 5 C dL_law_39 (by rw [s_5]; rfl) (by decide) (by decide) rfl (by decide) ?_
      refine g_aload_n (q := 501) C dL_law_500 rfl (by first | exact hRef_r _ | exact hRef_o _ | exact hRef_n) rfl ?_
      refine g_aload_n (q := 502) C dL_law_501 rfl (by first | exact hRef_r _ | exact hRef_o _ | exact hRef_n) rfl ?_
      refine g_iload (q := 504) C dL_law_502 rfl rfl ?_
      refine g_iconst (q := 505) (1) C dL_law_504 (by decide) rfl ?_
      refine g_iadd (q := 506) C dL_law_505 rfl ?_
      refine g_xald (q := 507) C hX hbl hbA (5 * t + 1) (nI_a 1) (by omega) (by omega) dL_law_506 rfl ?_
      refine g_aload_n (q := 508) C dL_law_507 rfl (by first | exact hRef_r _ | exact hRef_o _ | exact hRef_n) rfl ?_
      refine gx_callSW (As := [.ref x, .int (xs (5 * t + 1)), .ref out]) C hy_L_setWindow (c_L_setWindow Γ l (xs (5 * t + 1)) hl hL hI hO) qw_553 ⟨Nat.le_of_ble_eq_true rfl, Nat.le_of_ble_eq_true rfl⟩ (Nat.le_of_ble_eq_true rfl) rfl ⟨by show 113 + 2 * t + 1 ≤ 636058; omega, by show 1563 + 14 * t + 6 ≤ 7187931; omega⟩ dL_law_508 rfl rfl (fun r M4 hp => ?_)
      obtain ⟨kc, rfl, k1, k2, ⟨g4, k3, k4⟩, k5⟩ := hp
      subst k1
      have hM4 := hM.kp k5
      obtain ⟨s4, a4, o4, ad4, G4, e4, f4, hq4⟩ := id hM4
      refine g_istore5 (q := 513) C dL_law_511 (by first | rfl | exact hNw_rf _) rfl ?_
      refine g_aload_n (q := 514) C dL_law_513 rfl (by first | exact hRef_r _ | exact hRef_o _ | exact hRef_n) rfl ?_
      refine g_aload_n (q := 515) C dL_law_514 rfl (by first | exact hRef_r _ | exact hRef_o _ | exact hRef_n) rfl ?_
      refine g_iload (q := 517) C dL_law_515 rfl rfl ?_
      refine g_iconst (q := 518) (1) C dL_law_517 (by decide) rfl ?_
      refine g_iadd (q := 519) C dL_law_518 rfl ?_
      refine g_xald (q := 520) C hX hbl hbA (5 * t + 1) (nI_a 1) (by omega) (by omega) dL_law_519 rfl ?_
      refine g_callV1I (q := 523) C hy_X6_setWindow (c_X6_setWindow Γ l (xs (5 * t + 1)) hM4 hI) qw_821 (by exact hq4.1) rfl ⟨Nat.le_of_ble_eq_true rfl, Nat.le_of_ble_eq_true rfl⟩ (Nat.le_of_ble_eq_true rfl) rfl dL_law_520 ⟨rfl, rfl⟩ ⟨by show 113 + 2 * t + 1 ≤ 636058; omega, by show 1563 + 14 * t + 6 ≤ 7187931; omega⟩ rfl (fun x_520 M_520 p_520 => ?_)
      obtain ⟨u1, u2, u3⟩ := p_520
      have hL5 := k2.km u3
      have hO5 := u3 _ _ _ k3 (Or.inr ⟨by show (11 : Nat) ≠ 6; decide, by show (11 : Nat) ≠ 7; decide, by show (11 : Nat) ≠ 10; decide⟩)
      obtain ⟨s5, a5, o5_, ad5, G5, e5, f5, hq5⟩ := id u1
      have hI5 := (hI.setW (xs (5 * t + 1)))
      refine g_istore6 (q := 525) C dL_law_523 (by first | rfl | exact hNw_rf _) rfl ?_
      refine g_aload_n (q := 526) C dL_law_525 rfl (by first | exact hRef_r _ | exact hRef_o _ | exact hRef_n) rfl ?_
      refine g_callV0P (q := 529) C hy_X6_thrown (c_X6_thrown Γ l hq5 hI5) qw_752 (by exact hq5.1) rfl ⟨Nat.le_of_ble_eq_true rfl, Nat.le_of_ble_eq_true rfl⟩ (Nat.le_of_ble_eq_true rfl) rfl dL_law_526 ⟨rfl, rfl⟩ ⟨by show 113 + 2 * t + 1 ≤ 636058; omega, by show 1563 + 14 * t + 6 ≤ 7187931; omega⟩ rfl ?_
      refine g_iload (q := 531) C dL_law_529 rfl rfl ?_
      refine g_icmp_eq (t := 536) (q := 534) C dL_law_531 (by decide) rfl (fun c_531 => ?_) (fun c_531 => ?_)
      · skip
        refine g_iload (q := 538) C dL_law_536 rfl rfl ?_
        refine g_if_ne (t := 553) (q := 541) C dL_law_538 (by decide) rfl (fun c_538 => ?_) (fun c_538 => ?_)
        · skip
          refine g_goto (t := 1284) C dL_law_553 (by decide) ?_
          refine g_iinc4 (q := 1287) (5) C dL_law_1284 (by decide) (by first | rfl | exact hNw_rf _) rfl ?_
          refine g_goto (t := 23) C dL_law_1287 (by decide) ?_
          rw [show nI (5 * t) + 5 = nI (5 * (t + 1)) from nI_a 5]
          refine g_widen (n' := 113 + 2 * (t + 1)) (z' := 1563 + 14 * (t + 1)) (by show 113 + 2 * t + 1 ≤ _; omega) (by show 1563 + 14 * t + 6 ≤ _; omega) ?_
          exact ih hlt _ _ _ _ _ _ _ _ hI5 hL5 u1 hO5
        · skip
          have hc0 : (sSetW S (xs (5 * t + 1))).1 = 0 := nIz (sSetW_le S (xs (5 * t + 1))) c_538
          refine g_aload_n (q := 542) C dL_law_541 rfl (by first | exact hRef_r _ | exact hRef_o _ | exact hRef_n) rfl ?_
          refine g_iconst (q := 543) (0) C dL_law_542 (by decide) rfl ?_
          refine g_lald (q := 544) C 0 rfl (by decide) (by decide) dL_law_543 hO5 rfl ?_
          refine g_iload (q := 546) C dL_law_544 rfl rfl ?_
          refine g_i2l (q := 547) C dL_law_546 rfl ?_
          refine g_lcmp (q := 548) C dL_law_547 rfl ?_
          refine g_if_eq (t := 553) (q := 551) C dL_law_548 (by decide) rfl (fun c_548 => ?_) (fun c_548 => ?_)
          · skip
            refine g_goto (t := 1284) C dL_law_553 (by decide) ?_
            refine g_iinc4 (q := 1287) (5) C dL_law_1284 (by decide) (by first | rfl | exact hNw_rf _) rfl ?_
            refine g_goto (t := 23) C dL_law_1287 (by decide) ?_
            rw [show nI (5 * t) + 5 = nI (5 * (t + 1)) from nI_a 5]
            refine g_widen (n' := 113 + 2 * (t + 1)) (z' := 1563 + 14 * (t + 1)) (by show 113 + 2 * t + 1 ≤ _; omega) (by show 1563 + 14 * t + 6 ≤ _; omega) ?_
            exact ih hlt _ _ _ _ _ _ _ _ hI5 hL5 u1 hO5
          · skip
            exact absurd (by rw [k4 hc0, u2 hc0]; exact lgc _) c_548
      · skip
        exact absurd rfl c_531
    by_cases s_6 : xs (5 * t) &&& 31 = 6
    · skip
      refine g_tswI (t := 556) 6 C dL_law_39 (by rw [s_6]; rfl) (by decide) (by decide) rfl (by decide) ?_
      refine g_aload_n (q := 557) C dL_law_556 rfl (by first | exact hRef_r _ | exact hRef_o _ | exact hRef_n) rfl ?_
      refine g_aload_n (q := 558) C dL_law_557 rfl (by first | exact hRef_r _ | exact hRef_o _ | exact hRef_n) rfl ?_
      refine g_iload (q := 560) C dL_law_558 rfl rfl ?_
      refine g_iconst (q := 561) (1) C dL_law_560 (by decide) rfl ?_
      refine g_iadd (q := 562) C dL_law_561 rfl ?_
      refine g_xald (q := 563) C hX hbl hbA (5 * t + 1) (nI_a 1) (by omega) (by omega) dL_law_562 rfl ?_
      refine g_aload_n (q := 564) C dL_law_563 rfl (by first | exact hRef_r _ | exact hRef_o _ | exact hRef_n) rfl ?_
      refine g_iload (q := 566) C dL_law_564 rfl rfl ?_
      refine g_iconst (q := 567) (2) C dL_law_566 (by decide) rfl ?_
      refine g_iadd (q := 568) C dL_law_567 rfl ?_
      refine g_xald (q := 569) C hX hbl hbA (5 * t + 2) (nI_a 2) (by omega) (by omega) dL_law_568 rfl ?_
      refine g_aload_n (q := 570) C dL_law_569 rfl (by first | exact hRef_r _ | exact hRef_o _ | exact hRef_n) rfl ?_
      refine g_iload (q := 572) C dL_law_570 rfl rfl ?_
      refine g_iconst (q := 573) (3) C dL_law_572 (by decide) rfl ?_
      refine g_iadd (q := 574) C dL_law_573 rfl ?_
      refine g_xald (q := 575) C hX hbl hbA (5 * t + 3) (nI_a 3) (by omega) (by omega) dL_law_574 rfl ?_
      refine g_aload_n (q := 576) C dL_law_575 rfl (by first | exact hRef_r _ | exact hRef_o _ | exact hRef_n) rfl ?_
      refine gx_callSW (As := [.ref x, .int (xs (5 * t + 1)), .int (xs (5 * t + 2)), .int (xs (5 * t + 3)), .ref out]) C hy_L_order (c_L_order Γ l (xs (5 * t + 1)) (xs (5 * t + 2)) (xs (5 * t + 3)) hl hL hI hO) qw_561 ⟨Nat.le_of_ble_eq_true rfl, Nat.le_of_ble_eq_true rfl⟩ (Nat.le_of_ble_eq_true rfl) rfl ⟨by show 113 + 2 * t + 2 ≤ 636058; omega, by show 1563 + 14 * t + 14 ≤ 7187931; omega⟩ dL_law_576 rfl rfl (fun r M4 hp => ?_)
      obtain ⟨kc, rfl, k1, k2, ⟨g4, k3, k4⟩, k5⟩ := hp
      subst k1
      have hM4 := hM.kp k5
      obtain ⟨s4, a4, o4, ad4, G4, e4, f4, hq4⟩ := id hM4
      refine g_istore5 (q := 581) C dL_law_579 (by first | rfl | exact hNw_rf _) rfl ?_
      refine g_aload_n (q := 582) C dL_law_581 rfl (by first | exact hRef_r _ | exact hRef_o _ | exact hRef_n) rfl ?_
      refine g_aload_n (q := 583) C dL_law_582 rfl (by first | exact hRef_r _ | exact hRef_o _ | exact hRef_n) rfl ?_
      refine g_iload (q := 585) C dL_law_583 rfl rfl ?_
      refine g_iconst (q := 586) (1) C dL_law_585 (by decide) rfl ?_
      refine g_iadd (q := 587) C dL_law_586 rfl ?_
      refine g_xald (q := 588) C hX hbl hbA (5 * t + 1) (nI_a 1) (by omega) (by omega) dL_law_587 rfl ?_
      refine g_aload_n (q := 589) C dL_law_588 rfl (by first | exact hRef_r _ | exact hRef_o _ | exact hRef_n) rfl ?_
      refine g_iload (q := 591) C dL_law_589 rfl rfl ?_
      refine g_iconst (q := 592) (2) C dL_law_591 (by decide) rfl ?_
      refine g_iadd (q := 593) C dL_law_592 rfl ?_
      refine g_xald (q := 594) C hX hbl hbA (5 * t + 2) (nI_a 2) (by omega) (by omega) dL_law_593 rfl ?_
      refine g_aload_n (q := 595) C dL_law_594 rfl (by first | exact hRef_r _ | exact hRef_o _ | exact hRef_n) rfl ?_
      refine g_iload (q := 597) C dL_law_595 rfl rfl ?_
      refine g_iconst (q := 598) (3) C dL_law_597 (by decide) rfl ?_
      refine g_iadd (q := 599) C dL_law_598 rfl ?_
      refine g_xald (q := 600) C hX hbl hbA (5 * t + 3) (nI_a 3) (by omega) (by omega) dL_law_599 rfl ?_
      refine g_callV3I (q := 603) C hy_X6_order (c_X6_order Γ l (xs (5 * t + 1)) (xs (5 * t + 2)) (xs (5 * t + 3)) hM4 hI) qw_825 (by exact hq4.1) rfl ⟨Nat.le_of_ble_eq_true rfl, Nat.le_of_ble_eq_true rfl⟩ (Nat.le_of_ble_eq_true rfl) rfl dL_law_600 ⟨rfl, rfl⟩ ⟨by show 113 + 2 * t + 2 ≤ 636058; omega, by show 1563 + 14 * t + 14 ≤ 7187931; omega⟩ rfl (fun x_600 M_600 p_600 => ?_)
      obtain ⟨u1, u2, u3⟩ := p_600
      have hL5 := k2.km u3
      have hO5 := u3 _ _ _ k3 (Or.inr ⟨by show (11 : Nat) ≠ 6; decide, by show (11 : Nat) ≠ 7; decide, by show (11 : Nat) ≠ 10; decide⟩)
      obtain ⟨s5, a5, o5_, ad5, G5, e5, f5, hq5⟩ := id u1
      have hI5 := (hI.ord (xs (5 * t + 1)) (xs (5 * t + 2)) (xs (5 * t + 3)))
      refine g_istore6 (q := 605) C dL_law_603 (by first | rfl | exact hNw_rf _) rfl ?_
      refine g_aload_n (q := 606) C dL_law_605 rfl (by first | exact hRef_r _ | exact hRef_o _ | exact hRef_n) rfl ?_
      refine g_callV0P (q := 609) C hy_X6_thrown (c_X6_thrown Γ l hq5 hI5) qw_752 (by exact hq5.1) rfl ⟨Nat.le_of_ble_eq_true rfl, Nat.le_of_ble_eq_true rfl⟩ (Nat.le_of_ble_eq_true rfl) rfl dL_law_606 ⟨rfl, rfl⟩ ⟨by show 113 + 2 * t + 2 ≤ 636058; omega, by show 1563 + 14 * t + 14 ≤ 7187931; omega⟩ rfl ?_
      refine g_iload (q := 611) C dL_law_609 rfl rfl ?_
      refine g_icmp_eq (t := 616) (q := 614) C dL_law_611 (by decide) rfl (fun c_611 => ?_) (fun c_611 => ?_)
      · skip
        refine g_iload (q := 618) C dL_law_616 rfl rfl ?_
        refine g_if_ne (t := 633) (q := 621) C dL_law_618 (by decide) rfl (fun c_618 => ?_) (fun c_618 => ?_)
        · skip
          refine g_goto (t := 1284) C dL_law_633 (by decide) ?_
          refine g_iinc4 (q := 1287) (5) C dL_law_1284 (by decide) (by first | rfl | exact hNw_rf _) rfl ?_
          refine g_goto (t := 23) C dL_law_1287 (by decide) ?_
          rw [show nI (5 * t) + 5 = nI (5 * (t + 1)) from nI_a 5]
          refine g_widen (n' := 113 + 2 * (t + 1)) (z' := 1563 + 14 * (t + 1)) (by show 113 + 2 * t + 2 ≤ _; omega) (by show 1563 + 14 * t + 14 ≤ _; omega) ?_
          exact ih hlt _ _ _ _ _ _ _ _ hI5 hL5 u1 hO5
        · skip
          have hc0 : (sOrd S (xs (5 * t + 1)) (xs (5 * t + 2)) (xs (5 * t + 3))).1 = 0 := nIz (sOrd_le S (xs (5 * t + 1)) (xs (5 * t + 2)) (xs (5 * t + 3))) c_618
          refine g_aload_n (q := 622) C dL_law_621 rfl (by first | exact hRef_r _ | exact hRef_o _ | exact hRef_n) rfl ?_
          refine g_iconst (q := 623) (0) C dL_law_622 (by decide) rfl ?_
          refine g_lald (q := 624) C 0 rfl (by decide) (by decide) dL_law_623 hO5 rfl ?_
          refine g_iload (q := 626) C dL_law_624 rfl rfl ?_
          refine g_i2l (q := 627) C dL_law_626 rfl ?_
          refine g_lcmp (q := 628) C dL_law_627 rfl ?_
          refine g_if_eq (t := 633) (q := 631) C dL_law_628 (by decide) rfl (fun c_628 => ?_) (fun c_628 => ?_)
          · skip
            refine g_goto (t := 1284) C dL_law_633 (by decide) ?_
            refine g_iinc4 (q := 1287) (5) C dL_law_1284 (by decide) (by first | rfl | exact hNw_rf _) rfl ?_
            refine g_goto (t := 23) C dL_law_1287 (by decide) ?_
            rw [show nI (5 * t) + 5 = nI (5 * (t + 1)) from nI_a 5]
            refine g_widen (n' := 113 + 2 * (t + 1)) (z' := 1563 + 14 * (t + 1)) (by show 113 + 2 * t + 2 ≤ _; omega) (by show 1563 + 14 * t + 14 ≤ _; omega) ?_
            exact ih hlt _ _ _ _ _ _ _ _ hI5 hL5 u1 hO5
          · skip
            exact absurd (by rw [k4 hc0, u2 hc0]; exact lgc _) c_628
      · skip
        exact absurd rfl c_611
    by_cases s_7 : xs (5 * t) &&& 31 = 7
    · skip
      refine g_tswI (t := 636) 7 C dL_law_39 (by rw [s_7]; rfl) (by decide) (by decide) rfl (by decide) ?_
      refine g_aload_n (q := 637) C dL_law_636 rfl (by first | exact hRef_r _ | exact hRef_o _ | exact hRef_n) rfl ?_
      refine g_callV0I (q := 640) C hy_X4_fill (c_X4_fill Γ l hL hI) qw_152 (by exact pL) rfl ⟨Nat.le_of_ble_eq_true rfl, Nat.le_of_ble_eq_true rfl⟩ (Nat.le_of_ble_eq_true rfl) rfl dL_law_637 ⟨rfl, rfl⟩ ⟨by show 113 + 2 * t + 0 ≤ 636058; omega, by show 1563 + 14 * t + 0 ≤ 7187931; omega⟩ rfl (fun x_637 M_637 p_637 => ?_)
      obtain ⟨v1, k2, k5⟩ := p_637
      have k5w := k5.wk noLw_c
      have hM4 := hM.kp k5w
      have k3 := k5 _ _ _ hO rfl
      obtain ⟨s4, a4, o4, ad4, G4, e4, f4, hq4⟩ := id hM4
      refine g_aload_n (q := 641) C dL_law_640 rfl (by first | exact hRef_r _ | exact hRef_o _ | exact hRef_n) rfl ?_
      refine g_callV0I (q := 644) C hy_X6_fill (c_X6_fill Γ l hM4 hI) qw_829 (by exact hq4.1) rfl ⟨Nat.le_of_ble_eq_true rfl, Nat.le_of_ble_eq_true rfl⟩ (Nat.le_of_ble_eq_true rfl) rfl dL_law_641 ⟨rfl, rfl⟩ ⟨by show 113 + 2 * t + 0 ≤ 636058; omega, by show 1563 + 14 * t + 0 ≤ 7187931; omega⟩ rfl (fun x_641 M_641 p_641 => ?_)
      obtain ⟨v2, u1, u3⟩ := p_641
      have hL5 := k2.km u3
      have hO5 := u3 _ _ _ k3 (Or.inr ⟨by show (11 : Nat) ≠ 6; decide, by show (11 : Nat) ≠ 7; decide, by show (11 : Nat) ≠ 10; decide⟩)
      have hI5 := hI.fill
      refine g_icmp_eq (t := 1284) (q := 647) C dL_law_644 (by decide) rfl (fun c_644 => ?_) (fun c_644 => ?_)
      · skip
        refine g_iinc4 (q := 1287) (5) C dL_law_1284 (by decide) (by first | rfl | exact hNw_rf _) rfl ?_
        refine g_goto (t := 23) C dL_law_1287 (by decide) ?_
        rw [show nI (5 * t) + 5 = nI (5 * (t + 1)) from nI_a 5]
        refine g_widen (n' := 113 + 2 * (t + 1)) (z' := 1563 + 14 * (t + 1)) (by show 113 + 2 * t + 0 ≤ _; omega) (by show 1563 + 14 * t + 0 ≤ _; omega) ?_
        exact ih hlt _ _ _ _ _ _ _ _ hI5 hL5 u1 hO5
      · skip
        exact absurd (v1.trans v2.symm) c_644
    by_cases s_8 : xs (5 * t) &&& 31 = 8
    · skip
      refine g_tswI (t := 649) 8 C dL_law_39 (by rw [s_8]; rfl) (by decide) (by decide) rfl (by decide) ?_
      refine g_aload_n (q := 650) C dL_law_649 rfl (by first | exact hRef_r _ | exact hRef_o _ | exact hRef_n) rfl ?_
      refine g_aload_n (q := 651) C dL_law_650 rfl (by first | exact hRef_r _ | exact hRef_o _ | exact hRef_n) rfl ?_
      refine g_iload (q := 653) C dL_law_651 rfl rfl ?_
      refine g_iconst (q := 654) (1) C dL_law_653 (by decide) rfl ?_
      refine g_iadd (q := 655) C dL_law_654 rfl ?_
      refine g_xald (q := 656) C hX hbl hbA (5 * t + 1) (nI_a 1) (by omega) (by omega) dL_law_655 rfl ?_
      refine g_aload_n (q := 657) C dL_law_656 rfl (by first | exact hRef_r _ | exact hRef_o _ | exact hRef_n) rfl ?_
      refine g_iload (q := 659) C dL_law_657 rfl rfl ?_
      refine g_iconst (q := 660) (2) C dL_law_659 (by decide) rfl ?_
      refine g_iadd (q := 661) C dL_law_660 rfl ?_
      refine g_xald (q := 662) C hX hbl hbA (5 * t + 2) (nI_a 2) (by omega) (by omega) dL_law_661 rfl ?_
      refine g_aload_n (q := 663) C dL_law_662 rfl (by first | exact hRef_r _ | exact hRef_o _ | exact hRef_n) rfl ?_
      refine gx_callSW (As := [.ref x, .int (xs (5 * t + 1)), .int (xs (5 * t + 2)), .ref out]) C hy_L_pass (c_L_pass Γ l (xs (5 * t + 1)) (xs (5 * t + 2)) hl hL hI hO) qw_596 ⟨Nat.le_of_ble_eq_true rfl, Nat.le_of_ble_eq_true rfl⟩ (Nat.le_of_ble_eq_true rfl) rfl ⟨by show 113 + 2 * t + 1 ≤ 636058; omega, by show 1563 + 14 * t + 6 ≤ 7187931; omega⟩ dL_law_663 rfl rfl (fun r M4 hp => ?_)
      obtain ⟨kc, rfl, k1, k2, ⟨g4, k3, k4⟩, k5⟩ := hp
      subst k1
      have hM4 := hM.kp k5
      obtain ⟨s4, a4, o4, ad4, G4, e4, f4, hq4⟩ := id hM4
      refine g_istore5 (q := 668) C dL_law_666 (by first | rfl | exact hNw_rf _) rfl ?_
      refine g_aload_n (q := 669) C dL_law_668 rfl (by first | exact hRef_r _ | exact hRef_o _ | exact hRef_n) rfl ?_
      refine g_aload_n (q := 670) C dL_law_669 rfl (by first | exact hRef_r _ | exact hRef_o _ | exact hRef_n) rfl ?_
      refine g_iload (q := 672) C dL_law_670 rfl rfl ?_
      refine g_iconst (q := 673) (1) C dL_law_672 (by decide) rfl ?_
      refine g_iadd (q := 674) C dL_law_673 rfl ?_
      refine g_xald (q := 675) C hX hbl hbA (5 * t + 1) (nI_a 1) (by omega) (by omega) dL_law_674 rfl ?_
      refine g_aload_n (q := 676) C dL_law_675 rfl (by first | exact hRef_r _ | exact hRef_o _ | exact hRef_n) rfl ?_
      refine g_iload (q := 678) C dL_law_676 rfl rfl ?_
      refine g_iconst (q := 679) (2) C dL_law_678 (by decide) rfl ?_
      refine g_iadd (q := 680) C dL_law_679 rfl ?_
      refine g_xald (q := 681) C hX hbl hbA (5 * t + 2) (nI_a 2) (by omega) (by omega) dL_law_680 rfl ?_
      refine g_callV2I (q := 684) C hy_X6_pass (c_X6_pass Γ l (xs (5 * t + 1)) (xs (5 * t + 2)) hM4 hI) qw_841 (by exact hq4.1) rfl ⟨Nat.le_of_ble_eq_true rfl, Nat.le_of_ble_eq_true rfl⟩ (Nat.le_of_ble_eq_true rfl) rfl dL_law_681 ⟨rfl, rfl⟩ ⟨by show 113 + 2 * t + 1 ≤ 636058; omega, by show 1563 + 14 * t + 6 ≤ 7187931; omega⟩ rfl (fun x_681 M_681 p_681 => ?_)
      obtain ⟨u1, u2, u3⟩ := p_681
      have hL5 := k2.km u3
      have hO5 := u3 _ _ _ k3 (Or.inr ⟨by show (11 : Nat) ≠ 6; decide, by show (11 : Nat) ≠ 7; decide, by show (11 : Nat) ≠ 10; decide⟩)
      obtain ⟨s5, a5, o5_, ad5, G5, e5, f5, hq5⟩ := id u1
      have hI5 := (hI.pass (xs (5 * t + 1)) (xs (5 * t + 2)))
      refine g_istore6 (q := 686) C dL_law_684 (by first | rfl | exact hNw_rf _) rfl ?_
      refine g_aload_n (q := 687) C dL_law_686 rfl (by first | exact hRef_r _ | exact hRef_o _ | exact hRef_n) rfl ?_
      refine g_callV0P (q := 690) C hy_X6_thrown (c_X6_thrown Γ l hq5 hI5) qw_752 (by exact hq5.1) rfl ⟨Nat.le_of_ble_eq_true rfl, Nat.le_of_ble_eq_true rfl⟩ (Nat.le_of_ble_eq_true rfl) rfl dL_law_687 ⟨rfl, rfl⟩ ⟨by show 113 + 2 * t + 1 ≤ 636058; omega, by show 1563 + 14 * t + 6 ≤ 7187931; omega⟩ rfl ?_
      refine g_iload (q := 692) C dL_law_690 rfl rfl ?_
      refine g_icmp_eq (t := 697) (q := 695) C dL_law_692 (by decide) rfl (fun c_692 => ?_) (fun c_692 => ?_)
      · skip
        refine g_iload (q := 699) C dL_law_697 rfl rfl ?_
        refine g_if_ne (t := 714) (q := 702) C dL_law_699 (by decide) rfl (fun c_699 => ?_) (fun c_699 => ?_)
        · skip
          refine g_goto (t := 1284) C dL_law_714 (by decide) ?_
          refine g_iinc4 (q := 1287) (5) C dL_law_1284 (by decide) (by first | rfl | exact hNw_rf _) rfl ?_
          refine g_goto (t := 23) C dL_law_1287 (by decide) ?_
          rw [show nI (5 * t) + 5 = nI (5 * (t + 1)) from nI_a 5]
          refine g_widen (n' := 113 + 2 * (t + 1)) (z' := 1563 + 14 * (t + 1)) (by show 113 + 2 * t + 1 ≤ _; omega) (by show 1563 + 14 * t + 6 ≤ _; omega) ?_
          exact ih hlt _ _ _ _ _ _ _ _ hI5 hL5 u1 hO5
        · skip
          have hc0 : (sPass S (xs (5 * t + 1)) (xs (5 * t + 2))).1 = 0 := nIz (sPass_le S (xs (5 * t + 1)) (xs (5 * t + 2))) c_699
          refine g_aload_n (q := 703) C dL_law_702 rfl (by first | exact hRef_r _ | exact hRef_o _ | exact hRef_n) rfl ?_
          refine g_iconst (q := 704) (0) C dL_law_703 (by decide) rfl ?_
          refine g_lald (q := 705) C 0 rfl (by decide) (by decide) dL_law_704 hO5 rfl ?_
          refine g_iload (q := 707) C dL_law_705 rfl rfl ?_
          refine g_i2l (q := 708) C dL_law_707 rfl ?_
          refine g_lcmp (q := 709) C dL_law_708 rfl ?_
          refine g_if_eq (t := 714) (q := 712) C dL_law_709 (by decide) rfl (fun c_709 => ?_) (fun c_709 => ?_)
          · skip
            refine g_goto (t := 1284) C dL_law_714 (by decide) ?_
            refine g_iinc4 (q := 1287) (5) C dL_law_1284 (by decide) (by first | rfl | exact hNw_rf _) rfl ?_
            refine g_goto (t := 23) C dL_law_1287 (by decide) ?_
            rw [show nI (5 * t) + 5 = nI (5 * (t + 1)) from nI_a 5]
            refine g_widen (n' := 113 + 2 * (t + 1)) (z' := 1563 + 14 * (t + 1)) (by show 113 + 2 * t + 1 ≤ _; omega) (by show 1563 + 14 * t + 6 ≤ _; omega) ?_
            exact ih hlt _ _ _ _ _ _ _ _ hI5 hL5 u1 hO5
          · skip
            exact absurd (by rw [k4 hc0, u2 hc0]; exact lgc _) c_709
      · skip
        exact absurd rfl c_692
    by_cases s_9 : xs (5 * t) &&& 31 = 9
    · skip
      refine g_tswI (t := 717) 9 C dL_law_39 (by rw [s_9]; rfl) (by decide) (by decide) rfl (by decide) ?_
      refine g_aload_n (q := 718) C dL_law_717 rfl (by first | exact hRef_r _ | exact hRef_o _ | exact hRef_n) rfl ?_
      refine g_aload_n (q := 719) C dL_law_718 rfl (by first | exact hRef_r _ | exact hRef_o _ | exact hRef_n) rfl ?_
      refine g_iload (q := 721) C dL_law_719 rfl rfl ?_
      refine g_iconst (q := 722) (1) C dL_law_721 (by decide) rfl ?_
      refine g_iadd (q := 723) C dL_law_722 rfl ?_
      refine g_xald (q := 724) C hX hbl hbA (5 * t + 1) (nI_a 1) (by omega) (by omega) dL_law_723 rfl ?_
      refine g_aload_n (q := 725) C dL_law_724 rfl (by first | exact hRef_r _ | exact hRef_o _ | exact hRef_n) rfl ?_
      refine g_iload (q := 727) C dL_law_725 rfl rfl ?_
      refine g_iconst (q := 728) (2) C dL_law_727 (by decide) rfl ?_
      refine g_iadd (q := 729) C dL_law_728 rfl ?_
      refine g_xald (q := 730) C hX hbl hbA (5 * t + 2) (nI_a 2) (by omega) (by omega) dL_law_729 rfl ?_
      refine g_aload_n (q := 731) C dL_law_730 rfl (by first | exact hRef_r _ | exact hRef_o _ | exact hRef_n) rfl ?_
      refine g_iload (q := 733) C dL_law_731 rfl rfl ?_
      refine g_iconst (q := 734) (3) C dL_law_733 (by decide) rfl ?_
      refine g_iadd (q := 735) C dL_law_734 rfl ?_
      refine g_xald (q := 736) C hX hbl hbA (5 * t + 3) (nI_a 3) (by omega) (by omega) dL_law_735 rfl ?_
      refine g_aload_n (q := 737) C dL_law_736 rfl (by first | exact hRef_r _ | exact hRef_o _ | exact hRef_n) rfl ?_
      refine gx_callSW (As := [.ref x, .int (xs (5 * t + 1)), .int (xs (5 * t + 2)), .int (xs (5 * t + 3)), .ref out]) C hy_L_told (c_L_told Γ l (xs (5 * t + 1)) (xs (5 * t + 2)) (xs (5 * t + 3)) hl hL hI hO) qw_623 ⟨Nat.le_of_ble_eq_true rfl, Nat.le_of_ble_eq_true rfl⟩ (Nat.le_of_ble_eq_true rfl) rfl ⟨by show 113 + 2 * t + 1 ≤ 636058; omega, by show 1563 + 14 * t + 6 ≤ 7187931; omega⟩ dL_law_737 rfl rfl (fun r M4 hp => ?_)
      obtain ⟨kc, rfl, k1, k2, ⟨g4, k3, k4⟩, k5⟩ := hp
      subst k1
      have hM4 := hM.kp k5
      obtain ⟨s4, a4, o4, ad4, G4, e4, f4, hq4⟩ := id hM4
      refine g_istore5 (q := 742) C dL_law_740 (by first | rfl | exact hNw_rf _) rfl ?_
      refine g_aload_n (q := 743) C dL_law_742 rfl (by first | exact hRef_r _ | exact hRef_o _ | exact hRef_n) rfl ?_
      refine g_aload_n (q := 744) C dL_law_743 rfl (by first | exact hRef_r _ | exact hRef_o _ | exact hRef_n) rfl ?_
      refine g_iload (q := 746) C dL_law_744 rfl rfl ?_
      refine g_iconst (q := 747) (1) C dL_law_746 (by decide) rfl ?_
      refine g_iadd (q := 748) C dL_law_747 rfl ?_
      refine g_xald (q := 749) C hX hbl hbA (5 * t + 1) (nI_a 1) (by omega) (by omega) dL_law_748 rfl ?_
      refine g_aload_n (q := 750) C dL_law_749 rfl (by first | exact hRef_r _ | exact hRef_o _ | exact hRef_n) rfl ?_
      refine g_iload (q := 752) C dL_law_750 rfl rfl ?_
      refine g_iconst (q := 753) (2) C dL_law_752 (by decide) rfl ?_
      refine g_iadd (q := 754) C dL_law_753 rfl ?_
      refine g_xald (q := 755) C hX hbl hbA (5 * t + 2) (nI_a 2) (by omega) (by omega) dL_law_754 rfl ?_
      refine g_aload_n (q := 756) C dL_law_755 rfl (by first | exact hRef_r _ | exact hRef_o _ | exact hRef_n) rfl ?_
      refine g_iload (q := 758) C dL_law_756 rfl rfl ?_
      refine g_iconst (q := 759) (3) C dL_law_758 (by decide) rfl ?_
      refine g_iadd (q := 760) C dL_law_759 rfl ?_
      refine g_xald (q := 761) C hX hbl hbA (5 * t + 3) (nI_a 3) (by omega) (by omega) dL_law_760 rfl ?_
      refine g_callV3I (q := 764) C hy_X6_told (c_X6_told Γ l (xs (5 * t + 1)) (xs (5 * t + 2)) (xs (5 * t + 3)) hM4 hI) qw_879 (by exact hq4.1) rfl ⟨Nat.le_of_ble_eq_true rfl, Nat.le_of_ble_eq_true rfl⟩ (Nat.le_of_ble_eq_true rfl) rfl dL_law_761 ⟨rfl, rfl⟩ ⟨by show 113 + 2 * t + 1 ≤ 636058; omega, by show 1563 + 14 * t + 6 ≤ 7187931; omega⟩ rfl (fun x_761 M_761 p_761 => ?_)
      obtain ⟨u1, u2, u3⟩ := p_761
      have hL5 := k2.km u3
      have hO5 := u3 _ _ _ k3 (Or.inr ⟨by show (11 : Nat) ≠ 6; decide, by show (11 : Nat) ≠ 7; decide, by show (11 : Nat) ≠ 10; decide⟩)
      obtain ⟨s5, a5, o5_, ad5, G5, e5, f5, hq5⟩ := id u1
      have hI5 := hI
      refine g_istore6 (q := 766) C dL_law_764 (by first | rfl | exact hNw_rf _) rfl ?_
      refine g_aload_n (q := 767) C dL_law_766 rfl (by first | exact hRef_r _ | exact hRef_o _ | exact hRef_n) rfl ?_
      refine g_callV0P (q := 770) C hy_X6_thrown (c_X6_thrown Γ l hq5 hI5) qw_752 (by exact hq5.1) rfl ⟨Nat.le_of_ble_eq_true rfl, Nat.le_of_ble_eq_true rfl⟩ (Nat.le_of_ble_eq_true rfl) rfl dL_law_767 ⟨rfl, rfl⟩ ⟨by show 113 + 2 * t + 1 ≤ 636058; omega, by show 1563 + 14 * t + 6 ≤ 7187931; omega⟩ rfl ?_
      refine g_iload (q := 772) C dL_law_770 rfl rfl ?_
      refine g_icmp_eq (t := 777) (q := 775) C dL_law_772 (by decide) rfl (fun c_772 => ?_) (fun c_772 => ?_)
      · skip
        refine g_iload (q := 779) C dL_law_777 rfl rfl ?_
        refine g_if_ne (t := 794) (q := 782) C dL_law_779 (by decide) rfl (fun c_779 => ?_) (fun c_779 => ?_)
        · skip
          refine g_goto (t := 1284) C dL_law_794 (by decide) ?_
          refine g_iinc4 (q := 1287) (5) C dL_law_1284 (by decide) (by first | rfl | exact hNw_rf _) rfl ?_
          refine g_goto (t := 23) C dL_law_1287 (by decide) ?_
          rw [show nI (5 * t) + 5 = nI (5 * (t + 1)) from nI_a 5]
          refine g_widen (n' := 113 + 2 * (t + 1)) (z' := 1563 + 14 * (t + 1)) (by show 113 + 2 * t + 1 ≤ _; omega) (by show 1563 + 14 * t + 6 ≤ _; omega) ?_
          exact ih hlt _ _ _ _ _ _ _ _ hI5 hL5 u1 hO5
        · skip
          have hc0 : (sTold S (xs (5 * t + 1)) (xs (5 * t + 2)) (xs (5 * t + 3))).1 = 0 := nIz (sTold_le S (xs (5 * t + 1)) (xs (5 * t + 2)) (xs (5 * t + 3))) c_779
          refine g_aload_n (q := 783) C dL_law_782 rfl (by first | exact hRef_r _ | exact hRef_o _ | exact hRef_n) rfl ?_
          refine g_iconst (q := 784) (0) C dL_law_783 (by decide) rfl ?_
          refine g_lald (q := 785) C 0 rfl (by decide) (by decide) dL_law_784 hO5 rfl ?_
          refine g_iload (q := 787) C dL_law_785 rfl rfl ?_
          refine g_i2l (q := 788) C dL_law_787 rfl ?_
          refine g_lcmp (q := 789) C dL_law_788 rfl ?_
          refine g_if_eq (t := 794) (q := 792) C dL_law_789 (by decide) rfl (fun c_789 => ?_) (fun c_789 => ?_)
          · skip
            refine g_goto (t := 1284) C dL_law_794 (by decide) ?_
            refine g_iinc4 (q := 1287) (5) C dL_law_1284 (by decide) (by first | rfl | exact hNw_rf _) rfl ?_
            refine g_goto (t := 23) C dL_law_1287 (by decide) ?_
            rw [show nI (5 * t) + 5 = nI (5 * (t + 1)) from nI_a 5]
            refine g_widen (n' := 113 + 2 * (t + 1)) (z' := 1563 + 14 * (t + 1)) (by show 113 + 2 * t + 1 ≤ _; omega) (by show 1563 + 14 * t + 6 ≤ _; omega) ?_
            exact ih hlt _ _ _ _ _ _ _ _ hI5 hL5 u1 hO5
          · skip
            exact absurd (by rw [k4 hc0, u2 hc0]; exact lgc _) c_789
      · skip
        exact absurd rfl c_772
    by_cases s_10 : xs (5 * t) &&& 31 = 10
    · skip
      refine g_tswI (t := 797) 10 C dL_law_39 (by rw [s_10]; rfl) (by decide) (by decide) rfl (by decide) ?_
      refine g_aload_n (q := 798) C dL_law_797 rfl (by first | exact hRef_r _ | exact hRef_o _ | exact hRef_n) rfl ?_
      refine g_aload_n (q := 799) C dL_law_798 rfl (by first | exact hRef_r _ | exact hRef_o _ | exact hRef_n) rfl ?_
      refine g_iload (q := 801) C dL_law_799 rfl rfl ?_
      refine g_iconst (q := 802) (1) C dL_law_801 (by decide) rfl ?_
      refine g_iadd (q := 803) C dL_law_802 rfl ?_
      refine g_xald (q := 804) C hX hbl hbA (5 * t + 1) (nI_a 1) (by omega) (by omega) dL_law_803 rfl ?_
      refine g_aload_n (q := 805) C dL_law_804 rfl (by first | exact hRef_r _ | exact hRef_o _ | exact hRef_n) rfl ?_
      refine g_iload (q := 807) C dL_law_805 rfl rfl ?_
      refine g_iconst (q := 808) (2) C dL_law_807 (by decide) rfl ?_
      refine g_iadd (q := 809) C dL_law_808 rfl ?_
      refine g_xald (q := 810) C hX hbl hbA (5 * t + 2) (nI_a 2) (by omega) (by omega) dL_law_809 rfl ?_
      refine g_aload_n (q := 811) C dL_law_810 rfl (by first | exact hRef_r _ | exact hRef_o _ | exact hRef_n) rfl ?_
      refine gx_callSW (As := [.ref x, .int (xs (5 * t + 1)), .int (xs (5 * t + 2)), .ref out]) C hy_L_about (c_L_about Γ l (xs (5 * t + 1)) (xs (5 * t + 2)) hl hL hI hO) qw_627 ⟨Nat.le_of_ble_eq_true rfl, Nat.le_of_ble_eq_true rfl⟩ (Nat.le_of_ble_eq_true rfl) rfl ⟨by show 113 + 2 * t + 1 ≤ 636058; omega, by show 1563 + 14 * t + 6 ≤ 7187931; omega⟩ dL_law_811 rfl rfl (fun r M4 hp => ?_)
      obtain ⟨kc, rfl, k1, k2, ⟨g4, k3, k4⟩, k5⟩ := hp
      subst k1
      have hM4 := hM.kp k5
      obtain ⟨s4, a4, o4, ad4, G4, e4, f4, hq4⟩ := id hM4
      refine g_istore5 (q := 816) C dL_law_814 (by first | rfl | exact hNw_rf _) rfl ?_
      refine g_aload_n (q := 817) C dL_law_816 rfl (by first | exact hRef_r _ | exact hRef_o _ | exact hRef_n) rfl ?_
      refine g_aload_n (q := 818) C dL_law_817 rfl (by first | exact hRef_r _ | exact hRef_o _ | exact hRef_n) rfl ?_
      refine g_iload (q := 820) C dL_law_818 rfl rfl ?_
      refine g_iconst (q := 821) (1) C dL_law_820 (by decide) rfl ?_
      refine g_iadd (q := 822) C dL_law_821 rfl ?_
      refine g_xald (q := 823) C hX hbl hbA (5 * t + 1) (nI_a 1) (by omega) (by omega) dL_law_822 rfl ?_
      refine g_aload_n (q := 824) C dL_law_823 rfl (by first | exact hRef_r _ | exact hRef_o _ | exact hRef_n) rfl ?_
      refine g_iload (q := 826) C dL_law_824 rfl rfl ?_
      refine g_iconst (q := 827) (2) C dL_law_826 (by decide) rfl ?_
      refine g_iadd (q := 828) C dL_law_827 rfl ?_
      refine g_xald (q := 829) C hX hbl hbA (5 * t + 2) (nI_a 2) (by omega) (by omega) dL_law_828 rfl ?_
      refine g_callV2I (q := 832) C hy_X6_about (c_X6_about Γ l (xs (5 * t + 1)) (xs (5 * t + 2)) hM4 hI) qw_887 (by exact hq4.1) rfl ⟨Nat.le_of_ble_eq_true rfl, Nat.le_of_ble_eq_true rfl⟩ (Nat.le_of_ble_eq_true rfl) rfl dL_law_829 ⟨rfl, rfl⟩ ⟨by show 113 + 2 * t + 1 ≤ 636058; omega, by show 1563 + 14 * t + 6 ≤ 7187931; omega⟩ rfl (fun x_829 M_829 p_829 => ?_)
      obtain ⟨u1, u2, u3⟩ := p_829
      have hL5 := k2.km u3
      have hO5 := u3 _ _ _ k3 (Or.inr ⟨by show (11 : Nat) ≠ 6; decide, by show (11 : Nat) ≠ 7; decide, by show (11 : Nat) ≠ 10; decide⟩)
      obtain ⟨s5, a5, o5_, ad5, G5, e5, f5, hq5⟩ := id u1
      have hI5 := hI
      refine g_istore6 (q := 834) C dL_law_832 (by first | rfl | exact hNw_rf _) rfl ?_
      refine g_aload_n (q := 835) C dL_law_834 rfl (by first | exact hRef_r _ | exact hRef_o _ | exact hRef_n) rfl ?_
      refine g_callV0P (q := 838) C hy_X6_thrown (c_X6_thrown Γ l hq5 hI5) qw_752 (by exact hq5.1) rfl ⟨Nat.le_of_ble_eq_true rfl, Nat.le_of_ble_eq_true rfl⟩ (Nat.le_of_ble_eq_true rfl) rfl dL_law_835 ⟨rfl, rfl⟩ ⟨by show 113 + 2 * t + 1 ≤ 636058; omega, by show 1563 + 14 * t + 6 ≤ 7187931; omega⟩ rfl ?_
      refine g_iload (q := 840) C dL_law_838 rfl rfl ?_
      refine g_icmp_eq (t := 845) (q := 843) C dL_law_840 (by decide) rfl (fun c_840 => ?_) (fun c_840 => ?_)
      · skip
        refine g_iload (q := 847) C dL_law_845 rfl rfl ?_
        refine g_if_ne (t := 862) (q := 850) C dL_law_847 (by decide) rfl (fun c_847 => ?_) (fun c_847 => ?_)
        · skip
          refine g_goto (t := 1284) C dL_law_862 (by decide) ?_
          refine g_iinc4 (q := 1287) (5) C dL_law_1284 (by decide) (by first | rfl | exact hNw_rf _) rfl ?_
          refine g_goto (t := 23) C dL_law_1287 (by decide) ?_
          rw [show nI (5 * t) + 5 = nI (5 * (t + 1)) from nI_a 5]
          refine g_widen (n' := 113 + 2 * (t + 1)) (z' := 1563 + 14 * (t + 1)) (by show 113 + 2 * t + 1 ≤ _; omega) (by show 1563 + 14 * t + 6 ≤ _; omega) ?_
          exact ih hlt _ _ _ _ _ _ _ _ hI5 hL5 u1 hO5
        · skip
          have hc0 : (sAbout S (xs (5 * t + 1)) (xs (5 * t + 2))).1 = 0 := nIz (sAbout_le S (xs (5 * t + 1)) (xs (5 * t + 2))) c_847
          refine g_aload_n (q := 851) C dL_law_850 rfl (by first | exact hRef_r _ | exact hRef_o _ | exact hRef_n) rfl ?_
          refine g_iconst (q := 852) (0) C dL_law_851 (by decide) rfl ?_
          refine g_lald (q := 853) C 0 rfl (by decide) (by decide) dL_law_852 hO5 rfl ?_
          refine g_iload (q := 855) C dL_law_853 rfl rfl ?_
          refine g_i2l (q := 856) C dL_law_855 rfl ?_
          refine g_lcmp (q := 857) C dL_law_856 rfl ?_
          refine g_if_eq (t := 862) (q := 860) C dL_law_857 (by decide) rfl (fun c_857 => ?_) (fun c_857 => ?_)
          · skip
            refine g_goto (t := 1284) C dL_law_862 (by decide) ?_
            refine g_iinc4 (q := 1287) (5) C dL_law_1284 (by decide) (by first | rfl | exact hNw_rf _) rfl ?_
            refine g_goto (t := 23) C dL_law_1287 (by decide) ?_
            rw [show nI (5 * t) + 5 = nI (5 * (t + 1)) from nI_a 5]
            refine g_widen (n' := 113 + 2 * (t + 1)) (z' := 1563 + 14 * (t + 1)) (by show 113 + 2 * t + 1 ≤ _; omega) (by show 1563 + 14 * t + 6 ≤ _; omega) ?_
            exact ih hlt _ _ _ _ _ _ _ _ hI5 hL5 u1 hO5
          · skip
            exact absurd (by rw [k4 hc0, u2 hc0]; exact lgc _) c_857
      · skip
        exact absurd rfl c_840
    by_cases s_11 : xs (5 * t) &&& 31 = 11
    · skip
      refine g_tswI (t := 865) 11 C dL_law_39 (by rw [s_11]; rfl) (by decide) (by decide) rfl (by decide) ?_
      refine g_aload_n (q := 866) C dL_law_865 rfl (by first | exact hRef_r _ | exact hRef_o _ | exact hRef_n) rfl ?_
      refine g_aload_n (q := 867) C dL_law_866 rfl (by first | exact hRef_r _ | exact hRef_o _ | exact hRef_n) rfl ?_
      refine g_iload (q := 869) C dL_law_867 rfl rfl ?_
      refine g_iconst (q := 870) (1) C dL_law_869 (by decide) rfl ?_
      refine g_iadd (q := 871) C dL_law_870 rfl ?_
      refine g_xald (q := 872) C hX hbl hbA (5 * t + 1) (nI_a 1) (by omega) (by omega) dL_law_871 rfl ?_
      refine g_aload_n (q := 873) C dL_law_872 rfl (by first | exact hRef_r _ | exact hRef_o _ | exact hRef_n) rfl ?_
      refine g_iload (q := 875) C dL_law_873 rfl rfl ?_
      refine g_iconst (q := 876) (2) C dL_law_875 (by decide) rfl ?_
      refine g_iadd (q := 877) C dL_law_876 rfl ?_
      refine g_xald (q := 878) C hX hbl hbA (5 * t + 2) (nI_a 2) (by omega) (by omega) dL_law_877 rfl ?_
      refine g_aload_n (q := 879) C dL_law_878 rfl (by first | exact hRef_r _ | exact hRef_o _ | exact hRef_n) rfl ?_
      refine gx_callSW (As := [.ref x, .int (xs (5 * t + 1)), .int (xs (5 * t + 2)), .ref out]) C hy_L_asked (c_L_asked Γ l (xs (5 * t + 1)) (xs (5 * t + 2)) hl hL hI hO) qw_631 ⟨Nat.le_of_ble_eq_true rfl, Nat.le_of_ble_eq_true rfl⟩ (Nat.le_of_ble_eq_true rfl) rfl ⟨by show 113 + 2 * t + 1 ≤ 636058; omega, by show 1563 + 14 * t + 6 ≤ 7187931; omega⟩ dL_law_879 rfl rfl (fun r M4 hp => ?_)
      obtain ⟨kc, rfl, k1, k2, ⟨g4, k3, k4⟩, k5⟩ := hp
      subst k1
      have hM4 := hM.kp k5
      obtain ⟨s4, a4, o4, ad4, G4, e4, f4, hq4⟩ := id hM4
      refine g_istore5 (q := 884) C dL_law_882 (by first | rfl | exact hNw_rf _) rfl ?_
      refine g_aload_n (q := 885) C dL_law_884 rfl (by first | exact hRef_r _ | exact hRef_o _ | exact hRef_n) rfl ?_
      refine g_aload_n (q := 886) C dL_law_885 rfl (by first | exact hRef_r _ | exact hRef_o _ | exact hRef_n) rfl ?_
      refine g_iload (q := 888) C dL_law_886 rfl rfl ?_
      refine g_iconst (q := 889) (1) C dL_law_888 (by decide) rfl ?_
      refine g_iadd (q := 890) C dL_law_889 rfl ?_
      refine g_xald (q := 891) C hX hbl hbA (5 * t + 1) (nI_a 1) (by omega) (by omega) dL_law_890 rfl ?_
      refine g_aload_n (q := 892) C dL_law_891 rfl (by first | exact hRef_r _ | exact hRef_o _ | exact hRef_n) rfl ?_
      refine g_iload (q := 894) C dL_law_892 rfl rfl ?_
      refine g_iconst (q := 895) (2) C dL_law_894 (by decide) rfl ?_
      refine g_iadd (q := 896) C dL_law_895 rfl ?_
      refine g_xald (q := 897) C hX hbl hbA (5 * t + 2) (nI_a 2) (by omega) (by omega) dL_law_896 rfl ?_
      refine g_callV2I (q := 900) C hy_X6_asked (c_X6_asked Γ l (xs (5 * t + 1)) (xs (5 * t + 2)) hM4 hI) qw_895 (by exact hq4.1) rfl ⟨Nat.le_of_ble_eq_true rfl, Nat.le_of_ble_eq_true rfl⟩ (Nat.le_of_ble_eq_true rfl) rfl dL_law_897 ⟨rfl, rfl⟩ ⟨by show 113 + 2 * t + 1 ≤ 636058; omega, by show 1563 + 14 * t + 6 ≤ 7187931; omega⟩ rfl (fun x_897 M_897 p_897 => ?_)
      obtain ⟨u1, u2, u3⟩ := p_897
      have hL5 := k2.km u3
      have hO5 := u3 _ _ _ k3 (Or.inr ⟨by show (11 : Nat) ≠ 6; decide, by show (11 : Nat) ≠ 7; decide, by show (11 : Nat) ≠ 10; decide⟩)
      obtain ⟨s5, a5, o5_, ad5, G5, e5, f5, hq5⟩ := id u1
      have hI5 := hI
      refine g_istore6 (q := 902) C dL_law_900 (by first | rfl | exact hNw_rf _) rfl ?_
      refine g_aload_n (q := 903) C dL_law_902 rfl (by first | exact hRef_r _ | exact hRef_o _ | exact hRef_n) rfl ?_
      refine g_callV0P (q := 906) C hy_X6_thrown (c_X6_thrown Γ l hq5 hI5) qw_752 (by exact hq5.1) rfl ⟨Nat.le_of_ble_eq_true rfl, Nat.le_of_ble_eq_true rfl⟩ (Nat.le_of_ble_eq_true rfl) rfl dL_law_903 ⟨rfl, rfl⟩ ⟨by show 113 + 2 * t + 1 ≤ 636058; omega, by show 1563 + 14 * t + 6 ≤ 7187931; omega⟩ rfl ?_
      refine g_iload (q := 908) C dL_law_906 rfl rfl ?_
      refine g_icmp_eq (t := 913) (q := 911) C dL_law_908 (by decide) rfl (fun c_908 => ?_) (fun c_908 => ?_)
      · skip
        refine g_iload (q := 915) C dL_law_913 rfl rfl ?_
        refine g_if_ne (t := 930) (q := 918) C dL_law_915 (by decide) rfl (fun c_915 => ?_) (fun c_915 => ?_)
        · skip
          refine g_goto (t := 1284) C dL_law_930 (by decide) ?_
          refine g_iinc4 (q := 1287) (5) C dL_law_1284 (by decide) (by first | rfl | exact hNw_rf _) rfl ?_
          refine g_goto (t := 23) C dL_law_1287 (by decide) ?_
          rw [show nI (5 * t) + 5 = nI (5 * (t + 1)) from nI_a 5]
          refine g_widen (n' := 113 + 2 * (t + 1)) (z' := 1563 + 14 * (t + 1)) (by show 113 + 2 * t + 1 ≤ _; omega) (by show 1563 + 14 * t + 6 ≤ _; omega) ?_
          exact ih hlt _ _ _ _ _ _ _ _ hI5 hL5 u1 hO5
        · skip
          have hc0 : (sAsked S (xs (5 * t + 1)) (xs (5 * t + 2))).1 = 0 := nIz (sAsked_le S (xs (5 * t + 1)) (xs (5 * t + 2))) c_915
          refine g_aload_n (q := 919) C dL_law_918 rfl (by first | exact hRef_r _ | exact hRef_o _ | exact hRef_n) rfl ?_
          refine g_iconst (q := 920) (0) C dL_law_919 (by decide) rfl ?_
          refine g_lald (q := 921) C 0 rfl (by decide) (by decide) dL_law_920 hO5 rfl ?_
          refine g_iload (q := 923) C dL_law_921 rfl rfl ?_
          refine g_i2l (q := 924) C dL_law_923 rfl ?_
          refine g_lcmp (q := 925) C dL_law_924 rfl ?_
          refine g_if_eq (t := 930) (q := 928) C dL_law_925 (by decide) rfl (fun c_925 => ?_) (fun c_925 => ?_)
          · skip
            refine g_goto (t := 1284) C dL_law_930 (by decide) ?_
            refine g_iinc4 (q := 1287) (5) C dL_law_1284 (by decide) (by first | rfl | exact hNw_rf _) rfl ?_
            refine g_goto (t := 23) C dL_law_1287 (by decide) ?_
            rw [show nI (5 * t) + 5 = nI (5 * (t + 1)) from nI_a 5]
            refine g_widen (n' := 113 + 2 * (t + 1)) (z' := 1563 + 14 * (t + 1)) (by show 113 + 2 * t + 1 ≤ _; omega) (by show 1563 + 14 * t + 6 ≤ _; omega) ?_
            exact ih hlt _ _ _ _ _ _ _ _ hI5 hL5 u1 hO5
          · skip
            exact absurd (by rw [k4 hc0, u2 hc0]; exact lgc _) c_925
      · skip
        exact absurd rfl c_908
    by_cases s_12 : xs (5 * t) &&& 31 = 12
    · skip
      refine g_tswI (t := 933) 12 C dL_law_39 (by rw [s_12]; rfl) (by decide) (by decide) rfl (by decide) ?_
      refine g_aload_n (q := 934) C dL_law_933 rfl (by first | exact hRef_r _ | exact hRef_o _ | exact hRef_n) rfl ?_
      refine g_aload_n (q := 935) C dL_law_934 rfl (by first | exact hRef_r _ | exact hRef_o _ | exact hRef_n) rfl ?_
      refine g_iload (q := 937) C dL_law_935 rfl rfl ?_
      refine g_iconst (q := 938) (1) C dL_law_937 (by decide) rfl ?_
      refine g_iadd (q := 939) C dL_law_938 rfl ?_
      refine g_xald (q := 940) C hX hbl hbA (5 * t + 1) (nI_a 1) (by omega) (by omega) dL_law_939 rfl ?_
      refine g_aload_n (q := 941) C dL_law_940 rfl (by first | exact hRef_r _ | exact hRef_o _ | exact hRef_n) rfl ?_
      refine gx_callSW (As := [.ref x, .int (xs (5 * t + 1)), .ref out]) C hy_L_count (c_L_count Γ l (xs (5 * t + 1)) hl hL hI hO) qw_635 ⟨Nat.le_of_ble_eq_true rfl, Nat.le_of_ble_eq_true rfl⟩ (Nat.le_of_ble_eq_true rfl) rfl ⟨by show 113 + 2 * t + 1 ≤ 636058; omega, by show 1563 + 14 * t + 6 ≤ 7187931; omega⟩ dL_law_941 rfl rfl (fun r M4 hp => ?_)
      obtain ⟨kc, rfl, k1, k2, ⟨g4, k3, k4⟩, k5⟩ := hp
      subst k1
      have hM4 := hM.kp k5
      obtain ⟨s4, a4, o4, ad4, G4, e4, f4, hq4⟩ := id hM4
      refine g_istore5 (q := 946) C dL_law_944 (by first | rfl | exact hNw_rf _) rfl ?_
      refine g_aload_n (q := 947) C dL_law_946 rfl (by first | exact hRef_r _ | exact hRef_o _ | exact hRef_n) rfl ?_
      refine g_aload_n (q := 948) C dL_law_947 rfl (by first | exact hRef_r _ | exact hRef_o _ | exact hRef_n) rfl ?_
      refine g_iload (q := 950) C dL_law_948 rfl rfl ?_
      refine g_iconst (q := 951) (1) C dL_law_950 (by decide) rfl ?_
      refine g_iadd (q := 952) C dL_law_951 rfl ?_
      refine g_xald (q := 953) C hX hbl hbA (5 * t + 1) (nI_a 1) (by omega) (by omega) dL_law_952 rfl ?_
      refine g_callV1I (q := 956) C hy_X6_count (c_X6_count Γ l (xs (5 * t + 1)) hM4 hI) qw_903 (by exact hq4.1) rfl ⟨Nat.le_of_ble_eq_true rfl, Nat.le_of_ble_eq_true rfl⟩ (Nat.le_of_ble_eq_true rfl) rfl dL_law_953 ⟨rfl, rfl⟩ ⟨by show 113 + 2 * t + 1 ≤ 636058; omega, by show 1563 + 14 * t + 6 ≤ 7187931; omega⟩ rfl (fun x_953 M_953 p_953 => ?_)
      obtain ⟨u1, u2, u3⟩ := p_953
      have hL5 := k2.km u3
      have hO5 := u3 _ _ _ k3 (Or.inr ⟨by show (11 : Nat) ≠ 6; decide, by show (11 : Nat) ≠ 7; decide, by show (11 : Nat) ≠ 10; decide⟩)
      obtain ⟨s5, a5, o5_, ad5, G5, e5, f5, hq5⟩ := id u1
      have hI5 := hI
      refine g_istore6 (q := 958) C dL_law_956 (by first | rfl | exact hNw_rf _) rfl ?_
      refine g_aload_n (q := 959) C dL_law_958 rfl (by first | exact hRef_r _ | exact hRef_o _ | exact hRef_n) rfl ?_
      refine g_callV0P (q := 962) C hy_X6_thrown (c_X6_thrown Γ l hq5 hI5) qw_752 (by exact hq5.1) rfl ⟨Nat.le_of_ble_eq_true rfl, Nat.le_of_ble_eq_true rfl⟩ (Nat.le_of_ble_eq_true rfl) rfl dL_law_959 ⟨rfl, rfl⟩ ⟨by show 113 + 2 * t + 1 ≤ 636058; omega, by show 1563 + 14 * t + 6 ≤ 7187931; omega⟩ rfl ?_
      refine g_iload (q := 964) C dL_law_962 rfl rfl ?_
      refine g_icmp_eq (t := 969) (q := 967) C dL_law_964 (by decide) rfl (fun c_964 => ?_) (fun c_964 => ?_)
      · skip
        refine g_iload (q := 971) C dL_law_969 rfl rfl ?_
        refine g_if_ne (t := 986) (q := 974) C dL_law_971 (by decide) rfl (fun c_971 => ?_) (fun c_971 => ?_)
        · skip
          refine g_goto (t := 1284) C dL_law_986 (by decide) ?_
          refine g_iinc4 (q := 1287) (5) C dL_law_1284 (by decide) (by first | rfl | exact hNw_rf _) rfl ?_
          refine g_goto (t := 23) C dL_law_1287 (by decide) ?_
          rw [show nI (5 * t) + 5 = nI (5 * (t + 1)) from nI_a 5]
          refine g_widen (n' := 113 + 2 * (t + 1)) (z' := 1563 + 14 * (t + 1)) (by show 113 + 2 * t + 1 ≤ _; omega) (by show 1563 + 14 * t + 6 ≤ _; omega) ?_
          exact ih hlt _ _ _ _ _ _ _ _ hI5 hL5 u1 hO5
        · skip
          have hc0 : (sCount S (xs (5 * t + 1))).1 = 0 := nIz (sCount_le S (xs (5 * t + 1))) c_971
          refine g_aload_n (q := 975) C dL_law_974 rfl (by first | exact hRef_r _ | exact hRef_o _ | exact hRef_n) rfl ?_
          refine g_iconst (q := 976) (0) C dL_law_975 (by decide) rfl ?_
          refine g_lald (q := 977) C 0 rfl (by decide) (by decide) dL_law_976 hO5 rfl ?_
          refine g_iload (q := 979) C dL_law_977 rfl rfl ?_
          refine g_i2l (q := 980) C dL_law_979 rfl ?_
          refine g_lcmp (q := 981) C dL_law_980 rfl ?_
          refine g_if_eq (t := 986) (q := 984) C dL_law_981 (by decide) rfl (fun c_981 => ?_) (fun c_981 => ?_)
          · skip
            refine g_goto (t := 1284) C dL_law_986 (by decide) ?_
            refine g_iinc4 (q := 1287) (5) C dL_law_1284 (by decide) (by first | rfl | exact hNw_rf _) rfl ?_
            refine g_goto (t := 23) C dL_law_1287 (by decide) ?_
            rw [show nI (5 * t) + 5 = nI (5 * (t + 1)) from nI_a 5]
            refine g_widen (n' := 113 + 2 * (t + 1)) (z' := 1563 + 14 * (t + 1)) (by show 113 + 2 * t + 1 ≤ _; omega) (by show 1563 + 14 * t + 6 ≤ _; omega) ?_
            exact ih hlt _ _ _ _ _ _ _ _ hI5 hL5 u1 hO5
          · skip
            exact absurd (by rw [k4 hc0, u2 hc0]; exact lgc _) c_981
      · skip
        exact absurd rfl c_964
    by_cases s_13 : xs (5 * t) &&& 31 = 13
    · skip
      refine g_tswI (t := 989) 13 C dL_law_39 (by rw [s_13]; rfl) (by decide) (by decide) rfl (by decide) ?_
      refine g_aload_n (q := 990) C dL_law_989 rfl (by first | exact hRef_r _ | exact hRef_o _ | exact hRef_n) rfl ?_
      refine g_aload_n (q := 991) C dL_law_990 rfl (by first | exact hRef_r _ | exact hRef_o _ | exact hRef_n) rfl ?_
      refine g_iload (q := 993) C dL_law_991 rfl rfl ?_
      refine g_iconst (q := 994) (1) C dL_law_993 (by decide) rfl ?_
      refine g_iadd (q := 995) C dL_law_994 rfl ?_
      refine g_xald (q := 996) C hX hbl hbA (5 * t + 1) (nI_a 1) (by omega) (by omega) dL_law_995 rfl ?_
      refine g_aload_n (q := 997) C dL_law_996 rfl (by first | exact hRef_r _ | exact hRef_o _ | exact hRef_n) rfl ?_
      refine g_iload (q := 999) C dL_law_997 rfl rfl ?_
      refine g_iconst (q := 1000) (2) C dL_law_999 (by decide) rfl ?_
      refine g_iadd (q := 1001) C dL_law_1000 rfl ?_
      refine g_xald (q := 1002) C hX hbl hbA (5 * t + 2) (nI_a 2) (by omega) (by omega) dL_law_1001 rfl ?_
      refine g_aload_n (q := 1003) C dL_law_1002 rfl (by first | exact hRef_r _ | exact hRef_o _ | exact hRef_n) rfl ?_
      refine g_iload (q := 1005) C dL_law_1003 rfl rfl ?_
      refine g_iconst (q := 1006) (3) C dL_law_1005 (by decide) rfl ?_
      refine g_iadd (q := 1007) C dL_law_1006 rfl ?_
      refine g_xald (q := 1008) C hX hbl hbA (5 * t + 3) (nI_a 3) (by omega) (by omega) dL_law_1007 rfl ?_
      refine g_aload_n (q := 1009) C dL_law_1008 rfl (by first | exact hRef_r _ | exact hRef_o _ | exact hRef_n) rfl ?_
      refine g_iload (q := 1011) C dL_law_1009 rfl rfl ?_
      refine g_iconst (q := 1012) (4) C dL_law_1011 (by decide) rfl ?_
      refine g_iadd (q := 1013) C dL_law_1012 rfl ?_
      refine g_xald (q := 1014) C hX hbl hbA (5 * t + 4) (nI_a 4) (by omega) (by omega) dL_law_1013 rfl ?_
      refine g_aload_n (q := 1015) C dL_law_1014 rfl (by first | exact hRef_r _ | exact hRef_o _ | exact hRef_n) rfl ?_
      refine gx_callSW (As := [.ref x, .int (xs (5 * t + 1)), .int (xs (5 * t + 2)), .int (xs (5 * t + 3)), .int (xs (5 * t + 4)), .ref out]) C hy_L_until (c_L_until Γ l (xs (5 * t + 1)) (xs (5 * t + 2)) (xs (5 * t + 3)) (xs (5 * t + 4)) hl hL hI hO) qw_639 ⟨Nat.le_of_ble_eq_true rfl, Nat.le_of_ble_eq_true rfl⟩ (Nat.le_of_ble_eq_true rfl) rfl ⟨by show 113 + 2 * t + 1 ≤ 636058; omega, by show 1563 + 14 * t + 6 ≤ 7187931; omega⟩ dL_law_1015 rfl rfl (fun r M4 hp => ?_)
      obtain ⟨kc, rfl, k1, k2, ⟨g4, k3, k4⟩, k5⟩ := hp
      subst k1
      have hM4 := hM.kp k5
      obtain ⟨s4, a4, o4, ad4, G4, e4, f4, hq4⟩ := id hM4
      refine g_istore5 (q := 1020) C dL_law_1018 (by first | rfl | exact hNw_rf _) rfl ?_
      refine g_aload_n (q := 1021) C dL_law_1020 rfl (by first | exact hRef_r _ | exact hRef_o _ | exact hRef_n) rfl ?_
      refine g_aload_n (q := 1022) C dL_law_1021 rfl (by first | exact hRef_r _ | exact hRef_o _ | exact hRef_n) rfl ?_
      refine g_iload (q := 1024) C dL_law_1022 rfl rfl ?_
      refine g_iconst (q := 1025) (1) C dL_law_1024 (by decide) rfl ?_
      refine g_iadd (q := 1026) C dL_law_1025 rfl ?_
      refine g_xald (q := 1027) C hX hbl hbA (5 * t + 1) (nI_a 1) (by omega) (by omega) dL_law_1026 rfl ?_
      refine g_aload_n (q := 1028) C dL_law_1027 rfl (by first | exact hRef_r _ | exact hRef_o _ | exact hRef_n) rfl ?_
      refine g_iload (q := 1030) C dL_law_1028 rfl rfl ?_
      refine g_iconst (q := 1031) (2) C dL_law_1030 (by decide) rfl ?_
      refine g_iadd (q := 1032) C dL_law_1031 rfl ?_
      refine g_xald (q := 1033) C hX hbl hbA (5 * t + 2) (nI_a 2) (by omega) (by omega) dL_law_1032 rfl ?_
      refine g_aload_n (q := 1034) C dL_law_1033 rfl (by first | exact hRef_r _ | exact hRef_o _ | exact hRef_n) rfl ?_
      refine g_iload (q := 1036) C dL_law_1034 rfl rfl ?_
      refine g_iconst (q := 1037) (3) C dL_law_1036 (by decide) rfl ?_
      refine g_iadd (q := 1038) C dL_law_1037 rfl ?_
      refine g_xald (q := 1039) C hX hbl hbA (5 * t + 3) (nI_a 3) (by omega) (by omega) dL_law_1038 rfl ?_
      refine g_aload_n (q := 1040) C dL_law_1039 rfl (by first | exact hRef_r _ | exact hRef_o _ | exact hRef_n) rfl ?_
      refine g_iload (q := 1042) C dL_law_1040 rfl rfl ?_
      refine g_iconst (q := 1043) (4) C dL_law_1042 (by decide) rfl ?_
      refine g_iadd (q := 1044) C dL_law_1043 rfl ?_
      refine g_xald (q := 1045) C hX hbl hbA (5 * t + 4) (nI_a 4) (by omega) (by omega) dL_law_1044 rfl ?_
      refine g_callV4I (q := 1048) C hy_X6_until (c_X6_until Γ l (xs (5 * t + 1)) (xs (5 * t + 2)) (xs (5 * t + 3)) (xs (5 * t + 4)) hM4 hI) qw_911 (by exact hq4.1) rfl ⟨Nat.le_of_ble_eq_true rfl, Nat.le_of_ble_eq_true rfl⟩ (Nat.le_of_ble_eq_true rfl) rfl dL_law_1045 ⟨rfl, rfl⟩ ⟨by show 113 + 2 * t + 1 ≤ 636058; omega, by show 1563 + 14 * t + 6 ≤ 7187931; omega⟩ rfl (fun x_1045 M_1045 p_1045 => ?_)
      obtain ⟨u1, u2, u3⟩ := p_1045
      have hL5 := k2.km u3
      have hO5 := u3 _ _ _ k3 (Or.inr ⟨by show (11 : Nat) ≠ 6; decide, by show (11 : Nat) ≠ 7; decide, by show (11 : Nat) ≠ 10; decide⟩)
      obtain ⟨s5, a5, o5_, ad5, G5, e5, f5, hq5⟩ := id u1
      have hI5 := hI
      refine g_istore6 (q := 1050) C dL_law_1048 (by first | rfl | exact hNw_rf _) rfl ?_
      refine g_aload_n (q := 1051) C dL_law_1050 rfl (by first | exact hRef_r _ | exact hRef_o _ | exact hRef_n) rfl ?_
      refine g_callV0P (q := 1054) C hy_X6_thrown (c_X6_thrown Γ l hq5 hI5) qw_752 (by exact hq5.1) rfl ⟨Nat.le_of_ble_eq_true rfl, Nat.le_of_ble_eq_true rfl⟩ (Nat.le_of_ble_eq_true rfl) rfl dL_law_1051 ⟨rfl, rfl⟩ ⟨by show 113 + 2 * t + 1 ≤ 636058; omega, by show 1563 + 14 * t + 6 ≤ 7187931; omega⟩ rfl ?_
      refine g_iload (q := 1056) C dL_law_1054 rfl rfl ?_
      refine g_icmp_eq (t := 1061) (q := 1059) C dL_law_1056 (by decide) rfl (fun c_1056 => ?_) (fun c_1056 => ?_)
      · skip
        refine g_iload (q := 1063) C dL_law_1061 rfl rfl ?_
        refine g_if_ne (t := 1078) (q := 1066) C dL_law_1063 (by decide) rfl (fun c_1063 => ?_) (fun c_1063 => ?_)
        · skip
          refine g_goto (t := 1284) C dL_law_1078 (by decide) ?_
          refine g_iinc4 (q := 1287) (5) C dL_law_1284 (by decide) (by first | rfl | exact hNw_rf _) rfl ?_
          refine g_goto (t := 23) C dL_law_1287 (by decide) ?_
          rw [show nI (5 * t) + 5 = nI (5 * (t + 1)) from nI_a 5]
          refine g_widen (n' := 113 + 2 * (t + 1)) (z' := 1563 + 14 * (t + 1)) (by show 113 + 2 * t + 1 ≤ _; omega) (by show 1563 + 14 * t + 6 ≤ _; omega) ?_
          exact ih hlt _ _ _ _ _ _ _ _ hI5 hL5 u1 hO5
        · skip
          have hc0 : (sUntil S (xs (5 * t + 1)) (xs (5 * t + 2)) (xs (5 * t + 3)) (xs (5 * t + 4))).1 = 0 := nIz (sUntil_le S (xs (5 * t + 1)) (xs (5 * t + 2)) (xs (5 * t + 3)) (xs (5 * t + 4))) c_1063
          refine g_aload_n (q := 1067) C dL_law_1066 rfl (by first | exact hRef_r _ | exact hRef_o _ | exact hRef_n) rfl ?_
          refine g_iconst (q := 1068) (0) C dL_law_1067 (by decide) rfl ?_
          refine g_lald (q := 1069) C 0 rfl (by decide) (by decide) dL_law_1068 hO5 rfl ?_
          refine g_iload (q := 1071) C dL_law_1069 rfl rfl ?_
          refine g_i2l (q := 1072) C dL_law_1071 rfl ?_
          refine g_lcmp (q := 1073) C dL_law_1072 rfl ?_
          refine g_if_eq (t := 1078) (q := 1076) C dL_law_1073 (by decide) rfl (fun c_1073 => ?_) (fun c_1073 => ?_)
          · skip
            refine g_goto (t := 1284) C dL_law_1078 (by decide) ?_
            refine g_iinc4 (q := 1287) (5) C dL_law_1284 (by decide) (by first | rfl | exact hNw_rf _) rfl ?_
            refine g_goto (t := 23) C dL_law_1287 (by decide) ?_
            rw [show nI (5 * t) + 5 = nI (5 * (t + 1)) from nI_a 5]
            refine g_widen (n' := 113 + 2 * (t + 1)) (z' := 1563 + 14 * (t + 1)) (by show 113 + 2 * t + 1 ≤ _; omega) (by show 1563 + 14 * t + 6 ≤ _; omega) ?_
            exact ih hlt _ _ _ _ _ _ _ _ hI5 hL5 u1 hO5
          · skip
            exact absurd (by rw [k4 hc0, u2 hc0]; exact lgc _) c_1073
      · skip
        exact absurd rfl c_1056
    by_cases s_14 : xs (5 * t) &&& 31 = 14
    · skip
      refine g_tswI (t := 1081) 14 C dL_law_39 (by rw [s_14]; rfl) (by decide) (by decide) rfl (by decide) ?_
      refine g_aload_n (q := 1082) C dL_law_1081 rfl (by first | exact hRef_r _ | exact hRef_o _ | exact hRef_n) rfl ?_
      refine g_aload_n (q := 1083) C dL_law_1082 rfl (by first | exact hRef_r _ | exact hRef_o _ | exact hRef_n) rfl ?_
      refine g_iload (q := 1085) C dL_law_1083 rfl rfl ?_
      refine g_iconst (q := 1086) (1) C dL_law_1085 (by decide) rfl ?_
      refine g_iadd (q := 1087) C dL_law_1086 rfl ?_
      refine g_xald (q := 1088) C hX hbl hbA (5 * t + 1) (nI_a 1) (by omega) (by omega) dL_law_1087 rfl ?_
      refine g_aload_n (q := 1089) C dL_law_1088 rfl (by first | exact hRef_r _ | exact hRef_o _ | exact hRef_n) rfl ?_
      refine g_iload (q := 1091) C dL_law_1089 rfl rfl ?_
      refine g_iconst (q := 1092) (2) C dL_law_1091 (by decide) rfl ?_
      refine g_iadd (q := 1093) C dL_law_1092 rfl ?_
      refine g_xald (q := 1094) C hX hbl hbA (5 * t + 2) (nI_a 2) (by omega) (by omega) dL_law_1093 rfl ?_
      refine g_aload_n (q := 1095) C dL_law_1094 rfl (by first | exact hRef_r _ | exact hRef_o _ | exact hRef_n) rfl ?_
      refine g_iload (q := 1097) C dL_law_1095 rfl rfl ?_
      refine g_iconst (q := 1098) (3) C dL_law_1097 (by decide) rfl ?_
      refine g_iadd (q := 1099) C dL_law_1098 rfl ?_
      refine g_xald (q := 1100) C hX hbl hbA (5 * t + 3) (nI_a 3) (by omega) (by omega) dL_law_1099 rfl ?_
      refine g_aload_n (q := 1101) C dL_law_1100 rfl (by first | exact hRef_r _ | exact hRef_o _ | exact hRef_n) rfl ?_
      refine gx_callSW (As := [.ref x, .int (xs (5 * t + 1)), .int (xs (5 * t + 2)), .int (xs (5 * t + 3)), .ref out]) C hy_L_foresee (c_L_foresee Γ l (xs (5 * t + 1)) (xs (5 * t + 2)) (xs (5 * t + 3)) hl hL hI hO) qw_651 ⟨Nat.le_of_ble_eq_true rfl, Nat.le_of_ble_eq_true rfl⟩ (Nat.le_of_ble_eq_true rfl) rfl ⟨by show 113 + 2 * t + 1 ≤ 636058; omega, by show 1563 + 14 * t + 6 ≤ 7187931; omega⟩ dL_law_1101 rfl rfl (fun r M4 hp => ?_)
      obtain ⟨kc, rfl, k1, k2, ⟨g4, k3, k4⟩, k5⟩ := hp
      subst k1
      have hM4 := hM.kp k5
      obtain ⟨s4, a4, o4, ad4, G4, e4, f4, hq4⟩ := id hM4
      refine g_istore5 (q := 1106) C dL_law_1104 (by first | rfl | exact hNw_rf _) rfl ?_
      refine g_aload_n (q := 1107) C dL_law_1106 rfl (by first | exact hRef_r _ | exact hRef_o _ | exact hRef_n) rfl ?_
      refine g_aload_n (q := 1108) C dL_law_1107 rfl (by first | exact hRef_r _ | exact hRef_o _ | exact hRef_n) rfl ?_
      refine g_iload (q := 1110) C dL_law_1108 rfl rfl ?_
      refine g_iconst (q := 1111) (1) C dL_law_1110 (by decide) rfl ?_
      refine g_iadd (q := 1112) C dL_law_1111 rfl ?_
      refine g_xald (q := 1113) C hX hbl hbA (5 * t + 1) (nI_a 1) (by omega) (by omega) dL_law_1112 rfl ?_
      refine g_aload_n (q := 1114) C dL_law_1113 rfl (by first | exact hRef_r _ | exact hRef_o _ | exact hRef_n) rfl ?_
      refine g_iload (q := 1116) C dL_law_1114 rfl rfl ?_
      refine g_iconst (q := 1117) (2) C dL_law_1116 (by decide) rfl ?_
      refine g_iadd (q := 1118) C dL_law_1117 rfl ?_
      refine g_xald (q := 1119) C hX hbl hbA (5 * t + 2) (nI_a 2) (by omega) (by omega) dL_law_1118 rfl ?_
      refine g_aload_n (q := 1120) C dL_law_1119 rfl (by first | exact hRef_r _ | exact hRef_o _ | exact hRef_n) rfl ?_
      refine g_iload (q := 1122) C dL_law_1120 rfl rfl ?_
      refine g_iconst (q := 1123) (3) C dL_law_1122 (by decide) rfl ?_
      refine g_iadd (q := 1124) C dL_law_1123 rfl ?_
      refine g_xald (q := 1125) C hX hbl hbA (5 * t + 3) (nI_a 3) (by omega) (by omega) dL_law_1124 rfl ?_
      refine g_callV3I (q := 1128) C hy_X6_foresee (c_X6_foresee Γ l (xs (5 * t + 1)) (xs (5 * t + 2)) (xs (5 * t + 3)) hM4 hI) qw_919 (by exact hq4.1) rfl ⟨Nat.le_of_ble_eq_true rfl, Nat.le_of_ble_eq_true rfl⟩ (Nat.le_of_ble_eq_true rfl) rfl dL_law_1125 ⟨rfl, rfl⟩ ⟨by show 113 + 2 * t + 1 ≤ 636058; omega, by show 1563 + 14 * t + 6 ≤ 7187931; omega⟩ rfl (fun x_1125 M_1125 p_1125 => ?_)
      obtain ⟨u1, u2, u3⟩ := p_1125
      have hL5 := k2.km u3
      have hO5 := u3 _ _ _ k3 (Or.inr ⟨by show (11 : Nat) ≠ 6; decide, by show (11 : Nat) ≠ 7; decide, by show (11 : Nat) ≠ 10; decide⟩)
      obtain ⟨s5, a5, o5_, ad5, G5, e5, f5, hq5⟩ := id u1
      have hI5 := hI
      refine g_istore6 (q := 1130) C dL_law_1128 (by first | rfl | exact hNw_rf _) rfl ?_
      refine g_aload_n (q := 1131) C dL_law_1130 rfl (by first | exact hRef_r _ | exact hRef_o _ | exact hRef_n) rfl ?_
      refine g_callV0P (q := 1134) C hy_X6_thrown (c_X6_thrown Γ l hq5 hI5) qw_752 (by exact hq5.1) rfl ⟨Nat.le_of_ble_eq_true rfl, Nat.le_of_ble_eq_true rfl⟩ (Nat.le_of_ble_eq_true rfl) rfl dL_law_1131 ⟨rfl, rfl⟩ ⟨by show 113 + 2 * t + 1 ≤ 636058; omega, by show 1563 + 14 * t + 6 ≤ 7187931; omega⟩ rfl ?_
      refine g_iload (q := 1136) C dL_law_1134 rfl rfl ?_
      refine g_icmp_eq (t := 1141) (q := 1139) C dL_law_1136 (by decide) rfl (fun c_1136 => ?_) (fun c_1136 => ?_)
      · skip
        refine g_iload (q := 1143) C dL_law_1141 rfl rfl ?_
        refine g_if_ne (t := 1158) (q := 1146) C dL_law_1143 (by decide) rfl (fun c_1143 => ?_) (fun c_1143 => ?_)
        · skip
          refine g_goto (t := 1284) C dL_law_1158 (by decide) ?_
          refine g_iinc4 (q := 1287) (5) C dL_law_1284 (by decide) (by first | rfl | exact hNw_rf _) rfl ?_
          refine g_goto (t := 23) C dL_law_1287 (by decide) ?_
          rw [show nI (5 * t) + 5 = nI (5 * (t + 1)) from nI_a 5]
          refine g_widen (n' := 113 + 2 * (t + 1)) (z' := 1563 + 14 * (t + 1)) (by show 113 + 2 * t + 1 ≤ _; omega) (by show 1563 + 14 * t + 6 ≤ _; omega) ?_
          exact ih hlt _ _ _ _ _ _ _ _ hI5 hL5 u1 hO5
        · skip
          have hc0 : (sFore S (xs (5 * t + 1)) (xs (5 * t + 2)) (xs (5 * t + 3))).1 = 0 := nIz (sFore_le S (xs (5 * t + 1)) (xs (5 * t + 2)) (xs (5 * t + 3))) c_1143
          refine g_aload_n (q := 1147) C dL_law_1146 rfl (by first | exact hRef_r _ | exact hRef_o _ | exact hRef_n) rfl ?_
          refine g_iconst (q := 1148) (0) C dL_law_1147 (by decide) rfl ?_
          refine g_lald (q := 1149) C 0 rfl (by decide) (by decide) dL_law_1148 hO5 rfl ?_
          refine g_iload (q := 1151) C dL_law_1149 rfl rfl ?_
          refine g_i2l (q := 1152) C dL_law_1151 rfl ?_
          refine g_lcmp (q := 1153) C dL_law_1152 rfl ?_
          refine g_if_eq (t := 1158) (q := 1156) C dL_law_1153 (by decide) rfl (fun c_1153 => ?_) (fun c_1153 => ?_)
          · skip
            refine g_goto (t := 1284) C dL_law_1158 (by decide) ?_
            refine g_iinc4 (q := 1287) (5) C dL_law_1284 (by decide) (by first | rfl | exact hNw_rf _) rfl ?_
            refine g_goto (t := 23) C dL_law_1287 (by decide) ?_
            rw [show nI (5 * t) + 5 = nI (5 * (t + 1)) from nI_a 5]
            refine g_widen (n' := 113 + 2 * (t + 1)) (z' := 1563 + 14 * (t + 1)) (by show 113 + 2 * t + 1 ≤ _; omega) (by show 1563 + 14 * t + 6 ≤ _; omega) ?_
            exact ih hlt _ _ _ _ _ _ _ _ hI5 hL5 u1 hO5
          · skip
            exact absurd (by rw [k4 hc0, u2 hc0]; exact lgc _) c_1153
      · skip
        exact absurd rfl c_1136
    by_cases s_15 : xs (5 * t) &&& 31 = 15
    · skip
      refine g_tswI (t := 1161) 15 C dL_law_39 (by rw [s_15]; rfl) (by decide) (by decide) rfl (by decide) ?_
      refine g_aload_n (q := 1162) C dL_law_1161 rfl (by first | exact hRef_r _ | exact hRef_o _ | exact hRef_n) rfl ?_
      refine g_aload_n (q := 1163) C dL_law_1162 rfl (by first | exact hRef_r _ | exact hRef_o _ | exact hRef_n) rfl ?_
      refine g_iload (q := 1165) C dL_law_1163 rfl rfl ?_
      refine g_iconst (q := 1166) (1) C dL_law_1165 (by decide) rfl ?_
      refine g_iadd (q := 1167) C dL_law_1166 rfl ?_
      refine g_xald (q := 1168) C hX hbl hbA (5 * t + 1) (nI_a 1) (by omega) (by omega) dL_law_1167 rfl ?_
      refine g_aload_n (q := 1169) C dL_law_1168 rfl (by first | exact hRef_r _ | exact hRef_o _ | exact hRef_n) rfl ?_
      refine g_iload (q := 1171) C dL_law_1169 rfl rfl ?_
      refine g_iconst (q := 1172) (2) C dL_law_1171 (by decide) rfl ?_
      refine g_iadd (q := 1173) C dL_law_1172 rfl ?_
      refine g_xald (q := 1174) C hX hbl hbA (5 * t + 2) (nI_a 2) (by omega) (by omega) dL_law_1173 rfl ?_
      refine g_aload_n (q := 1175) C dL_law_1174 rfl (by first | exact hRef_r _ | exact hRef_o _ | exact hRef_n) rfl ?_
      refine gx_callSW (As := [.ref x, .int (xs (5 * t + 1)), .int (xs (5 * t + 2)), .ref out]) C hy_L_advise (c_L_advise Γ l (xs (5 * t + 1)) (xs (5 * t + 2)) hl hL hI hO) qw_659 ⟨Nat.le_of_ble_eq_true rfl, Nat.le_of_ble_eq_true rfl⟩ (Nat.le_of_ble_eq_true rfl) rfl ⟨by show 113 + 2 * t + 1 ≤ 636058; omega, by show 1563 + 14 * t + 6 ≤ 7187931; omega⟩ dL_law_1175 rfl rfl (fun r M4 hp => ?_)
      obtain ⟨kc, rfl, k1, k2, ⟨g4, k3, k4⟩, k5⟩ := hp
      subst k1
      have hM4 := hM.kp k5
      obtain ⟨s4, a4, o4, ad4, G4, e4, f4, hq4⟩ := id hM4
      refine g_istore5 (q := 1180) C dL_law_1178 (by first | rfl | exact hNw_rf _) rfl ?_
      refine g_aload_n (q := 1181) C dL_law_1180 rfl (by first | exact hRef_r _ | exact hRef_o _ | exact hRef_n) rfl ?_
      refine g_aload_n (q := 1182) C dL_law_1181 rfl (by first | exact hRef_r _ | exact hRef_o _ | exact hRef_n) rfl ?_
      refine g_iload (q := 1184) C dL_law_1182 rfl rfl ?_
      refine g_iconst (q := 1185) (1) C dL_law_1184 (by decide) rfl ?_
      refine g_iadd (q := 1186) C dL_law_1185 rfl ?_
      refine g_xald (q := 1187) C hX hbl hbA (5 * t + 1) (nI_a 1) (by omega) (by omega) dL_law_1186 rfl ?_
      refine g_aload_n (q := 1188) C dL_law_1187 rfl (by first | exact hRef_r _ | exact hRef_o _ | exact hRef_n) rfl ?_
      refine g_iload (q := 1190) C dL_law_1188 rfl rfl ?_
      refine g_iconst (q := 1191) (2) C dL_law_1190 (by decide) rfl ?_
      refine g_iadd (q := 1192) C dL_law_1191 rfl ?_
      refine g_xald (q := 1193) C hX hbl hbA (5 * t + 2) (nI_a 2) (by omega) (by omega) dL_law_1192 rfl ?_
      refine g_callV2I (q := 1196) C hy_X6_advise (c_X6_advise Γ l (xs (5 * t + 1)) (xs (5 * t + 2)) hM4 hI) qw_923 (by exact hq4.1) rfl ⟨Nat.le_of_ble_eq_true rfl, Nat.le_of_ble_eq_true rfl⟩ (Nat.le_of_ble_eq_true rfl) rfl dL_law_1193 ⟨rfl, rfl⟩ ⟨by show 113 + 2 * t + 1 ≤ 636058; omega, by show 1563 + 14 * t + 6 ≤ 7187931; omega⟩ rfl (fun x_1193 M_1193 p_1193 => ?_)
      obtain ⟨u1, u2, u3⟩ := p_1193
      have hL5 := k2.km u3
      have hO5 := u3 _ _ _ k3 (Or.inr ⟨by show (11 : Nat) ≠ 6; decide, by show (11 : Nat) ≠ 7; decide, by show (11 : Nat) ≠ 10; decide⟩)
      obtain ⟨s5, a5, o5_, ad5, G5, e5, f5, hq5⟩ := id u1
      have hI5 := hI
      refine g_istore6 (q := 1198) C dL_law_1196 (by first | rfl | exact hNw_rf _) rfl ?_
      refine g_aload_n (q := 1199) C dL_law_1198 rfl (by first | exact hRef_r _ | exact hRef_o _ | exact hRef_n) rfl ?_
      refine g_callV0P (q := 1202) C hy_X6_thrown (c_X6_thrown Γ l hq5 hI5) qw_752 (by exact hq5.1) rfl ⟨Nat.le_of_ble_eq_true rfl, Nat.le_of_ble_eq_true rfl⟩ (Nat.le_of_ble_eq_true rfl) rfl dL_law_1199 ⟨rfl, rfl⟩ ⟨by show 113 + 2 * t + 1 ≤ 636058; omega, by show 1563 + 14 * t + 6 ≤ 7187931; omega⟩ rfl ?_
      refine g_iload (q := 1204) C dL_law_1202 rfl rfl ?_
      refine g_icmp_eq (t := 1209) (q := 1207) C dL_law_1204 (by decide) rfl (fun c_1204 => ?_) (fun c_1204 => ?_)
      · skip
        refine g_iload (q := 1211) C dL_law_1209 rfl rfl ?_
        refine g_if_ne (t := 1226) (q := 1214) C dL_law_1211 (by decide) rfl (fun c_1211 => ?_) (fun c_1211 => ?_)
        · skip
          refine g_goto (t := 1284) C dL_law_1226 (by decide) ?_
          refine g_iinc4 (q := 1287) (5) C dL_law_1284 (by decide) (by first | rfl | exact hNw_rf _) rfl ?_
          refine g_goto (t := 23) C dL_law_1287 (by decide) ?_
          rw [show nI (5 * t) + 5 = nI (5 * (t + 1)) from nI_a 5]
          refine g_widen (n' := 113 + 2 * (t + 1)) (z' := 1563 + 14 * (t + 1)) (by show 113 + 2 * t + 1 ≤ _; omega) (by show 1563 + 14 * t + 6 ≤ _; omega) ?_
          exact ih hlt _ _ _ _ _ _ _ _ hI5 hL5 u1 hO5
        · skip
          have hc0 : (sAdv S (xs (5 * t + 1)) (xs (5 * t + 2))).1 = 0 := nIz (sAdv_le S (xs (5 * t + 1)) (xs (5 * t + 2))) c_1211
          refine g_aload_n (q := 1215) C dL_law_1214 rfl (by first | exact hRef_r _ | exact hRef_o _ | exact hRef_n) rfl ?_
          refine g_iconst (q := 1216) (0) C dL_law_1215 (by decide) rfl ?_
          refine g_lald (q := 1217) C 0 rfl (by decide) (by decide) dL_law_1216 hO5 rfl ?_
          refine g_iload (q := 1219) C dL_law_1217 rfl rfl ?_
          refine g_i2l (q := 1220) C dL_law_1219 rfl ?_
          refine g_lcmp (q := 1221) C dL_law_1220 rfl ?_
          refine g_if_eq (t := 1226) (q := 1224) C dL_law_1221 (by decide) rfl (fun c_1221 => ?_) (fun c_1221 => ?_)
          · skip
            refine g_goto (t := 1284) C dL_law_1226 (by decide) ?_
            refine g_iinc4 (q := 1287) (5) C dL_law_1284 (by decide) (by first | rfl | exact hNw_rf _) rfl ?_
            refine g_goto (t := 23) C dL_law_1287 (by decide) ?_
            rw [show nI (5 * t) + 5 = nI (5 * (t + 1)) from nI_a 5]
            refine g_widen (n' := 113 + 2 * (t + 1)) (z' := 1563 + 14 * (t + 1)) (by show 113 + 2 * t + 1 ≤ _; omega) (by show 1563 + 14 * t + 6 ≤ _; omega) ?_
            exact ih hlt _ _ _ _ _ _ _ _ hI5 hL5 u1 hO5
          · skip
            exact absurd (by rw [k4 hc0, u2 hc0]; exact lgc _) c_1221
      · skip
        exact absurd rfl c_1204
    by_cases s_16 : xs (5 * t) &&& 31 = 16
    · skip
      refine g_tswI (t := 1229) 16 C dL_law_39 (by rw [s_16]; rfl) (by decide) (by decide) rfl (by decide) ?_
      refine g_aload_n (q := 1230) C dL_law_1229 rfl (by first | exact hRef_r _ | exact hRef_o _ | exact hRef_n) rfl ?_
      refine g_callV0F (q := 1233) C hy_X4_mean (c_X4_mean Γ l hL hI) qw_210 (by exact pL) rfl ⟨Nat.le_of_ble_eq_true rfl, Nat.le_of_ble_eq_true rfl⟩ (Nat.le_of_ble_eq_true rfl) rfl dL_law_1230 ⟨rfl, rfl⟩ ⟨by show 113 + 2 * t + 0 ≤ 636058; omega, by show 1563 + 14 * t + 0 ≤ 7187931; omega⟩ rfl ?_
      refine g_dstore5 (q := 1235) C dL_law_1233 (by first | rfl | exact hNw_rf _) rfl ?_
      refine g_aload_n (q := 1236) C dL_law_1235 rfl (by first | exact hRef_r _ | exact hRef_o _ | exact hRef_n) rfl ?_
      refine gx_callV (As := []) C hy_X6_mean (c_X6_mean Γ l hM hI) qw_935 (by exact hq.1) rfl ⟨Nat.le_of_ble_eq_true rfl, Nat.le_of_ble_eq_true rfl⟩ (Nat.le_of_ble_eq_true rfl) rfl ⟨by show 113 + 2 * t + 0 ≤ 636058; omega, by show 1563 + 14 * t + 0 ≤ 7187931; omega⟩ dL_law_1236 rfl rfl (fun r M5 hp => ?_)
      obtain ⟨vm, rfl, rfl, u1, u3⟩ := hp
      have k2 := hL
      have k3 := hO
      have hL5 := k2.km u3
      have hO5 := u3 _ _ _ k3 (Or.inr ⟨by show (11 : Nat) ≠ 6; decide, by show (11 : Nat) ≠ 7; decide, by show (11 : Nat) ≠ 10; decide⟩)
      have hI5 := hI
      refine g_dstore7 (q := 1241) C dL_law_1239 (by first | rfl | exact hNw_rf _) rfl ?_
      refine g_dload (q := 1243) C dL_law_1241 rfl rfl ?_
      refine g_dload (q := 1245) C dL_law_1243 rfl rfl ?_
      refine g_dcmp (q := 1246) C dL_law_1245 rfl ?_
      refine g_if_eq (t := 1267) (q := 1249) C dL_law_1246 (by decide) rfl (fun c_1246 => ?_) (fun c_1246 => ?_)
      · skip
        refine g_goto (t := 1284) C dL_law_1267 (by decide) ?_
        refine g_iinc4 (q := 1287) (5) C dL_law_1284 (by decide) (by first | rfl | exact hNw_rf _) rfl ?_
        refine g_goto (t := 23) C dL_law_1287 (by decide) ?_
        rw [show nI (5 * t) + 5 = nI (5 * (t + 1)) from nI_a 5]
        refine g_widen (n' := 113 + 2 * (t + 1)) (z' := 1563 + 14 * (t + 1)) (by show 113 + 2 * t + 0 ≤ _; omega) (by show 1563 + 14 * t + 0 ≤ _; omega) ?_
        exact ih hlt _ _ _ _ _ _ _ _ hI5 hL5 u1 hO5
      · skip
        exact absurd (by rw [(sMean_sm hI).cmp]; rfl) c_1246
    by_cases s_17 : xs (5 * t) &&& 31 = 17
    · skip
      refine g_tswI (t := 1270) 17 C dL_law_39 (by rw [s_17]; rfl) (by decide) (by decide) rfl (by decide) ?_
      refine g_aload_n (q := 1271) C dL_law_1270 rfl (by first | exact hRef_r _ | exact hRef_o _ | exact hRef_n) rfl ?_
      refine g_callV0L (q := 1274) C hy_X4_digest (c_X4_digest Γ l hL hI) qw_227 (by exact pL) rfl ⟨Nat.le_of_ble_eq_true rfl, Nat.le_of_ble_eq_true rfl⟩ (Nat.le_of_ble_eq_true rfl) rfl dL_law_1271 ⟨rfl, rfl⟩ ⟨by show 113 + 2 * t + 0 ≤ 636058; omega, by show 1563 + 14 * t + 0 ≤ 7187931; omega⟩ rfl (fun x_1271 M_1271 p_1271 => ?_)
      obtain ⟨v1, rfl⟩ := p_1271
      refine g_aload_n (q := 1275) C dL_law_1274 rfl (by first | exact hRef_r _ | exact hRef_o _ | exact hRef_n) rfl ?_
      refine g_callV0L (q := 1278) C hy_X6_digest (c_X6_digest Γ l hM hI) qw_939 (by exact hq.1) rfl ⟨Nat.le_of_ble_eq_true rfl, Nat.le_of_ble_eq_true rfl⟩ (Nat.le_of_ble_eq_true rfl) rfl dL_law_1275 ⟨rfl, rfl⟩ ⟨by show 113 + 2 * t + 0 ≤ 636058; omega, by show 1563 + 14 * t + 0 ≤ 7187931; omega⟩ rfl (fun x_1275 M_1275 p_1275 => ?_)
      obtain ⟨v2, u1, u3⟩ := p_1275
      have k2 := hL
      have k3 := hO
      have hL5 := k2.km u3
      have hO5 := u3 _ _ _ k3 (Or.inr ⟨by show (11 : Nat) ≠ 6; decide, by show (11 : Nat) ≠ 7; decide, by show (11 : Nat) ≠ 10; decide⟩)
      have hI5 := hI
      refine g_lcmp (q := 1279) C dL_law_1278 rfl ?_
      refine g_if_eq (t := 1284) (q := 1282) C dL_law_1279 (by decide) rfl (fun c_1279 => ?_) (fun c_1279 => ?_)
      · skip
        refine g_iinc4 (q := 1287) (5) C dL_law_1284 (by decide) (by first | rfl | exact hNw_rf _) rfl ?_
        refine g_goto (t := 23) C dL_law_1287 (by decide) ?_
        rw [show nI (5 * t) + 5 = nI (5 * (t + 1)) from nI_a 5]
        refine g_widen (n' := 113 + 2 * (t + 1)) (z' := 1563 + 14 * (t + 1)) (by show 113 + 2 * t + 0 ≤ _; omega) (by show 1563 + 14 * t + 0 ≤ _; omega) ?_
        exact ih hlt _ _ _ _ _ _ _ _ hI5 hL5 u1 hO5
      · skip
        exact absurd (by rw [v1, v2]; exact lgc _) c_1279
    refine g_tswO (t := 1284) C dL_law_39 (by have n_0 := hNeI s_0 (m := 0) rfl; have n_1 := hNeI s_1 (m := 1) rfl; have n_2 := hNeI s_2 (m := 2) rfl; have n_3 := hNeI s_3 (m := 3) rfl; have n_4 := hNeI s_4 (m := 4) rfl; have n_5 := hNeI s_5 (m := 5) rfl; have n_6 := hNeI s_6 (m := 6) rfl; have n_7 := hNeI s_7 (m := 7) rfl; have n_8 := hNeI s_8 (m := 8) rfl; have n_9 := hNeI s_9 (m := 9) rfl; have n_10 := hNeI s_10 (m := 10) rfl; have n_11 := hNeI s_11 (m := 11) rfl; have n_12 := hNeI s_12 (m := 12) rfl; have n_13 := hNeI s_13 (m := 13) rfl; have n_14 := hNeI s_14 (m := 14) rfl; have n_15 := hNeI s_15 (m := 15) rfl; have n_16 := hNeI s_16 (m := 16) rfl; have n_17 := hNeI s_17 (m := 17) rfl; omega) (by decide) ?_
    refine g_iinc4 (q := 1287) (5) C dL_law_1284 (by decide) (by first | rfl | exact hNw_rf _) rfl ?_
    refine g_goto (t := 23) C dL_law_1287 (by decide) ?_
    rw [show nI (5 * t) + 5 = nI (5 * (t + 1)) from nI_a 5]
    refine g_widen (n' := 113 + 2 * (t + 1)) (z' := 1563 + 14 * (t + 1)) (by omega) (by omega) ?_
    exact ih hlt _ _ _ _ _ _ _ _ hI hL hM hO
