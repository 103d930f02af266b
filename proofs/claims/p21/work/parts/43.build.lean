theorem sI2_0 : sI2 s0 0 := ⟨⟨by decide, by decide⟩, fun i hi => absurd hi (Nat.not_lt_zero i), ⟨0, by decide, rfl⟩, fun i hi => Or.inl rfl, fun i hi => absurd hi (Nat.not_lt_zero i)⟩
set_option maxRecDepth 100000 in
set_option maxHeartbeats 4000000 in
theorem c_L_build (Γ : hGam) (l : Launch) {M : hM} {x b N : Nat} {xs : Nat → Int32} (hl : l.stackTraces = false) (hΓ : Γ.2.2.2 = (b, N, xs)) (hN : N ≤ 260) (hLt : ltP Γ M x s0) : hMet Γ l yL_build cL_build 11 (some (.object RX5)) rm_L_build [.ref x, .ref b] M (hpQ (fun o M1 => ∃ y S, o = some y ∧ lawS Γ M1 x y S 0)) := by
  refine hMet_of (by decide +kernel) (Nat.le_of_ble_eq_true rfl) (hCat_cons rfl (hCat_cons rfl hCat_nil)) (fun k9 C => ?_)
  show hG _ _ _ _ _ _ _ _ [some (.ref x), some (.ref b), none, none, none, none, none, none, none, none, none] _
  refine g_new (q := 3) C hcl_X5 qw_628 qw_629 qw_16 hfs_X5 (by decide) (by decide) dL_build_0 rfl (fun y e_y => ?_)
  refine g_dup (q := 4) C dL_build_3 rfl rfl ?_
  refine g_callIN0Vm (q := 7) C hy_X5_init (c_X5_init Γ l (hU_s _ _ _)) qw_630 ⟨Nat.le_of_ble_eq_true rfl, Nat.le_of_ble_eq_true rfl⟩ (Nat.le_of_ble_eq_true rfl) rfl dL_build_4 ⟨by decide, by decide⟩ rfl (fun M_4 p_4 => ?_)
  obtain ⟨hS4, k4⟩ := p_4
  have hL4 := (hLt.kp (hKp.rf.new e_y : hKp (fun _ => true) M _) rfl rfl rfl rfl rfl rfl ⟨rfl, rfl⟩ rfl).sim k4
  refine g_astore2 (q := 8) C dL_build_7 (by first | exact hRef_r _ | exact hRef_o _ | exact hRef_n) (by first | rfl | exact hNw_rf _) rfl ?_
  refine g_iconst (q := 9) (1) C dL_build_8 (by decide) rfl ?_
  refine g_aload_n (q := 10) C dL_build_9 rfl (by first | exact hRef_r _ | exact hRef_o _ | exact hRef_n) rfl ?_
  refine g_iconst (q := 11) (0) C dL_build_10 (by decide) rfl ?_
  refine g_callS2I (q := 14) C hy_L_cell (c_L_cell Γ l (j := 0) hΓ hN (by decide)) qw_504 ⟨Nat.le_of_ble_eq_true rfl, Nat.le_of_ble_eq_true rfl⟩ (Nat.le_of_ble_eq_true rfl) rfl dL_build_11 ⟨rfl, rfl⟩ ⟨by decide, by decide⟩ rfl (fun x_11 M_11 p_11 => ?_)
  rw [p_11]
  refine g_bipush (q := 16) (6) C dL_build_14 (by decide) rfl ?_
  refine g_callS2I (q := 19) C hy_L_below (c_L_below Γ l (N := 6) (by decide) (by decide)) qw_500 ⟨Nat.le_of_ble_eq_true rfl, Nat.le_of_ble_eq_true rfl⟩ (Nat.le_of_ble_eq_true rfl) rfl dL_build_16 ⟨rfl, rfl⟩ ⟨by decide, by decide⟩ rfl (fun x_16 M_16 p_16 => ?_)
  obtain ⟨⟨h9, hh9, e_16⟩, q_16⟩ := p_16
  subst e_16
  rw [q_16]
  obtain ⟨H, hH1, hH6, eH⟩ : ∃ H, 1 ≤ H ∧ H ≤ 6 ∧ (1 : Int32) + nI h9 = nI H := ⟨1 + h9, by omega, by omega, nI_add 1 h9⟩
  refine g_iadd (q := 20) C dL_build_19 rfl ?_
  rw [eH]
  refine g_istore3 (q := 21) C dL_build_20 (by first | rfl | exact hNw_rf _) rfl ?_
  refine g_iconst (q := 22) (0) C dL_build_21 (by decide) rfl ?_
  refine g_istore4 (q := 24) C dL_build_22 (by first | rfl | exact hNw_rf _) rfl ?_
  refine g_widen (n' := 9 + 4 * 0) (z' := 51 + 22 * 0) (by decide) (by decide) ?_
  refine h_loopU (P := fun i => ∀ (M1 : hM) (S : hS) (o5 : Option Value), ltP Γ M1 x S → smP Γ M1 y S → sI2 S 0 → sN S = i → hG Γ k9 _ _ M1 (9 + 4 * i) (51 + 22 * i) 24 [some (.ref x), some (.ref b), some (.ref y), some (.int (nI H)), some (.int (nI i)), o5, none, none, none, none, none] []) (N := H) (fun i hi ih => ?_) 0 (Nat.zero_le _) M_4 s0 _ hL4 hS4 sI2_0 rfl
  intro M1 S o5 hL1 hS1 hI hsn
  obtain ⟨ha, oa, la, ob, rx, bd, hQ⟩ := id hS1
  obtain ⟨pX, pH, pO, pLs, pB⟩ := id hQ
  obtain ⟨hf0, hHa, hHr⟩ := id pH
  have hn6 := hI.1.1
  have ho6 := hI.1.2
  refine g_iload (q := 26) C dL_build_24 rfl rfl ?_
  refine g_iload_n (q := 27) C dL_build_26 rfl rfl ?_
  refine g_icmp_ge (t := 114) (q := 30) C dL_build_27 (by decide) rfl (fun c_27 => ?_) (fun c_27 => ?_)
  · skip
    have hNH := nI_ge_eq hi (by omega) c_27
    refine g_aload_n (q := 115) C dL_build_114 rfl (by first | exact hRef_r _ | exact hRef_o _ | exact hRef_n) rfl ?_
    refine g_iconst (q := 116) (3) C dL_build_115 (by decide) rfl ?_
    refine g_callS2I (q := 119) C hy_L_cell (c_L_cell Γ l (j := 3) hΓ hN (by decide)) qw_504 ⟨Nat.le_of_ble_eq_true rfl, Nat.le_of_ble_eq_true rfl⟩ (Nat.le_of_ble_eq_true rfl) rfl dL_build_116 ⟨rfl, rfl⟩ ⟨by show 9 + 4 * i ≤ 200; omega, by show 51 + 22 * i ≤ 1000; omega⟩ rfl (fun x_116 M_116 p_116 => ?_)
    rw [p_116]
    refine g_bipush (q := 121) (34) C dL_build_119 (by decide) rfl ?_
    refine g_callS2I (q := 124) C hy_L_below (c_L_below Γ l (N := 34) (by decide) (by decide)) qw_500 ⟨Nat.le_of_ble_eq_true rfl, Nat.le_of_ble_eq_true rfl⟩ (Nat.le_of_ble_eq_true rfl) rfl dL_build_121 ⟨rfl, rfl⟩ ⟨by show 9 + 4 * i ≤ 200; omega, by show 51 + 22 * i ≤ 1000; omega⟩ rfl (fun x_121 M_121 p_121 => ?_)
    obtain ⟨⟨many, hmany, e_121⟩, q_121⟩ := p_121
    subst e_121
    rw [q_121]
    refine g_istore4 (q := 126) C dL_build_124 (by first | rfl | exact hNw_rf _) rfl ?_
    refine g_iconst (q := 127) (0) C dL_build_126 (by decide) rfl ?_
    refine g_istore5 (q := 129) C dL_build_127 (by first | rfl | exact hNw_rf _) rfl ?_
    refine g_widen (n' := 33 + 3 * 0) (z' := 183 + 14 * 0) (by show 9 + 4 * i ≤ _; omega) (by show 51 + 22 * i ≤ _; omega) ?_
    refine h_loopU (P := fun n => ∀ (M2 : hM) (S2 : hS) (o6 o7 o8 o9 o10 : Option Value), ltP Γ M2 x S2 → smP Γ M2 y S2 → sI2 S2 0 → sN S2 = H → hG Γ k9 _ _ M2 (33 + 3 * n) (183 + 14 * n) 129 [some (.ref x), some (.ref b), some (.ref y), some (.int (nI H)), some (.int (nI many)), some (.int (nI n)), o6, o7, o8, o9, o10] []) (N := many) (fun n hn ihn => ?_) 0 (Nat.zero_le _) M1 S _ _ _ _ _ hL1 hS1 hI (by omega)
    intro M2 S2 o6 o7 o8 o9 o10 hL2 hS2 hI2 hsn2
    obtain ⟨ha2, oa2, la2, ob2, rx2, bd2, hQ2⟩ := id hS2
    obtain ⟨pX2, pH2, pO2, pLs2, pB2⟩ := id hQ2
    obtain ⟨lf, pLf, pRow⟩ := pLs2.row
    have hn6 := hI2.1.1
    have ho6 := hI2.1.2
    refine g_iload (q := 131) C dL_build_129 rfl rfl ?_
    refine g_iload (q := 133) C dL_build_131 rfl rfl ?_
    refine g_icmp_ge (t := 289) (q := 136) C dL_build_133 (by decide) rfl (fun c_133 => ?_) (fun c_133 => ?_)
    · skip
      have hNn := nI_ge_eq hn (by omega) c_133
      subst hNn
      refine g_aload_n (q := 290) C dL_build_289 rfl (by first | exact hRef_r _ | exact hRef_o _ | exact hRef_n) rfl ?_
      exact g_aret C dL_build_290 (by first | exact Or.inl ⟨_, rfl⟩ | exact Or.inr ⟨_, rfl⟩) rfl (⟨y, S2, rfl, hL2, hS2, hI2, by omega⟩) (by show 33 + 3 * n ≤ 200; omega) (by show 183 + 14 * n ≤ 1000; omega)
    · skip
      have hltn := nI_nge_lt hn (by omega) c_133
      refine g_aload_n (q := 137) C dL_build_136 rfl (by first | exact hRef_r _ | exact hRef_o _ | exact hRef_n) rfl ?_
      refine g_iconst (q := 138) (4) C dL_build_137 (by decide) rfl ?_
      refine g_iload (q := 140) C dL_build_138 rfl rfl ?_
      refine g_bipush (q := 142) (12) C dL_build_140 (by decide) rfl ?_
      refine g_irem (q := 143) C dL_build_142 (by decide) rfl ?_
      refine g_iadd (q := 144) C dL_build_143 rfl ?_
      rw [show (4 : Int32) + (nI n - nI n / 12 * 12) = nI (4 + n % 12) by rw [show nI n - nI n / 12 * 12 = nI (n % 12) from pk_rem (by omega) (by decide) (by decide), show (4 : Int32) = nI 4 from rfl, nI_add]]
      refine g_callS2I (q := 147) C hy_L_cell (c_L_cell Γ l (j := (4 + n % 12)) hΓ hN (by omega)) qw_504 ⟨Nat.le_of_ble_eq_true rfl, Nat.le_of_ble_eq_true rfl⟩ (Nat.le_of_ble_eq_true rfl) rfl dL_build_144 ⟨rfl, rfl⟩ ⟨by show 33 + 3 * n + 0 ≤ 200; omega, by show 183 + 14 * n + 0 ≤ 1000; omega⟩ rfl (fun x_144 M_144 p_144 => ?_)
      rw [p_144]
      refine g_iload (q := 149) C dL_build_147 rfl rfl ?_
      refine g_bipush (q := 151) (12) C dL_build_149 (by decide) rfl ?_
      refine g_idiv (q := 152) C dL_build_151 (by decide) rfl ?_
      refine g_bipush (q := 154) (6) C dL_build_152 (by decide) rfl ?_
      refine g_imul (q := 155) C dL_build_154 rfl ?_
      refine g_ishr (q := 156) C dL_build_155 rfl ?_
      refine g_bipush (q := 158) (37) C dL_build_156 (by decide) rfl ?_
      refine g_iload (q := 160) C dL_build_158 rfl rfl ?_
      refine g_imul (q := 161) C dL_build_160 rfl ?_
      refine g_iadd (q := 162) C dL_build_161 rfl ?_
      refine g_istore6 (q := 164) C dL_build_162 (by first | rfl | exact hNw_rf _) rfl ?_
      refine g_iload (q := 166) C dL_build_164 rfl rfl ?_
      refine g_iconst (q := 167) (5) C dL_build_166 (by decide) rfl ?_
      refine g_callS2I (q := 170) C hy_L_below (c_L_below Γ l (N := 5) (by decide) (by decide)) qw_500 ⟨Nat.le_of_ble_eq_true rfl, Nat.le_of_ble_eq_true rfl⟩ (Nat.le_of_ble_eq_true rfl) rfl dL_build_167 ⟨rfl, rfl⟩ ⟨by show 33 + 3 * n + 0 ≤ 200; omega, by show 183 + 14 * n + 0 ≤ 1000; omega⟩ rfl (fun x_167 M_167 p_167 => ?_)
      obtain ⟨⟨t, ht, e_167⟩, q_167⟩ := p_167
      subst e_167
      rw [q_167]
      obtain ⟨hr1, rf, hr2, hr3⟩ := pRow t ht
      refine g_istore7 (q := 172) C dL_build_170 (by first | rfl | exact hNw_rf _) rfl ?_
      refine g_iload (q := 174) C dL_build_172 rfl rfl ?_
      refine g_iconst (q := 175) (2) C dL_build_174 (by decide) rfl ?_
      refine g_ishr (q := 176) C dL_build_175 rfl ?_
      refine g_bipush (q := 178) (8) C dL_build_176 (by decide) rfl ?_
      refine g_callS2I (q := 181) C hy_L_below (c_L_below Γ l (N := 8) (by decide) (by decide)) qw_500 ⟨Nat.le_of_ble_eq_true rfl, Nat.le_of_ble_eq_true rfl⟩ (Nat.le_of_ble_eq_true rfl) rfl dL_build_178 ⟨rfl, rfl⟩ ⟨by show 33 + 3 * n + 0 ≤ 200; omega, by show 183 + 14 * n + 0 ≤ 1000; omega⟩ rfl (fun x_178 M_178 p_178 => ?_)
      obtain ⟨⟨h, hh, e_178⟩, q_178⟩ := p_178
      subst e_178
      rw [q_178]
      have hix : t * 8 + h < 40 := by omega
      refine g_istore8 (q := 183) C dL_build_181 (by first | rfl | exact hNw_rf _) rfl ?_
      refine g_aload_n (q := 184) C dL_build_183 rfl (by first | exact hRef_r _ | exact hRef_o _ | exact hRef_n) rfl ?_
      refine g_get (q := 187) C hcl_X5 5 (by decide) qw_645 rfl dL_build_184 (by exact pX2) rfl rfl ?_
      refine g_iload (q := 189) C dL_build_187 rfl rfl ?_
      refine g_aaldRR (q := 190) C t rfl ht (by decide) dL_build_189 (pLf) hr1 rfl ?_
      refine g_iload (q := 192) C dL_build_190 rfl rfl ?_
      refine g_aaldR (q := 193) C h rfl hh (by omega) dL_build_192 (hr2) (congrArg va_rf (hr3 h hh)) rfl ?_
      refine g_ifnull (t := 199) (q := 196) C dL_build_193 (by decide) rfl (fun e_193 => ?_) (fun y_193 e_193 => ?_)
      · skip
        have hb9 : (sB S2 (t * 8 + h)).1 = none := pB2.2.1 _ hix e_193
        refine g_bipush (q := 201) (40) C dL_build_199 (by decide) rfl ?_
        refine g_iload (q := 203) C dL_build_201 rfl rfl ?_
        refine g_iconst (q := 204) (4) C dL_build_203 (by decide) rfl ?_
        refine g_ishr (q := 205) C dL_build_204 rfl ?_
        refine g_bipush (q := 207) (61) C dL_build_205 (by decide) rfl ?_
        refine g_callS2I (q := 210) C hy_L_below (c_L_below Γ l (N := 61) (by decide) (by decide)) qw_500 ⟨Nat.le_of_ble_eq_true rfl, Nat.le_of_ble_eq_true rfl⟩ (Nat.le_of_ble_eq_true rfl) rfl dL_build_207 ⟨rfl, rfl⟩ ⟨by show 33 + 3 * n + 0 ≤ 200; omega, by show 183 + 14 * n + 0 ≤ 1000; omega⟩ rfl (fun x_207 M_207 p_207 => ?_)
        obtain ⟨⟨w8, hw8, e_207⟩, q_207⟩ := p_207
        subst e_207
        rw [q_207]
        obtain ⟨w, hw, ew⟩ : ∃ w, w ≤ 100 ∧ (40 : Int32) + nI w8 = nI w := ⟨40 + w8, by omega, nI_add 40 w8⟩
        refine g_iadd (q := 211) C dL_build_210 rfl ?_
        rw [ew]
        refine g_istore9 (q := 213) C dL_build_211 (by first | rfl | exact hNw_rf _) rfl ?_
        refine g_iload (q := 215) C dL_build_213 rfl rfl ?_
        refine g_bipush (q := 217) (6) C dL_build_215 (by decide) rfl ?_
        refine g_ishr (q := 218) C dL_build_217 rfl ?_
        refine g_iload_n (q := 219) C dL_build_218 rfl rfl ?_
        refine g_callS2I (q := 222) C hy_L_below (c_L_below Γ l (N := H) (by omega) (by omega)) qw_500 ⟨Nat.le_of_ble_eq_true rfl, Nat.le_of_ble_eq_true rfl⟩ (Nat.le_of_ble_eq_true rfl) rfl dL_build_219 ⟨rfl, rfl⟩ ⟨by show 33 + 3 * n + 0 ≤ 200; omega, by show 183 + 14 * n + 0 ≤ 1000; omega⟩ rfl (fun x_219 M_219 p_219 => ?_)
        obtain ⟨⟨j, hj, e_219⟩, q_219⟩ := p_219
        subst e_219
        rw [q_219]
        refine g_istore10 (q := 224) C dL_build_222 (by first | rfl | exact hNw_rf _) rfl ?_
        refine g_aload_n (q := 225) C dL_build_224 rfl (by first | exact hRef_r _ | exact hRef_o _ | exact hRef_n) rfl ?_
        refine g_get (q := 228) C hcl_X5 5 (by decide) qw_645 rfl dL_build_225 (by exact pX2) rfl rfl ?_
        refine g_iload (q := 230) C dL_build_228 rfl rfl ?_
        refine g_aaldRR (q := 231) C t rfl ht (by decide) dL_build_230 (pLf) hr1 rfl ?_
        refine g_iload (q := 233) C dL_build_231 rfl rfl ?_
        refine g_iconst (q := 234) (5) C dL_build_233 (by decide) rfl ?_
        refine g_newI (q := 236) C qw_476 (N := 5) rfl (by decide) (by show 33 + 3 * n + 1 ≤ 200; omega) (by show 183 + 14 * n + 5 ≤ 1000; omega) dL_build_234 rfl (fun a e_a => ?_)
        refine g_dup (q := 237) C dL_build_236 rfl rfl ?_
        refine g_iconst (q := 238) (0) C dL_build_237 (by decide) rfl ?_
        refine g_iload (q := 240) C dL_build_238 rfl rfl ?_
        refine g_iast (q := 241) C 0 rfl (by decide) (by decide) dL_build_240 (hU_s _ _ _) rfl ?_
        rw [hU_2]
        refine g_dup (q := 242) C dL_build_241 rfl rfl ?_
        refine g_iconst (q := 243) (1) C dL_build_242 (by decide) rfl ?_
        refine g_iload (q := 245) C dL_build_243 rfl rfl ?_
        refine g_iast (q := 246) C 1 rfl (by decide) (by decide) dL_build_245 (hU_s _ _ _) rfl ?_
        rw [hU_2]
        refine g_dup (q := 247) C dL_build_246 rfl rfl ?_
        refine g_iconst (q := 248) (2) C dL_build_247 (by decide) rfl ?_
        refine g_iload (q := 250) C dL_build_248 rfl rfl ?_
        refine g_iast (q := 251) C 2 rfl (by decide) (by decide) dL_build_250 (hU_s _ _ _) rfl ?_
        rw [hU_2]
        refine g_dup (q := 252) C dL_build_251 rfl rfl ?_
        refine g_iconst (q := 253) (3) C dL_build_252 (by decide) rfl ?_
        refine g_iconst (q := 254) (0) C dL_build_253 (by decide) rfl ?_
        refine g_iast (q := 255) C 3 rfl (by decide) (by decide) dL_build_254 (hU_s _ _ _) rfl ?_
        rw [hU_2]
        refine g_dup (q := 256) C dL_build_255 rfl rfl ?_
        refine g_iconst (q := 257) (4) C dL_build_256 (by decide) rfl ?_
        refine g_iconst (q := 258) (0) C dL_build_257 (by decide) rfl ?_
        refine g_iast (q := 259) C 4 rfl (by decide) (by decide) dL_build_258 (hU_s _ _ _) rfl ?_
        rw [hU_2]
        obtain ⟨f, hf⟩ : ∃ f9 : Nat → Int32, f9 = (upd (upd (upd (upd (upd (fun _ => 0) 0 (nI j)) 1 (nI w)) 2 (nI w)) 3 0) 4 0) := ⟨_, rfl⟩
        rw [← hf]
        have hc9 : smC j (some j, nI w, nI w, 0, 0) f := by
          refine ⟨?_, ?_, ?_, ?_, ?_⟩
          · rw [hf, pk_un (by decide), pk_un (by decide), pk_un (by decide), pk_un (by decide), pk_us]
          · rw [hf, pk_un (by decide), pk_un (by decide), pk_un (by decide), pk_us]
          · rw [hf, pk_un (by decide), pk_un (by decide), pk_us]
          · rw [hf, pk_un (by decide), pk_us]
          · rw [hf, pk_us]
        have kn : hKp (fun _ => true) M2 (hU M2 a (aI Γ 5 f)) := hKp.rf.new e_a
        have hr8 : hKp noR8 M2 (hU (hU M2 a (aI Γ 5 f)) (rx2 t) (aR Γ 8 (va_up rf h (some a)))) := (kn.wk (fun _ _ => rfl)).put (kn _ _ _ hr2 rfl) rfl
        have pL3 := (pLs2.kp kn rfl rfl).put ht hh hr3 (some a)
        have pB3 := (pB2.new (i := t * 8 + h) (f := f) e_a (b := (some j, nI w, nI w, 0, 0)) rfl hc9).kp (hKp.rf.put (kn _ _ _ hr2 rfl) rfl : hKp noR8 (hU M2 a (aI Γ 5 f)) (hU (hU M2 a (aI Γ 5 f)) (rx2 t) (aR Γ 8 (va_up rf h (some a))))) rfl
        have hS7 : smP Γ (hU (hU M2 a (aI Γ 5 f)) (rx2 t) (aR Γ 8 (va_up rf h (some a)))) y (setB S2 (fUp (sB S2) (t * 8 + h) (some j, nI w, nI w, 0, 0))) := ⟨ha2, oa2, la2, ob2, rx2, _, hr8 _ _ _ pX2 rfl, pH2.kp hr8 (noR8_s hn6) rfl, pO2.kp hr8 (noR8_s ho6) rfl, pL3, pB3⟩
        have hL7 := hL2.kp hr8 rfl rfl rfl rfl rfl rfl ⟨rfl, rfl⟩ rfl
        obtain ⟨_, _, _, _, _, _, _, _, _, _, _, _, _, hLq7⟩ := id hL7
        have hI3 := hI2.up (k := t * 8 + h) (bOk.new (n := sN S2) (D := 0) (by omega : j < sN S2) hw)
        refine g_aastR (q := 260) C h rfl hh (by decide) dL_build_259 (kn _ _ _ hr2 rfl) (hU_s _ _ _) rfl ?_
        refine g_aload_n (q := 261) C dL_build_260 rfl (by first | exact hRef_r _ | exact hRef_o _ | exact hRef_n) rfl ?_
        refine g_iload (q := 263) C dL_build_261 rfl rfl ?_
        refine g_iload (q := 265) C dL_build_263 rfl rfl ?_
        refine g_iload (q := 267) C dL_build_265 rfl rfl ?_
        refine g_iload (q := 269) C dL_build_267 rfl rfl ?_
        refine g_callVX4I (q := 272) C hy_X4_hang (c_X4_hang Γ l (nI t) (nI h) (nI j) (nI w) hl hL7 hI2.inv) (thrN_no (by rw [sHang_no ht hh hn6 (by omega) hw hb9])) qw_513 (by exact hLq7.1) rfl ⟨Nat.le_of_ble_eq_true rfl, Nat.le_of_ble_eq_true rfl⟩ (Nat.le_of_ble_eq_true rfl) rfl dL_build_269 ⟨by show 33 + 3 * n + 2 ≤ 200; omega, by show 183 + 14 * n + 11 ≤ 1000; omega⟩ rfl (fun x_269 M_269 p_269 => ?_)
        rw [sHang_no ht hh hn6 (by omega) hw hb9] at p_269
        obtain ⟨-, v1, k2, k5⟩ := p_269
        have hS8 := smP.cls hS7 hI3 k5
        obtain ⟨ha8, oa8, la8, ob8, rx8, bd8, hQ8⟩ := id hS8
        refine g_aload_n (q := 273) C dL_build_272 rfl (by first | exact hRef_r _ | exact hRef_o _ | exact hRef_n) rfl ?_
        refine g_callV0Qm (q := 276) C hy_X5_sums (c_X5_sums Γ l hS8) qw_512 (by exact hQ8.1) rfl ⟨Nat.le_of_ble_eq_true rfl, Nat.le_of_ble_eq_true rfl⟩ (Nat.le_of_ble_eq_true rfl) rfl dL_build_273 ⟨by show 33 + 3 * n + 3 ≤ 200; omega, by show 183 + 14 * n + 14 ≤ 1000; omega⟩ rfl (fun x_273 M_273 p_273 => ?_)
        obtain ⟨sb, sf, rfl, e_sb, rfl, s0, s1, s2⟩ := p_273
        have kn9 : hKp (fun _ => true) M_269 (hU M_269 sb (aI Γ 3 sf)) := hKp.rf.new e_sb
        have hL8 := k2.kp kn9 rfl rfl rfl rfl rfl rfl ⟨rfl, rfl⟩ rfl
        have hS9 := hS8.kp kn9 simK_all hn6 ho6
        refine g_iconst (q := 277) (0) C dL_build_276 (by decide) rfl ?_
        refine g_iald (q := 278) C 0 rfl (by decide) (by decide) dL_build_277 (hU_s _ _ _) rfl ?_
        refine g_icmp_eq (t := 283) (q := 281) C dL_build_278 (by decide) rfl (fun c_278 => ?_) (fun c_278 => ?_)
        · skip
          refine g_iinc5 (q := 286) (1) C dL_build_283 (by decide) (by first | rfl | exact hNw_rf _) rfl ?_
          refine g_goto (t := 129) C dL_build_286 (by decide) ?_
          rw [nI_1]
          refine g_widen (n' := 33 + 3 * (n + 1)) (z' := 183 + 14 * (n + 1)) (by show 33 + 3 * n + 1 + 1 + 1 ≤ _; omega) (by show 183 + 14 * n + 5 + 6 + 3 ≤ _; omega) ?_
          exact ihn hltn _ _ _ _ _ _ _ hL8 hS9 hI3 hsn2
        · skip
          exact absurd (v1.trans s0.symm) c_278
      · skip
        skip
        refine g_goto (t := 283) C dL_build_196 (by decide) ?_
        refine g_iinc5 (q := 286) (1) C dL_build_283 (by decide) (by first | rfl | exact hNw_rf _) rfl ?_
        refine g_goto (t := 129) C dL_build_286 (by decide) ?_
        rw [nI_1]
        refine g_widen (n' := 33 + 3 * (n + 1)) (z' := 183 + 14 * (n + 1)) (by omega) (by omega) ?_
        exact ihn hltn M2 S2 _ _ _ _ _ hL2 hS2 hI2 hsn2
  · skip
    have hlt := nI_nge_lt hi (by omega) c_27
    refine g_iconst (q := 31) (2) C dL_build_30 (by decide) rfl ?_
    refine g_newI (q := 33) C qw_476 (N := 2) rfl (by decide) (by show 9 + 4 * i + 1 ≤ 200; omega) (by show 51 + 22 * i + 2 ≤ 1000; omega) dL_build_31 rfl (fun o e_o => ?_)
    refine g_dup (q := 34) C dL_build_33 rfl rfl ?_
    refine g_iconst (q := 35) (0) C dL_build_34 (by decide) rfl ?_
    refine g_iconst (q := 36) (1) C dL_build_35 (by decide) rfl ?_
    refine g_aload_n (q := 37) C dL_build_36 rfl (by first | exact hRef_r _ | exact hRef_o _ | exact hRef_n) rfl ?_
    refine g_iconst (q := 38) (1) C dL_build_37 (by decide) rfl ?_
    refine g_callS2I (q := 41) C hy_L_cell (c_L_cell Γ l (j := 1) hΓ hN (by decide)) qw_504 ⟨Nat.le_of_ble_eq_true rfl, Nat.le_of_ble_eq_true rfl⟩ (Nat.le_of_ble_eq_true rfl) rfl dL_build_38 ⟨rfl, rfl⟩ ⟨by show 9 + 4 * i + 1 ≤ 200; omega, by show 51 + 22 * i + 2 ≤ 1000; omega⟩ rfl (fun x_38 M_38 p_38 => ?_)
    rw [p_38]
    refine g_iconst (q := 42) (3) C dL_build_41 (by decide) rfl ?_
    refine g_iload (q := 44) C dL_build_42 rfl rfl ?_
    refine g_imul (q := 45) C dL_build_44 rfl ?_
    refine g_ishr (q := 46) C dL_build_45 rfl ?_
    refine g_bipush (q := 48) (9) C dL_build_46 (by decide) rfl ?_
    refine g_callS2I (q := 51) C hy_L_below (c_L_below Γ l (N := 9) (by decide) (by decide)) qw_500 ⟨Nat.le_of_ble_eq_true rfl, Nat.le_of_ble_eq_true rfl⟩ (Nat.le_of_ble_eq_true rfl) rfl dL_build_48 ⟨rfl, rfl⟩ ⟨by show 9 + 4 * i + 1 ≤ 200; omega, by show 51 + 22 * i + 2 ≤ 1000; omega⟩ rfl (fun x_48 M_48 p_48 => ?_)
    obtain ⟨⟨e8, he8, e_48⟩, q_48⟩ := p_48
    subst e_48
    rw [q_48]
    obtain ⟨e9, he1, he9, ee9⟩ : ∃ e9, 1 ≤ e9 ∧ e9 ≤ 9 ∧ (1 : Int32) + nI e8 = nI e9 := ⟨1 + e8, by omega, by omega, nI_add 1 e8⟩
    refine g_iadd (q := 52) C dL_build_51 rfl ?_
    rw [ee9]
    refine g_iast (q := 53) C 0 rfl (by decide) (by decide) dL_build_52 (hU_s _ _ _) rfl ?_
    rw [hU_2]
    refine g_dup (q := 54) C dL_build_53 rfl rfl ?_
    refine g_iconst (q := 55) (1) C dL_build_54 (by decide) rfl ?_
    refine g_bipush (q := 57) (20) C dL_build_55 (by decide) rfl ?_
    refine g_aload_n (q := 58) C dL_build_57 rfl (by first | exact hRef_r _ | exact hRef_o _ | exact hRef_n) rfl ?_
    refine g_iconst (q := 59) (2) C dL_build_58 (by decide) rfl ?_
    refine g_callS2I (q := 62) C hy_L_cell (c_L_cell Γ l (j := 2) hΓ hN (by decide)) qw_504 ⟨Nat.le_of_ble_eq_true rfl, Nat.le_of_ble_eq_true rfl⟩ (Nat.le_of_ble_eq_true rfl) rfl dL_build_59 ⟨rfl, rfl⟩ ⟨by show 9 + 4 * i + 1 ≤ 200; omega, by show 51 + 22 * i + 2 ≤ 1000; omega⟩ rfl (fun x_59 M_59 p_59 => ?_)
    rw [p_59]
    refine g_iconst (q := 63) (3) C dL_build_62 (by decide) rfl ?_
    refine g_iload (q := 65) C dL_build_63 rfl rfl ?_
    refine g_imul (q := 66) C dL_build_65 rfl ?_
    refine g_ishr (q := 67) C dL_build_66 rfl ?_
    refine g_bipush (q := 69) (71) C dL_build_67 (by decide) rfl ?_
    refine g_callS2I (q := 72) C hy_L_below (c_L_below Γ l (N := 71) (by decide) (by decide)) qw_500 ⟨Nat.le_of_ble_eq_true rfl, Nat.le_of_ble_eq_true rfl⟩ (Nat.le_of_ble_eq_true rfl) rfl dL_build_69 ⟨rfl, rfl⟩ ⟨by show 9 + 4 * i + 1 ≤ 200; omega, by show 51 + 22 * i + 2 ≤ 1000; omega⟩ rfl (fun x_69 M_69 p_69 => ?_)
    obtain ⟨⟨l8, hl8, e_69⟩, q_69⟩ := p_69
    subst e_69
    rw [q_69]
    obtain ⟨l9, hl1, hl9, el9⟩ : ∃ l9, 20 ≤ l9 ∧ l9 ≤ 90 ∧ (20 : Int32) + nI l8 = nI l9 := ⟨20 + l8, by omega, by omega, nI_add 20 l8⟩
    refine g_iadd (q := 73) C dL_build_72 rfl ?_
    rw [el9]
    refine g_iast (q := 74) C 1 rfl (by decide) (by decide) dL_build_73 (hU_s _ _ _) rfl ?_
    rw [hU_2]
    obtain ⟨f, hf⟩ : ∃ f9 : Nat → Int32, f9 = (upd (upd (fun _ => 0) 0 (nI e9)) 1 (nI l9)) := ⟨_, rfl⟩
    rw [← hf]
    have f0 : f 0 = nI e9 := by rw [hf, pk_un (by decide), pk_us]
    have f1 : f 1 = nI l9 := by rw [hf, pk_us]
    have kn : hKp (fun _ => true) M1 (hU M1 o (aI Γ 2 f)) := hKp.rf.new e_o
    refine g_astore5 (q := 76) C dL_build_74 (by first | exact hRef_r _ | exact hRef_o _ | exact hRef_n) (by first | rfl | exact hNw_rf _) rfl ?_
    refine g_aload_n (q := 77) C dL_build_76 rfl (by first | exact hRef_r _ | exact hRef_o _ | exact hRef_n) rfl ?_
    refine g_aload_n (q := 78) C dL_build_77 rfl (by first | exact hRef_r _ | exact hRef_o _ | exact hRef_n) rfl ?_
    refine g_get (q := 81) C hcl_X5 3 (by decide) qw_641 rfl dL_build_78 (by exact kn _ _ _ pX rfl) rfl rfl ?_
    refine g_aload (q := 83) C dL_build_81 rfl (by first | exact hRef_r _ | exact hRef_o _ | exact hRef_n) rfl ?_
    refine g_callS2Qm (q := 86) C hy_X5_more (c_X5_more Γ l (w := true) (w2 := true) (kn _ _ _ hHa rfl) (hU_s M1 o (aI Γ 2 f)) (fun i hi => by obtain ⟨a9, f9, z1, z2, z3⟩ := hHr i hi; exact ⟨_, true, 2, f9, z1, kn _ _ _ z2 rfl⟩) hn6) qw_537 ⟨Nat.le_of_ble_eq_true rfl, Nat.le_of_ble_eq_true rfl⟩ (Nat.le_of_ble_eq_true rfl) rfl dL_build_83 ⟨by show 9 + 4 * i + 2 ≤ 200; omega, by show 51 + 22 * i + 9 ≤ 1000; omega⟩ rfl (fun x_83 M_83 p_83 => ?_)
    obtain ⟨nb, g2, rfl, e_nb, rfl, hg2, hg3⟩ := p_83
    refine g_put (q := 89) C hcl_X5 3 (by decide) qw_641 rfl rfl rfl rfl dL_build_86 (by exact (kn.new e_nb : hKp (fun _ => true) M1 _) _ _ _ pX rfl) (Nat.le_of_ble_eq_true rfl) rfl ?_
    (try rw [hU_2])
    have kn2 : hKp (fun _ => true) M1 (hU (hU M1 o (aI Γ 2 f)) nb (aR Γ (sN S + 1) g2)) := kn.new e_nb
    have pX2 := kn2 _ _ _ pX rfl
    have kx : hKp noSx M1 (hU (hU (hU M1 o (aI Γ 2 f)) nb (aR Γ (sN S + 1) g2)) y (oSim (sDay S) (sWin S) (givn S) (some nb) (some oa) (some la))) := (kn2.wk (fun _ _ => rfl)).put pX2 rfl
    have oney : o ≠ y := fun q => by rw [q, pX] at e_o; cases e_o
    have hoN : o ≠ nb := fun q => by rw [← q, hU_s] at e_nb; cases e_nb
    have nbny : nb ≠ y := fun q => by rw [q, (kn _ _ _ pX rfl)] at e_nb; cases e_nb
    have hoF : (hU (hU (hU M1 o (aI Γ 2 f)) nb (aR Γ (sN S + 1) g2)) y (oSim (sDay S) (sWin S) (givn S) (some nb) (some oa) (some la))) o = some (true, aI Γ 2 f) := (hU_n oney).trans ((hU_n hoN).trans (hU_s _ _ _))
    have hbF : (hU (hU (hU M1 o (aI Γ 2 f)) nb (aR Γ (sN S + 1) g2)) y (oSim (sDay S) (sWin S) (givn S) (some nb) (some oa) (some la))) nb = some (true, aR Γ (sN S + 1) g2) := (hU_n nbny).trans (hU_s _ _ _)
    have kOld : ∀ a w e, (fun q => if q = y then none else M1 q : hM) a = some (w, e) → (hU (hU (hU M1 o (aI Γ 2 f)) nb (aR Γ (sN S + 1) g2)) y (oSim (sDay S) (sWin S) (givn S) (some nb) (some oa) (some la))) a = some (w, e) := fun a w e z => by
      by_cases q : a = y
      · simp [q] at z
      · simp only [if_neg q] at z
        exact (hU_n q).trans (kn2 _ _ _ z rfl)
    have hS2 : smP Γ (hU (hU (hU M1 o (aI Γ 2 f)) nb (aR Γ (sN S + 1) g2)) y (oSim (sDay S) (sWin S) (givn S) (some nb) (some oa) (some la))) y (hrbS S (nI e9) (nI l9)) := by
      refine ⟨nb, oa, la, ob, rx, bd, hU_s _ _ _, ?_, pO.kp kx rfl rfl, pLs.kp kx rfl rfl, pB.kp kx rfl⟩
      exact smH.add (M := fun q => if q = y then none else M1 q) kOld (fun i hi => by
        obtain ⟨a9, f9, z1, z2, z3⟩ := hHr i hi
        exact ⟨a9, f9, z1, by show (if a9 = y then none else M1 a9) = _; rw [if_neg (fun q => by rw [q, pX] at z2; cases z2)]; exact z2, z3⟩) hoF hbF hg2 hg3 f0 f1
    have hL2 := hL1.kp kx rfl rfl rfl rfl rfl rfl ⟨rfl, rfl⟩ rfl
    obtain ⟨_, _, _, _, _, _, _, _, _, _, _, _, _, hLq2⟩ := id hL2
    refine g_aload_n (q := 90) C dL_build_89 rfl (by first | exact hRef_r _ | exact hRef_o _ | exact hRef_n) rfl ?_
    refine g_aload (q := 92) C dL_build_90 rfl (by first | exact hRef_r _ | exact hRef_o _ | exact hRef_n) rfl ?_
    refine g_iconst (q := 93) (0) C dL_build_92 (by decide) rfl ?_
    refine g_iald (q := 94) C 0 rfl (by decide) (by decide) dL_build_93 (hoF) rfl ?_
    rw [f0]
    refine g_aload (q := 96) C dL_build_94 rfl (by first | exact hRef_r _ | exact hRef_o _ | exact hRef_n) rfl ?_
    refine g_iconst (q := 97) (1) C dL_build_96 (by decide) rfl ?_
    refine g_iald (q := 98) C 1 rfl (by decide) (by decide) dL_build_97 (hoF) rfl ?_
    rw [f1]
    refine g_callVX2I (q := 101) C hy_X4_herb (c_X4_herb Γ l (nI e9) (nI l9) hl hL2 hI.inv) (thrN_no (by rw [sHerb_ok he1 he9 hl1 hl9 (by omega)])) qw_659 (by exact hLq2.1) rfl ⟨Nat.le_of_ble_eq_true rfl, Nat.le_of_ble_eq_true rfl⟩ (Nat.le_of_ble_eq_true rfl) rfl dL_build_98 ⟨by show 9 + 4 * i + 4 ≤ 200; omega, by show 51 + 22 * i + 22 ≤ 1000; omega⟩ rfl (fun x_98 M_98 p_98 => ?_)
    rw [sHerb_ok he1 he9 hl1 hl9 (by omega)] at p_98
    obtain ⟨-, v1, p3, k5⟩ := p_98
    have hI2 := hI.hrb he1 he9 hl1 hl9 (by omega)
    have hS8 := smP.cls hS2 hI2 k5
    refine g_iload (q := 103) C dL_build_101 rfl rfl ?_
    refine g_icmp_eq (t := 108) (q := 106) C dL_build_103 (by decide) rfl (fun c_103 => ?_) (fun c_103 => ?_)
    · skip
      refine g_iinc4 (q := 111) (1) C dL_build_108 (by decide) (by first | rfl | exact hNw_rf _) rfl ?_
      refine g_goto (t := 24) C dL_build_111 (by decide) ?_
      rw [nI_1]
      refine g_widen (n' := 9 + 4 * (i + 1)) (z' := 51 + 22 * (i + 1)) (by show 9 + 4 * i + 1 + 1 + 2 ≤ _; omega) (by show 51 + 22 * i + 2 + 7 + 13 ≤ _; omega) ?_
      exact ih hlt _ _ _ p3 hS8 hI2 (by show sN S + 1 = i + 1; rw [hsn])
    · skip
      exact absurd (v1.trans (by rw [hsn])) c_103
