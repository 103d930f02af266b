/-! ===== the law's walk ===== -/
theorem sCnt_1 {S : hS} : sCount S 1 = (0, cnI S 1) := sCount_ok (w := 1) (by decide)
theorem sCnt_2 {S : hS} : sCount S 2 = (0, cnI S 2) := sCount_ok (w := 2) (by decide)
theorem sCnt_3 {S : hS} : sCount S 3 = (0, cnI S 3) := sCount_ok (w := 3) (by decide)
theorem sCnt_4 {S : hS} : sCount S 4 = (0, cnI S 4) := sCount_ok (w := 4) (by decide)
theorem sCnt_6 {S : hS} : sCount S 6 = (0, cnI S 6) := sCount_ok (w := 6) (by decide)
theorem sCnt_8 {S : hS} : sCount S 8 = (0, cnI S 8) := sCount_ok (w := 8) (by decide)
/-- what was told, while it is laid down: M0 the map it began with -/
def tdS (Γ : hGam) (M0 M : hM) (ta : Nat) (B : Nat → hB) (F : Nat → Nat → Int32) (i : Nat) : Prop := hKp (fun _ => true) M0 M ∧ M ta = some (true, aR Γ 40 (fun a => if a < 40 then some (ta + 1 + a) else none)) ∧ (∀ c, c < 40 → M (ta + 1 + c) = some (true, aI Γ 8 (F c)) ∧ M0 (ta + 1 + c) = none) ∧ ∀ c, c < i → ∀ w, w < 8 → F c w = tellI B c (nI w)
theorem tdS.put {Γ : hGam} {M0 M : hM} {ta : Nat} {B : Nat → hB} {F : Nat → Nat → Int32} {i : Nat} (h : tdS Γ M0 M ta B F i) (hi : i < 40) (f : Nat → Int32) : tdS Γ M0 (hU M (ta + 1 + i) (aI Γ 8 f)) ta B (fUp F i f) i := by
  obtain ⟨h1, h2, h3, h4⟩ := h
  refine ⟨h1.old (h3 i hi).2, (hU_n (by omega)).trans h2, fun c hc => ⟨?_, (h3 c hc).2⟩, fun c hc => by rw [fUp_n (by omega)]; exact h4 c hc⟩
  by_cases q : c = i
  · subst q; rw [fUp_s]; exact hU_s _ _ _
  · rw [fUp_n q]; exact (hU_n (by omega)).trans (h3 c hc).1
theorem tdS.go {Γ : hGam} {M0 M : hM} {ta : Nat} {B : Nat → hB} {F : Nat → Nat → Int32} {i : Nat} (h : tdS Γ M0 M ta B F i) (hw : ∀ w, w < 8 → F i w = tellI B i (nI w)) : tdS Γ M0 M ta B F (i + 1) :=
  ⟨h.1, h.2.1, h.2.2.1, fun c hc => by
    by_cases q : c = i
    · subst q; exact hw
    · exact h.2.2.2 c (by omega)⟩
/-- what was told of all hooks -/
def tdP (Γ : hGam) (M : hM) (ta : Nat) (B : Nat → hB) : Prop := ∃ g : Nat → Option Nat, M ta = some (true, aR Γ 40 g) ∧ ∀ k, k < 40 → ∃ (r : Nat) (T : Nat → Int32), g k = some r ∧ M r = some (true, aI Γ 8 T) ∧ ∀ w, w < 8 → T w = tellI B k (nI w)
theorem tdS.P {Γ : hGam} {M0 M : hM} {ta : Nat} {B : Nat → hB} {F : Nat → Nat → Int32} (h : tdS Γ M0 M ta B F 40) : tdP Γ M ta B := ⟨_, h.2.1, fun k hk => ⟨ta + 1 + k, F k, if_pos hk, (h.2.2.1 k hk).1, h.2.2.2 k hk⟩⟩
theorem tdP.kp {Γ : hGam} {M M1 : hM} {ta : Nat} {B : Nat → hB} (h : tdP Γ M ta B) {P : kK → Bool} (hk : hKp P M M1) (h1 : P (12, 40) = true) (h2 : P (10, 8) = true) : tdP Γ M1 ta B := by
  obtain ⟨g, h3, h4⟩ := h
  exact ⟨g, hk _ _ _ h3 h1, fun k hk2 => by
    obtain ⟨r, T, q1, q2, q3⟩ := h4 k hk2
    exact ⟨r, T, q1, hk _ _ _ q2 h2, q3⟩⟩
theorem lawS.all {Γ : hGam} {M M1 : hM} {x y D : Nat} {S : hS} (h : lawS Γ M x y S D) (hk : hKp (fun _ => true) M M1) : lawS Γ M1 x y S D := ⟨h.1.kp hk rfl rfl rfl rfl rfl rfl ⟨rfl, rfl⟩ rfl, h.2.1.kp hk simK_all h.2.2.1.1.1 h.2.2.1.1.2, h.2.2⟩
theorem sTold_n6 {S : hS} {i : Nat} (hi : i < 40) (h7 : i % 8 < 7) : sTold S (nI (i / 8)) (nI (i % 8) + 1) 6 = (0, tellI (sB S) (i + 1) (nI 6)) := sTold_n (w := 6) hi h7 (by decide)
theorem sTold_n7 {S : hS} {i : Nat} (hi : i < 40) (h7 : i % 8 < 7) : sTold S (nI (i / 8)) (nI (i % 8) + 1) 7 = (0, tellI (sB S) (i + 1) (nI 7)) := sTold_n (w := 7) hi h7 (by decide)
set_option maxRecDepth 100000 in
set_option maxHeartbeats 8000000 in
theorem law_86 {Γ : hGam} {l : Launch} {k9 : hCtx} {nm : String} {A : Nat → Prop} {Q : State → Prop} (C : hC Γ l k9 RL nm cL_law 24 (some .boolean) room_1 A) (hl : l.stackTraces = false) {x y D : Nat} {S : hS} {M : hM} {n z tm b : Nat} {xv : Int32} {dg : Int64} (hn : n + 1000 ≤ 893913) (hz : z + 10000 ≤ 6419885) (hLS : lawS Γ M x y S D) (hD : D < 1000000) (o7 o8 o9 o10 o11 o12 o13 o14 o15 o16 o17 o18 o19 o20 o21 o22 o23 : Option Value) (kk : ∀ (M1 : hM) (ta : Nat) (c8 c9 c10 : Int32) (p11 p12 : Option Value), lawS Γ M1 x y S D → tdP Γ M1 ta (sB S) → c8 = hIt (fCnt (sB S)) 0 40 → c9 = hIt (fBad (sB S)) 0 40 → c10 = hIt (fSum (sB S)) 0 40 → hG Γ k9 A Q M1 (n + 41) (z + 360) 391 [some (.ref b), some (.ref x), some (.ref y), some (.int (nI tm)), some (.int xv), some (.long dg), none, some (.ref ta), some (.int c8), some (.int c9), some (.int c10), p11, p12, o13, o14, o15, o16, o17, o18, o19, o20, o21, o22, o23] []) : hG Γ k9 A Q M (n) (z) 86 [some (.ref b), some (.ref x), some (.ref y), some (.int (nI tm)), some (.int xv), some (.long dg), none, o7, o8, o9, o10, o11, o12, o13, o14, o15, o16, o17, o18, o19, o20, o21, o22, o23] [] := by
  obtain ⟨hLt, hS, hI, h0⟩ := id hLS
  have hn6 := hI.1.1
  have ho6 := hI.1.2
  refine g_bipush (q := 88) (40) C dL_law_86 (by decide) rfl ?_
  refine g_bipush (q := 90) (8) C dL_law_88 (by decide) rfl ?_
  refine g_mna (q := 94) (N := 40) (K := 8) (ty := .int) (t1 := 4) (t2 := 0) (z0 := .inl (fun _ => 0)) C (by rw [sI]; exact qw_687) (C_aoaI C) (C.ts _ qw_476) (C.hk.2 4 _ rfl).2 (nm_I C) rfl rfl (by decide) (by decide) (by decide) rfl rfl (fun c => mna_I c 8) (by show n + 41 ≤ 893913; omega) (by show z + 360 ≤ 6419885; omega) dL_law_90 rfl (fun ta M1 e1 e2 m0 mr mo => ?_)
  refine g_widen (n' := n + 41) (z' := z + 360) (Nat.le_refl _) (Nat.le_refl _) ?_
  refine g_astore7 (q := 96) C dL_law_94 (by first | exact hRef_r _ | exact hRef_o _ | exact hRef_n) (by first | rfl | exact hNw_rf _) rfl ?_
  refine g_iconst (q := 97) (0) C dL_law_96 (by decide) rfl ?_
  refine g_istore8 (q := 99) C dL_law_97 (by first | rfl | exact hNw_rf _) rfl ?_
  refine g_iconst (q := 100) (0) C dL_law_99 (by decide) rfl ?_
  refine g_istore9 (q := 102) C dL_law_100 (by first | rfl | exact hNw_rf _) rfl ?_
  refine g_iconst (q := 103) (0) C dL_law_102 (by decide) rfl ?_
  refine g_istore10 (q := 105) C dL_law_103 (by first | rfl | exact hNw_rf _) rfl ?_
  refine g_iconst (q := 106) (0) C dL_law_105 (by decide) rfl ?_
  refine g_istore11 (q := 108) C dL_law_106 (by first | rfl | exact hNw_rf _) rfl ?_
  have hs0 : tdS Γ M M1 ta (sB S) (fun _ _ => 0) 0 := ⟨fun a w e h _ => mo _ _ h, m0, fun c hc => ⟨mr c hc, e2 c hc⟩, fun c hc => absurd hc (Nat.not_lt_zero _)⟩
  refine h_loopU (P := fun i => ∀ (M4 : hM) (F : Nat → Nat → Int32) (c8 c9 c10 : Int32) (o12 : Option Value), tdS Γ M M4 ta (sB S) F i → c8 = hIt (fCnt (sB S)) 0 i → c9 = hIt (fBad (sB S)) 0 i → c10 = hIt (fSum (sB S)) 0 i → hG Γ k9 A Q M4 (n + 41) (z + 360) 108 [some (.ref b), some (.ref x), some (.ref y), some (.int (nI tm)), some (.int xv), some (.long dg), none, some (.ref ta), some (.int c8), some (.int c9), some (.int c10), some (.int (nI i)), o12, o13, o14, o15, o16, o17, o18, o19, o20, o21, o22, o23] []) (N := 40) (fun i ha iha => ?_) 0 (Nat.zero_le _) M1 (fun _ _ => 0) 0 0 0 _ hs0 rfl rfl rfl
  intro M4 F c8 c9 c10 o12 hs h8 h9 h10
  refine g_iload (q := 110) C dL_law_108 rfl rfl ?_
  refine g_bipush (q := 112) (40) C dL_law_110 (by decide) rfl ?_
  refine g_icmp_ge (t := 391) (q := 115) C dL_law_112 (by decide) rfl (fun c_112 => ?_) (fun c_112 => ?_)
  · skip
    have hNa := nI_ge_eq ha (by omega) c_112
    subst hNa
    have hS4 := hLS.all hs.1
    exact kk M4 ta _ _ _ _ _ hS4 hs.P h8 h9 h10
  · skip
    have hlta := nI_nge_lt ha (by omega) c_112
    refine g_iconst (q := 116) (0) C dL_law_115 (by decide) rfl ?_
    refine g_istore12 (q := 118) C dL_law_116 (by first | rfl | exact hNw_rf _) rfl ?_
    refine h_loopU (P := fun w => ∀ (M5 : hM) (F5 : Nat → Nat → Int32), tdS Γ M M5 ta (sB S) F5 i → (∀ v, v < w → F5 i v = tellI (sB S) i (nI v)) → hG Γ k9 A Q M5 (n + 41) (z + 360) 118 [some (.ref b), some (.ref x), some (.ref y), some (.int (nI tm)), some (.int xv), some (.long dg), none, some (.ref ta), some (.int c8), some (.int c9), some (.int c10), some (.int (nI i)), some (.int (nI w)), o13, o14, o15, o16, o17, o18, o19, o20, o21, o22, o23] []) (N := 8) (fun w hb ihb => ?_) 0 (Nat.zero_le _) M4 F hs (fun v hv => absurd hv (Nat.not_lt_zero _))
    intro M5 F5 hs5 hv5
    have hL5 := hLt.kp hs5.1 rfl rfl rfl rfl rfl rfl ⟨rfl, rfl⟩ rfl
    obtain ⟨_, _, _, _, _, _, _, _, _, _, _, _, _, hLq5⟩ := id hL5
    refine g_iload (q := 120) C dL_law_118 rfl rfl ?_
    refine g_bipush (q := 122) (8) C dL_law_120 (by decide) rfl ?_
    refine g_icmp_ge (t := 155) (q := 125) C dL_law_122 (by decide) rfl (fun c_122 => ?_) (fun c_122 => ?_)
    · skip
      have hNb := nI_ge_eq hb (by omega) c_122
      subst hNb
      have hT8 : ∀ w, w < 8 → F5 i w = tellI (sB S) i (nI w) := hv5
      refine g_aload (q := 157) C dL_law_155 rfl (by first | exact hRef_r _ | exact hRef_o _ | exact hRef_n) rfl ?_
      refine g_iload (q := 159) C dL_law_157 rfl rfl ?_
      refine g_aaldR (q := 160) C i rfl hlta (by decide) dL_law_159 (hs5.2.1) (congrArg va_rf (if_pos hlta)) rfl ?_
      refine g_astore12 (q := 162) C dL_law_160 (by first | exact hRef_r _ | exact hRef_o _ | exact hRef_n) (by first | rfl | exact hNw_rf _) rfl ?_
      refine g_aload (q := 164) C dL_law_162 rfl (by first | exact hRef_r _ | exact hRef_o _ | exact hRef_n) rfl ?_
      refine g_iconst (q := 165) (0) C dL_law_164 (by decide) rfl ?_
      refine g_iald (q := 166) C 0 rfl (by decide) (by decide) dL_law_165 ((hs5.2.2.1 i hlta).1) rfl ?_
      refine g_if_ge (t := 172) (q := 169) C dL_law_166 (by decide) rfl (fun c_166 => ?_) (fun c_166 => ?_)
      · skip
        have hsm := (row_n hI hlta hT8).2 (Int32.not_lt.mpr c_166)
        obtain ⟨j9, ej9⟩ := Option.isSome_iff_exists.mp hsm
        obtain ⟨-, -, u, v, w9, m9, p9, q9, g1, g2, g3, g4, g5, g6, r1, r2, r3, r4, r5, r6, r7, r8, r9, r10⟩ := rowF hI hlta ej9 hT8
        have r5b : F5 i 5 = (sB S i).2.2.2.2 := by rw [r5, r8]
        have r3b : F5 i 3 = bWet (sB S i) := by rw [r3, r8]; rfl
        refine g_iinc8 (q := 175) (1) C dL_law_172 (by decide) (by first | rfl | exact hNw_rf _) rfl ?_
        refine g_iload (q := 177) C dL_law_175 rfl rfl ?_
        refine g_aload (q := 179) C dL_law_177 rfl (by first | exact hRef_r _ | exact hRef_o _ | exact hRef_n) rfl ?_
        refine g_iconst (q := 180) (5) C dL_law_179 (by decide) rfl ?_
        refine g_iald (q := 181) C 5 rfl (by decide) (by decide) dL_law_180 ((hs5.2.2.1 i hlta).1) rfl ?_
        refine g_if_le (t := 188) (q := 184) C dL_law_181 (by decide) rfl (fun c_181 => ?_) (fun c_181 => ?_)
        · skip
          refine g_iconst (q := 189) (0) C dL_law_188 (by decide) rfl ?_
          refine g_iadd (q := 190) C dL_law_189 rfl ?_
          refine g_istore9 (q := 192) C dL_law_190 (by first | rfl | exact hNw_rf _) rfl ?_
          refine g_iload (q := 194) C dL_law_192 rfl rfl ?_
          refine g_aload (q := 196) C dL_law_194 rfl (by first | exact hRef_r _ | exact hRef_o _ | exact hRef_n) rfl ?_
          refine g_iconst (q := 197) (3) C dL_law_196 (by decide) rfl ?_
          refine g_iald (q := 198) C 3 rfl (by decide) (by decide) dL_law_197 ((hs5.2.2.1 i hlta).1) rfl ?_
          refine g_iadd (q := 199) C dL_law_198 rfl ?_
          refine g_istore10 (q := 201) C dL_law_199 (by first | rfl | exact hNw_rf _) rfl ?_
          refine g_aload (q := 203) C dL_law_201 rfl (by first | exact hRef_r _ | exact hRef_o _ | exact hRef_n) rfl ?_
          refine g_iconst (q := 204) (1) C dL_law_203 (by decide) rfl ?_
          refine g_iald (q := 205) C 1 rfl (by decide) (by decide) dL_law_204 ((hs5.2.2.1 i hlta).1) rfl ?_
          refine g_if_lt (t := 312) (q := 208) C dL_law_205 (by decide) rfl (fun c_205 => ?_) (fun c_205 => ?_)
          · skip
            first | exact absurd c_205 (by rw [r1]; exact nI_pos (by omega))
          · skip
            refine g_aload (q := 210) C dL_law_208 rfl (by first | exact hRef_r _ | exact hRef_o _ | exact hRef_n) rfl ?_
            refine g_iconst (q := 211) (1) C dL_law_210 (by decide) rfl ?_
            refine g_iald (q := 212) C 1 rfl (by decide) (by decide) dL_law_211 ((hs5.2.2.1 i hlta).1) rfl ?_
            refine g_bipush (q := 214) (100) C dL_law_212 (by decide) rfl ?_
            refine g_icmp_gt (t := 312) (q := 217) C dL_law_214 (by decide) rfl (fun c_214 => ?_) (fun c_214 => ?_)
            · skip
              first | exact absurd c_214 (by rw [r1]; exact Int32.not_lt.mpr (nI_le g1 (by decide)))
            · skip
              refine g_aload (q := 219) C dL_law_217 rfl (by first | exact hRef_r _ | exact hRef_o _ | exact hRef_n) rfl ?_
              refine g_iconst (q := 220) (2) C dL_law_219 (by decide) rfl ?_
              refine g_iald (q := 221) C 2 rfl (by decide) (by decide) dL_law_220 ((hs5.2.2.1 i hlta).1) rfl ?_
              refine g_if_lt (t := 312) (q := 224) C dL_law_221 (by decide) rfl (fun c_221 => ?_) (fun c_221 => ?_)
              · skip
                first | exact absurd c_221 (by rw [r2]; exact nI_pos (by omega))
              · skip
                refine g_aload (q := 226) C dL_law_224 rfl (by first | exact hRef_r _ | exact hRef_o _ | exact hRef_n) rfl ?_
                refine g_iconst (q := 227) (2) C dL_law_226 (by decide) rfl ?_
                refine g_iald (q := 228) C 2 rfl (by decide) (by decide) dL_law_227 ((hs5.2.2.1 i hlta).1) rfl ?_
                refine g_bipush (q := 230) (100) C dL_law_228 (by decide) rfl ?_
                refine g_icmp_gt (t := 312) (q := 233) C dL_law_230 (by decide) rfl (fun c_230 => ?_) (fun c_230 => ?_)
                · skip
                  first | exact absurd c_230 (by rw [r2]; exact Int32.not_lt.mpr (nI_le g2 (by decide)))
                · skip
                  refine g_aload (q := 235) C dL_law_233 rfl (by first | exact hRef_r _ | exact hRef_o _ | exact hRef_n) rfl ?_
                  refine g_iconst (q := 236) (3) C dL_law_235 (by decide) rfl ?_
                  refine g_iald (q := 237) C 3 rfl (by decide) (by decide) dL_law_236 ((hs5.2.2.1 i hlta).1) rfl ?_
                  refine g_aload (q := 239) C dL_law_237 rfl (by first | exact hRef_r _ | exact hRef_o _ | exact hRef_n) rfl ?_
                  refine g_iconst (q := 240) (1) C dL_law_239 (by decide) rfl ?_
                  refine g_iald (q := 241) C 1 rfl (by decide) (by decide) dL_law_240 ((hs5.2.2.1 i hlta).1) rfl ?_
                  refine g_aload (q := 243) C dL_law_241 rfl (by first | exact hRef_r _ | exact hRef_o _ | exact hRef_n) rfl ?_
                  refine g_iconst (q := 244) (2) C dL_law_243 (by decide) rfl ?_
                  refine g_iald (q := 245) C 2 rfl (by decide) (by decide) dL_law_244 ((hs5.2.2.1 i hlta).1) rfl ?_
                  refine g_iadd (q := 246) C dL_law_245 rfl ?_
                  refine g_iconst (q := 247) (2) C dL_law_246 (by decide) rfl ?_
                  refine g_idiv (q := 248) C dL_law_247 (by decide) rfl ?_
                  refine g_icmp_ne (t := 312) (q := 251) C dL_law_248 (by decide) rfl (fun c_248 => ?_) (fun c_248 => ?_)
                  · skip
                    first | exact absurd (by rw [r1, r2, r3]) c_248
                  · skip
                    refine g_aload (q := 253) C dL_law_251 rfl (by first | exact hRef_r _ | exact hRef_o _ | exact hRef_n) rfl ?_
                    refine g_iconst (q := 254) (4) C dL_law_253 (by decide) rfl ?_
                    refine g_iald (q := 255) C 4 rfl (by decide) (by decide) dL_law_254 ((hs5.2.2.1 i hlta).1) rfl ?_
                    refine g_if_lt (t := 312) (q := 258) C dL_law_255 (by decide) rfl (fun c_255 => ?_) (fun c_255 => ?_)
                    · skip
                      first | exact absurd c_255 (by rw [r4]; exact nI_pos (by omega))
                    · skip
                      refine g_aload (q := 260) C dL_law_258 rfl (by first | exact hRef_r _ | exact hRef_o _ | exact hRef_n) rfl ?_
                      refine g_iconst (q := 261) (5) C dL_law_260 (by decide) rfl ?_
                      refine g_iald (q := 262) C 5 rfl (by decide) (by decide) dL_law_261 ((hs5.2.2.1 i hlta).1) rfl ?_
                      refine g_if_lt (t := 312) (q := 265) C dL_law_262 (by decide) rfl (fun c_262 => ?_) (fun c_262 => ?_)
                      · skip
                        first | exact absurd c_262 (by rw [r5]; exact nI_pos (by omega))
                      · skip
                        refine g_aload (q := 267) C dL_law_265 rfl (by first | exact hRef_r _ | exact hRef_o _ | exact hRef_n) rfl ?_
                        refine g_iconst (q := 268) (5) C dL_law_267 (by decide) rfl ?_
                        refine g_iald (q := 269) C 5 rfl (by decide) (by decide) dL_law_268 ((hs5.2.2.1 i hlta).1) rfl ?_
                        refine g_bipush (q := 271) (9) C dL_law_269 (by decide) rfl ?_
                        refine g_icmp_gt (t := 312) (q := 274) C dL_law_271 (by decide) rfl (fun c_271 => ?_) (fun c_271 => ?_)
                        · skip
                          first | exact absurd c_271 (by rw [r5]; exact Int32.not_lt.mpr (nI_le g4 (by decide)))
                        · skip
                          refine g_aload (q := 276) C dL_law_274 rfl (by first | exact hRef_r _ | exact hRef_o _ | exact hRef_n) rfl ?_
                          refine g_bipush (q := 278) (6) C dL_law_276 (by decide) rfl ?_
                          refine g_iald (q := 279) C 6 rfl (by decide) (by decide) dL_law_278 ((hs5.2.2.1 i hlta).1) rfl ?_
                          refine g_if_lt (t := 312) (q := 282) C dL_law_279 (by decide) rfl (fun c_279 => ?_) (fun c_279 => ?_)
                          · skip
                            first | exact absurd c_279 (by rw [r6]; exact nI_pos (by omega))
                          · skip
                            refine g_aload (q := 284) C dL_law_282 rfl (by first | exact hRef_r _ | exact hRef_o _ | exact hRef_n) rfl ?_
                            refine g_bipush (q := 286) (6) C dL_law_284 (by decide) rfl ?_
                            refine g_iald (q := 287) C 6 rfl (by decide) (by decide) dL_law_286 ((hs5.2.2.1 i hlta).1) rfl ?_
                            refine g_iconst (q := 288) (2) C dL_law_287 (by decide) rfl ?_
                            refine g_icmp_gt (t := 312) (q := 291) C dL_law_288 (by decide) rfl (fun c_288 => ?_) (fun c_288 => ?_)
                            · skip
                              first | exact absurd c_288 (by rw [r6]; exact Int32.not_lt.mpr (nI_le g5 (by decide)))
                            · skip
                              refine g_aload (q := 293) C dL_law_291 rfl (by first | exact hRef_r _ | exact hRef_o _ | exact hRef_n) rfl ?_
                              refine g_bipush (q := 295) (7) C dL_law_293 (by decide) rfl ?_
                              refine g_iald (q := 296) C 7 rfl (by decide) (by decide) dL_law_295 ((hs5.2.2.1 i hlta).1) rfl ?_
                              refine g_if_lt (t := 312) (q := 299) C dL_law_296 (by decide) rfl (fun c_296 => ?_) (fun c_296 => ?_)
                              · skip
                                first | exact absurd c_296 (by rw [r7]; exact nI_pos (by omega))
                              · skip
                                refine g_aload (q := 301) C dL_law_299 rfl (by first | exact hRef_r _ | exact hRef_o _ | exact hRef_n) rfl ?_
                                refine g_bipush (q := 303) (7) C dL_law_301 (by decide) rfl ?_
                                refine g_iald (q := 304) C 7 rfl (by decide) (by decide) dL_law_303 ((hs5.2.2.1 i hlta).1) rfl ?_
                                refine g_aload (q := 306) C dL_law_304 rfl (by first | exact hRef_r _ | exact hRef_o _ | exact hRef_n) rfl ?_
                                refine g_bipush (q := 308) (6) C dL_law_306 (by decide) rfl ?_
                                refine g_iald (q := 309) C 6 rfl (by decide) (by decide) dL_law_308 ((hs5.2.2.1 i hlta).1) rfl ?_
                                refine g_icmp_le (t := 314) (q := 312) C dL_law_309 (by decide) rfl (fun c_309 => ?_) (fun c_309 => ?_)
                                · skip
                                  refine g_iload (q := 316) C dL_law_314 rfl rfl ?_
                                  refine g_bipush (q := 318) (8) C dL_law_316 (by decide) rfl ?_
                                  refine g_irem (q := 319) C dL_law_318 (by decide) rfl ?_; rw [rm8 hlta]
                                  refine g_bipush (q := 321) (7) C dL_law_319 (by decide) rfl ?_
                                  refine g_icmp_ge (t := 385) (q := 324) C dL_law_321 (by decide) rfl (fun c_321 => ?_) (fun c_321 => ?_)
                                  · skip
                                    refine g_iinc11 (q := 388) (1) C dL_law_385 (by decide) (by first | rfl | exact hNw_rf _) rfl ?_
                                    refine g_goto (t := 108) C dL_law_388 (by decide) ?_
                                    rw [nI_1]
                                    exact iha hlta M5 F5 _ _ _ _ (hs5.go hT8) (by rw [h8]; exact (cnt_y hsm).symm) (by rw [h9, Int32.add_zero]; exact (bad_0 (by rw [← r5b]; exact Int32.not_lt.mpr c_181)).symm) (by rw [h10, r3b]; exact (sum_y hsm).symm)
                                  · skip
                                    have h7 : i % 8 < 7 := (nI_ltI (by omega) (by decide)).mp (Int32.not_le.mp c_321)
                                    refine g_aload (q := 326) C dL_law_324 rfl (by first | exact hRef_r _ | exact hRef_o _ | exact hRef_n) rfl ?_
                                    refine g_bipush (q := 328) (6) C dL_law_326 (by decide) rfl ?_
                                    refine g_iald (q := 329) C 6 rfl (by decide) (by decide) dL_law_328 ((hs5.2.2.1 i hlta).1) rfl ?_
                                    refine g_iconst (q := 330) (1) C dL_law_329 (by decide) rfl ?_
                                    refine g_icmp_ne (t := 385) (q := 333) C dL_law_330 (by decide) rfl (fun c_330 => ?_) (fun c_330 => ?_)
                                    · skip
                                      refine g_iinc11 (q := 388) (1) C dL_law_385 (by decide) (by first | rfl | exact hNw_rf _) rfl ?_
                                      refine g_goto (t := 108) C dL_law_388 (by decide) ?_
                                      rw [nI_1]
                                      exact iha hlta M5 F5 _ _ _ _ (hs5.go hT8) (by rw [h8]; exact (cnt_y hsm).symm) (by rw [h9, Int32.add_zero]; exact (bad_0 (by rw [← r5b]; exact Int32.not_lt.mpr c_181)).symm) (by rw [h10, r3b]; exact (sum_y hsm).symm)
                                    · skip
                                      refine g_aload_n (q := 334) C dL_law_333 rfl (by first | exact hRef_r _ | exact hRef_o _ | exact hRef_n) rfl ?_
                                      refine g_iload (q := 336) C dL_law_334 rfl rfl ?_
                                      refine g_bipush (q := 338) (8) C dL_law_336 (by decide) rfl ?_
                                      refine g_idiv (q := 339) C dL_law_338 (by decide) rfl ?_; rw [dv8 hlta]
                                      refine g_iload (q := 341) C dL_law_339 rfl rfl ?_
                                      refine g_bipush (q := 343) (8) C dL_law_341 (by decide) rfl ?_
                                      refine g_irem (q := 344) C dL_law_343 (by decide) rfl ?_; rw [rm8 hlta]
                                      refine g_iconst (q := 345) (1) C dL_law_344 (by decide) rfl ?_
                                      refine g_iadd (q := 346) C dL_law_345 rfl ?_
                                      refine g_bipush (q := 348) (6) C dL_law_346 (by decide) rfl ?_
                                      refine g_callV3P (q := 351) C hy_X4_told (c_X4_told_n Γ l (nI (i / 8)) (nI (i % 8) + 1) 6 hL5 hI.inv (by rw [sTold_n6 hlta h7])) qw_371 (by exact hLq5.1) rfl ⟨Nat.le_of_ble_eq_true rfl, Nat.le_of_ble_eq_true rfl⟩ (Nat.le_of_ble_eq_true rfl) rfl dL_law_348 ⟨rfl, rfl⟩ ⟨by show _ ≤ 893913; omega, by show _ ≤ 6419885; omega⟩ rfl ?_
                                      refine g_iconst (q := 352) (1) C dL_law_351 (by decide) rfl ?_
                                      refine g_icmp_ne (t := 385) (q := 355) C dL_law_352 (by decide) rfl (fun c_352 => ?_) (fun c_352 => ?_)
                                      · skip
                                        refine g_iinc11 (q := 388) (1) C dL_law_385 (by decide) (by first | rfl | exact hNw_rf _) rfl ?_
                                        refine g_goto (t := 108) C dL_law_388 (by decide) ?_
                                        rw [nI_1]
                                        exact iha hlta M5 F5 _ _ _ _ (hs5.go hT8) (by rw [h8]; exact (cnt_y hsm).symm) (by rw [h9, Int32.add_zero]; exact (bad_0 (by rw [← r5b]; exact Int32.not_lt.mpr c_181)).symm) (by rw [h10, r3b]; exact (sum_y hsm).symm)
                                      · skip
                                        refine g_aload (q := 357) C dL_law_355 rfl (by first | exact hRef_r _ | exact hRef_o _ | exact hRef_n) rfl ?_
                                        refine g_bipush (q := 359) (7) C dL_law_357 (by decide) rfl ?_
                                        refine g_iald (q := 360) C 7 rfl (by decide) (by decide) dL_law_359 ((hs5.2.2.1 i hlta).1) rfl ?_
                                        refine g_aload_n (q := 361) C dL_law_360 rfl (by first | exact hRef_r _ | exact hRef_o _ | exact hRef_n) rfl ?_
                                        refine g_iload (q := 363) C dL_law_361 rfl rfl ?_
                                        refine g_bipush (q := 365) (8) C dL_law_363 (by decide) rfl ?_
                                        refine g_idiv (q := 366) C dL_law_365 (by decide) rfl ?_; rw [dv8 hlta]
                                        refine g_iload (q := 368) C dL_law_366 rfl rfl ?_
                                        refine g_bipush (q := 370) (8) C dL_law_368 (by decide) rfl ?_
                                        refine g_irem (q := 371) C dL_law_370 (by decide) rfl ?_; rw [rm8 hlta]
                                        refine g_iconst (q := 372) (1) C dL_law_371 (by decide) rfl ?_
                                        refine g_iadd (q := 373) C dL_law_372 rfl ?_
                                        refine g_bipush (q := 375) (7) C dL_law_373 (by decide) rfl ?_
                                        refine g_callV3P (q := 378) C hy_X4_told (c_X4_told_n Γ l (nI (i / 8)) (nI (i % 8) + 1) 7 hL5 hI.inv (by rw [sTold_n7 hlta h7])) qw_371 (by exact hLq5.1) rfl ⟨Nat.le_of_ble_eq_true rfl, Nat.le_of_ble_eq_true rfl⟩ (Nat.le_of_ble_eq_true rfl) rfl dL_law_375 ⟨rfl, rfl⟩ ⟨by show _ ≤ 893913; omega, by show _ ≤ 6419885; omega⟩ rfl ?_
                                        refine g_iadd (q := 379) C dL_law_378 rfl ?_
                                        refine g_iconst (q := 380) (1) C dL_law_379 (by decide) rfl ?_
                                        refine g_icmp_le (t := 385) (q := 383) C dL_law_380 (by decide) rfl (fun c_380 => ?_) (fun c_380 => ?_)
                                        · skip
                                          refine g_iinc11 (q := 388) (1) C dL_law_385 (by decide) (by first | rfl | exact hNw_rf _) rfl ?_
                                          refine g_goto (t := 108) C dL_law_388 (by decide) ?_
                                          rw [nI_1]
                                          exact iha hlta M5 F5 _ _ _ _ (hs5.go hT8) (by rw [h8]; exact (cnt_y hsm).symm) (by rw [h9, Int32.add_zero]; exact (bad_0 (by rw [← r5b]; exact Int32.not_lt.mpr c_181)).symm) (by rw [h10, r3b]; exact (sum_y hsm).symm)
                                        · skip
                                          first | exact absurd (Int32.not_lt.mp (sideG hI hlta h7 hsm hT8 c_330 (by rw [sTold_n6 hlta h7]) c_352 (by rw [sTold_n7 hlta h7]))) c_380
                                · skip
                                  first | exact absurd (by rw [r6, r7]; exact nI_le g6 (by omega)) c_309
        · skip
          refine g_iconst (q := 185) (1) C dL_law_184 (by decide) rfl ?_
          refine g_goto (t := 189) C dL_law_185 (by decide) ?_
          refine g_iadd (q := 190) C dL_law_189 rfl ?_
          refine g_istore9 (q := 192) C dL_law_190 (by first | rfl | exact hNw_rf _) rfl ?_
          refine g_iload (q := 194) C dL_law_192 rfl rfl ?_
          refine g_aload (q := 196) C dL_law_194 rfl (by first | exact hRef_r _ | exact hRef_o _ | exact hRef_n) rfl ?_
          refine g_iconst (q := 197) (3) C dL_law_196 (by decide) rfl ?_
          refine g_iald (q := 198) C 3 rfl (by decide) (by decide) dL_law_197 ((hs5.2.2.1 i hlta).1) rfl ?_
          refine g_iadd (q := 199) C dL_law_198 rfl ?_
          refine g_istore10 (q := 201) C dL_law_199 (by first | rfl | exact hNw_rf _) rfl ?_
          refine g_aload (q := 203) C dL_law_201 rfl (by first | exact hRef_r _ | exact hRef_o _ | exact hRef_n) rfl ?_
          refine g_iconst (q := 204) (1) C dL_law_203 (by decide) rfl ?_
          refine g_iald (q := 205) C 1 rfl (by decide) (by decide) dL_law_204 ((hs5.2.2.1 i hlta).1) rfl ?_
          refine g_if_lt (t := 312) (q := 208) C dL_law_205 (by decide) rfl (fun c_205 => ?_) (fun c_205 => ?_)
          · skip
            first | exact absurd c_205 (by rw [r1]; exact nI_pos (by omega))
          · skip
            refine g_aload (q := 210) C dL_law_208 rfl (by first | exact hRef_r _ | exact hRef_o _ | exact hRef_n) rfl ?_
            refine g_iconst (q := 211) (1) C dL_law_210 (by decide) rfl ?_
            refine g_iald (q := 212) C 1 rfl (by decide) (by decide) dL_law_211 ((hs5.2.2.1 i hlta).1) rfl ?_
            refine g_bipush (q := 214) (100) C dL_law_212 (by decide) rfl ?_
            refine g_icmp_gt (t := 312) (q := 217) C dL_law_214 (by decide) rfl (fun c_214 => ?_) (fun c_214 => ?_)
            · skip
              first | exact absurd c_214 (by rw [r1]; exact Int32.not_lt.mpr (nI_le g1 (by decide)))
            · skip
              refine g_aload (q := 219) C dL_law_217 rfl (by first | exact hRef_r _ | exact hRef_o _ | exact hRef_n) rfl ?_
              refine g_iconst (q := 220) (2) C dL_law_219 (by decide) rfl ?_
              refine g_iald (q := 221) C 2 rfl (by decide) (by decide) dL_law_220 ((hs5.2.2.1 i hlta).1) rfl ?_
              refine g_if_lt (t := 312) (q := 224) C dL_law_221 (by decide) rfl (fun c_221 => ?_) (fun c_221 => ?_)
              · skip
                first | exact absurd c_221 (by rw [r2]; exact nI_pos (by omega))
              · skip
                refine g_aload (q := 226) C dL_law_224 rfl (by first | exact hRef_r _ | exact hRef_o _ | exact hRef_n) rfl ?_
                refine g_iconst (q := 227) (2) C dL_law_226 (by decide) rfl ?_
                refine g_iald (q := 228) C 2 rfl (by decide) (by decide) dL_law_227 ((hs5.2.2.1 i hlta).1) rfl ?_
                refine g_bipush (q := 230) (100) C dL_law_228 (by decide) rfl ?_
                refine g_icmp_gt (t := 312) (q := 233) C dL_law_230 (by decide) rfl (fun c_230 => ?_) (fun c_230 => ?_)
                · skip
                  first | exact absurd c_230 (by rw [r2]; exact Int32.not_lt.mpr (nI_le g2 (by decide)))
                · skip
                  refine g_aload (q := 235) C dL_law_233 rfl (by first | exact hRef_r _ | exact hRef_o _ | exact hRef_n) rfl ?_
                  refine g_iconst (q := 236) (3) C dL_law_235 (by decide) rfl ?_
                  refine g_iald (q := 237) C 3 rfl (by decide) (by decide) dL_law_236 ((hs5.2.2.1 i hlta).1) rfl ?_
                  refine g_aload (q := 239) C dL_law_237 rfl (by first | exact hRef_r _ | exact hRef_o _ | exact hRef_n) rfl ?_
                  refine g_iconst (q := 240) (1) C dL_law_239 (by decide) rfl ?_
                  refine g_iald (q := 241) C 1 rfl (by decide) (by decide) dL_law_240 ((hs5.2.2.1 i hlta).1) rfl ?_
                  refine g_aload (q := 243) C dL_law_241 rfl (by first | exact hRef_r _ | exact hRef_o _ | exact hRef_n) rfl ?_
                  refine g_iconst (q := 244) (2) C dL_law_243 (by decide) rfl ?_
                  refine g_iald (q := 245) C 2 rfl (by decide) (by decide) dL_law_244 ((hs5.2.2.1 i hlta).1) rfl ?_
                  refine g_iadd (q := 246) C dL_law_245 rfl ?_
                  refine g_iconst (q := 247) (2) C dL_law_246 (by decide) rfl ?_
                  refine g_idiv (q := 248) C dL_law_247 (by decide) rfl ?_
                  refine g_icmp_ne (t := 312) (q := 251) C dL_law_248 (by decide) rfl (fun c_248 => ?_) (fun c_248 => ?_)
                  · skip
                    first | exact absurd (by rw [r1, r2, r3]) c_248
                  · skip
                    refine g_aload (q := 253) C dL_law_251 rfl (by first | exact hRef_r _ | exact hRef_o _ | exact hRef_n) rfl ?_
                    refine g_iconst (q := 254) (4) C dL_law_253 (by decide) rfl ?_
                    refine g_iald (q := 255) C 4 rfl (by decide) (by decide) dL_law_254 ((hs5.2.2.1 i hlta).1) rfl ?_
                    refine g_if_lt (t := 312) (q := 258) C dL_law_255 (by decide) rfl (fun c_255 => ?_) (fun c_255 => ?_)
                    · skip
                      first | exact absurd c_255 (by rw [r4]; exact nI_pos (by omega))
                    · skip
                      refine g_aload (q := 260) C dL_law_258 rfl (by first | exact hRef_r _ | exact hRef_o _ | exact hRef_n) rfl ?_
                      refine g_iconst (q := 261) (5) C dL_law_260 (by decide) rfl ?_
                      refine g_iald (q := 262) C 5 rfl (by decide) (by decide) dL_law_261 ((hs5.2.2.1 i hlta).1) rfl ?_
                      refine g_if_lt (t := 312) (q := 265) C dL_law_262 (by decide) rfl (fun c_262 => ?_) (fun c_262 => ?_)
                      · skip
                        first | exact absurd c_262 (by rw [r5]; exact nI_pos (by omega))
                      · skip
                        refine g_aload (q := 267) C dL_law_265 rfl (by first | exact hRef_r _ | exact hRef_o _ | exact hRef_n) rfl ?_
                        refine g_iconst (q := 268) (5) C dL_law_267 (by decide) rfl ?_
                        refine g_iald (q := 269) C 5 rfl (by decide) (by decide) dL_law_268 ((hs5.2.2.1 i hlta).1) rfl ?_
                        refine g_bipush (q := 271) (9) C dL_law_269 (by decide) rfl ?_
                        refine g_icmp_gt (t := 312) (q := 274) C dL_law_271 (by decide) rfl (fun c_271 => ?_) (fun c_271 => ?_)
                        · skip
                          first | exact absurd c_271 (by rw [r5]; exact Int32.not_lt.mpr (nI_le g4 (by decide)))
                        · skip
                          refine g_aload (q := 276) C dL_law_274 rfl (by first | exact hRef_r _ | exact hRef_o _ | exact hRef_n) rfl ?_
                          refine g_bipush (q := 278) (6) C dL_law_276 (by decide) rfl ?_
                          refine g_iald (q := 279) C 6 rfl (by decide) (by decide) dL_law_278 ((hs5.2.2.1 i hlta).1) rfl ?_
                          refine g_if_lt (t := 312) (q := 282) C dL_law_279 (by decide) rfl (fun c_279 => ?_) (fun c_279 => ?_)
                          · skip
                            first | exact absurd c_279 (by rw [r6]; exact nI_pos (by omega))
                          · skip
                            refine g_aload (q := 284) C dL_law_282 rfl (by first | exact hRef_r _ | exact hRef_o _ | exact hRef_n) rfl ?_
                            refine g_bipush (q := 286) (6) C dL_law_284 (by decide) rfl ?_
                            refine g_iald (q := 287) C 6 rfl (by decide) (by decide) dL_law_286 ((hs5.2.2.1 i hlta).1) rfl ?_
                            refine g_iconst (q := 288) (2) C dL_law_287 (by decide) rfl ?_
                            refine g_icmp_gt (t := 312) (q := 291) C dL_law_288 (by decide) rfl (fun c_288 => ?_) (fun c_288 => ?_)
                            · skip
                              first | exact absurd c_288 (by rw [r6]; exact Int32.not_lt.mpr (nI_le g5 (by decide)))
                            · skip
                              refine g_aload (q := 293) C dL_law_291 rfl (by first | exact hRef_r _ | exact hRef_o _ | exact hRef_n) rfl ?_
                              refine g_bipush (q := 295) (7) C dL_law_293 (by decide) rfl ?_
                              refine g_iald (q := 296) C 7 rfl (by decide) (by decide) dL_law_295 ((hs5.2.2.1 i hlta).1) rfl ?_
                              refine g_if_lt (t := 312) (q := 299) C dL_law_296 (by decide) rfl (fun c_296 => ?_) (fun c_296 => ?_)
                              · skip
                                first | exact absurd c_296 (by rw [r7]; exact nI_pos (by omega))
                              · skip
                                refine g_aload (q := 301) C dL_law_299 rfl (by first | exact hRef_r _ | exact hRef_o _ | exact hRef_n) rfl ?_
                                refine g_bipush (q := 303) (7) C dL_law_301 (by decide) rfl ?_
                                refine g_iald (q := 304) C 7 rfl (by decide) (by decide) dL_law_303 ((hs5.2.2.1 i hlta).1) rfl ?_
                                refine g_aload (q := 306) C dL_law_304 rfl (by first | exact hRef_r _ | exact hRef_o _ | exact hRef_n) rfl ?_
                                refine g_bipush (q := 308) (6) C dL_law_306 (by decide) rfl ?_
                                refine g_iald (q := 309) C 6 rfl (by decide) (by decide) dL_law_308 ((hs5.2.2.1 i hlta).1) rfl ?_
                                refine g_icmp_le (t := 314) (q := 312) C dL_law_309 (by decide) rfl (fun c_309 => ?_) (fun c_309 => ?_)
                                · skip
                                  refine g_iload (q := 316) C dL_law_314 rfl rfl ?_
                                  refine g_bipush (q := 318) (8) C dL_law_316 (by decide) rfl ?_
                                  refine g_irem (q := 319) C dL_law_318 (by decide) rfl ?_; rw [rm8 hlta]
                                  refine g_bipush (q := 321) (7) C dL_law_319 (by decide) rfl ?_
                                  refine g_icmp_ge (t := 385) (q := 324) C dL_law_321 (by decide) rfl (fun c_321 => ?_) (fun c_321 => ?_)
                                  · skip
                                    refine g_iinc11 (q := 388) (1) C dL_law_385 (by decide) (by first | rfl | exact hNw_rf _) rfl ?_
                                    refine g_goto (t := 108) C dL_law_388 (by decide) ?_
                                    rw [nI_1]
                                    exact iha hlta M5 F5 _ _ _ _ (hs5.go hT8) (by rw [h8]; exact (cnt_y hsm).symm) (by rw [h9]; exact (bad_y hsm (by rw [← r5b]; exact Int32.not_le.mp c_181)).symm) (by rw [h10, r3b]; exact (sum_y hsm).symm)
                                  · skip
                                    have h7 : i % 8 < 7 := (nI_ltI (by omega) (by decide)).mp (Int32.not_le.mp c_321)
                                    refine g_aload (q := 326) C dL_law_324 rfl (by first | exact hRef_r _ | exact hRef_o _ | exact hRef_n) rfl ?_
                                    refine g_bipush (q := 328) (6) C dL_law_326 (by decide) rfl ?_
                                    refine g_iald (q := 329) C 6 rfl (by decide) (by decide) dL_law_328 ((hs5.2.2.1 i hlta).1) rfl ?_
                                    refine g_iconst (q := 330) (1) C dL_law_329 (by decide) rfl ?_
                                    refine g_icmp_ne (t := 385) (q := 333) C dL_law_330 (by decide) rfl (fun c_330 => ?_) (fun c_330 => ?_)
                                    · skip
                                      refine g_iinc11 (q := 388) (1) C dL_law_385 (by decide) (by first | rfl | exact hNw_rf _) rfl ?_
                                      refine g_goto (t := 108) C dL_law_388 (by decide) ?_
                                      rw [nI_1]
                                      exact iha hlta M5 F5 _ _ _ _ (hs5.go hT8) (by rw [h8]; exact (cnt_y hsm).symm) (by rw [h9]; exact (bad_y hsm (by rw [← r5b]; exact Int32.not_le.mp c_181)).symm) (by rw [h10, r3b]; exact (sum_y hsm).symm)
                                    · skip
                                      refine g_aload_n (q := 334) C dL_law_333 rfl (by first | exact hRef_r _ | exact hRef_o _ | exact hRef_n) rfl ?_
                                      refine g_iload (q := 336) C dL_law_334 rfl rfl ?_
                                      refine g_bipush (q := 338) (8) C dL_law_336 (by decide) rfl ?_
                                      refine g_idiv (q := 339) C dL_law_338 (by decide) rfl ?_; rw [dv8 hlta]
                                      refine g_iload (q := 341) C dL_law_339 rfl rfl ?_
                                      refine g_bipush (q := 343) (8) C dL_law_341 (by decide) rfl ?_
                                      refine g_irem (q := 344) C dL_law_343 (by decide) rfl ?_; rw [rm8 hlta]
                                      refine g_iconst (q := 345) (1) C dL_law_344 (by decide) rfl ?_
                                      refine g_iadd (q := 346) C dL_law_345 rfl ?_
                                      refine g_bipush (q := 348) (6) C dL_law_346 (by decide) rfl ?_
                                      refine g_callV3P (q := 351) C hy_X4_told (c_X4_told_n Γ l (nI (i / 8)) (nI (i % 8) + 1) 6 hL5 hI.inv (by rw [sTold_n6 hlta h7])) qw_371 (by exact hLq5.1) rfl ⟨Nat.le_of_ble_eq_true rfl, Nat.le_of_ble_eq_true rfl⟩ (Nat.le_of_ble_eq_true rfl) rfl dL_law_348 ⟨rfl, rfl⟩ ⟨by show _ ≤ 893913; omega, by show _ ≤ 6419885; omega⟩ rfl ?_
                                      refine g_iconst (q := 352) (1) C dL_law_351 (by decide) rfl ?_
                                      refine g_icmp_ne (t := 385) (q := 355) C dL_law_352 (by decide) rfl (fun c_352 => ?_) (fun c_352 => ?_)
                                      · skip
                                        refine g_iinc11 (q := 388) (1) C dL_law_385 (by decide) (by first | rfl | exact hNw_rf _) rfl ?_
                                        refine g_goto (t := 108) C dL_law_388 (by decide) ?_
                                        rw [nI_1]
                                        exact iha hlta M5 F5 _ _ _ _ (hs5.go hT8) (by rw [h8]; exact (cnt_y hsm).symm) (by rw [h9]; exact (bad_y hsm (by rw [← r5b]; exact Int32.not_le.mp c_181)).symm) (by rw [h10, r3b]; exact (sum_y hsm).symm)
                                      · skip
                                        refine g_aload (q := 357) C dL_law_355 rfl (by first | exact hRef_r _ | exact hRef_o _ | exact hRef_n) rfl ?_
                                        refine g_bipush (q := 359) (7) C dL_law_357 (by decide) rfl ?_
                                        refine g_iald (q := 360) C 7 rfl (by decide) (by decide) dL_law_359 ((hs5.2.2.1 i hlta).1) rfl ?_
                                        refine g_aload_n (q := 361) C dL_law_360 rfl (by first | exact hRef_r _ | exact hRef_o _ | exact hRef_n) rfl ?_
                                        refine g_iload (q := 363) C dL_law_361 rfl rfl ?_
                                        refine g_bipush (q := 365) (8) C dL_law_363 (by decide) rfl ?_
                                        refine g_idiv (q := 366) C dL_law_365 (by decide) rfl ?_; rw [dv8 hlta]
                                        refine g_iload (q := 368) C dL_law_366 rfl rfl ?_
                                        refine g_bipush (q := 370) (8) C dL_law_368 (by decide) rfl ?_
                                        refine g_irem (q := 371) C dL_law_370 (by decide) rfl ?_; rw [rm8 hlta]
                                        refine g_iconst (q := 372) (1) C dL_law_371 (by decide) rfl ?_
                                        refine g_iadd (q := 373) C dL_law_372 rfl ?_
                                        refine g_bipush (q := 375) (7) C dL_law_373 (by decide) rfl ?_
                                        refine g_callV3P (q := 378) C hy_X4_told (c_X4_told_n Γ l (nI (i / 8)) (nI (i % 8) + 1) 7 hL5 hI.inv (by rw [sTold_n7 hlta h7])) qw_371 (by exact hLq5.1) rfl ⟨Nat.le_of_ble_eq_true rfl, Nat.le_of_ble_eq_true rfl⟩ (Nat.le_of_ble_eq_true rfl) rfl dL_law_375 ⟨rfl, rfl⟩ ⟨by show _ ≤ 893913; omega, by show _ ≤ 6419885; omega⟩ rfl ?_
                                        refine g_iadd (q := 379) C dL_law_378 rfl ?_
                                        refine g_iconst (q := 380) (1) C dL_law_379 (by decide) rfl ?_
                                        refine g_icmp_le (t := 385) (q := 383) C dL_law_380 (by decide) rfl (fun c_380 => ?_) (fun c_380 => ?_)
                                        · skip
                                          refine g_iinc11 (q := 388) (1) C dL_law_385 (by decide) (by first | rfl | exact hNw_rf _) rfl ?_
                                          refine g_goto (t := 108) C dL_law_388 (by decide) ?_
                                          rw [nI_1]
                                          exact iha hlta M5 F5 _ _ _ _ (hs5.go hT8) (by rw [h8]; exact (cnt_y hsm).symm) (by rw [h9]; exact (bad_y hsm (by rw [← r5b]; exact Int32.not_le.mp c_181)).symm) (by rw [h10, r3b]; exact (sum_y hsm).symm)
                                        · skip
                                          first | exact absurd (Int32.not_lt.mp (sideG hI hlta h7 hsm hT8 c_330 (by rw [sTold_n6 hlta h7]) c_352 (by rw [sTold_n7 hlta h7]))) c_380
                                · skip
                                  first | exact absurd (by rw [r6, r7]; exact nI_le g6 (by omega)) c_309
      · skip
        refine g_goto (t := 385) C dL_law_169 (by decide) ?_
        refine g_iinc11 (q := 388) (1) C dL_law_385 (by decide) (by first | rfl | exact hNw_rf _) rfl ?_
        refine g_goto (t := 108) C dL_law_388 (by decide) ?_
        rw [nI_1]
        have hno := (row_n hI hlta hT8).1 (Int32.not_le.mp c_166)
        exact iha hlta M5 F5 _ _ _ _ (hs5.go hT8) (h8.trans (cnt_n (by rw [hno]; rfl)).symm) (h9.trans (bad_n (by rw [hno]; rfl)).symm) (h10.trans (sum_n (by rw [hno]; rfl)).symm)
    · skip
      have hltb := nI_nge_lt hb (by omega) c_122
      refine g_aload (q := 127) C dL_law_125 rfl (by first | exact hRef_r _ | exact hRef_o _ | exact hRef_n) rfl ?_
      refine g_iload (q := 129) C dL_law_127 rfl rfl ?_
      refine g_aaldR (q := 130) C i rfl hlta (by decide) dL_law_129 (hs5.2.1) (congrArg va_rf (if_pos hlta)) rfl ?_
      refine g_iload (q := 132) C dL_law_130 rfl rfl ?_
      refine g_aload_n (q := 133) C dL_law_132 rfl (by first | exact hRef_r _ | exact hRef_o _ | exact hRef_n) rfl ?_
      refine g_iload (q := 135) C dL_law_133 rfl rfl ?_
      refine g_bipush (q := 137) (8) C dL_law_135 (by decide) rfl ?_
      refine g_idiv (q := 138) C dL_law_137 (by decide) rfl ?_; rw [dv8 hlta]
      refine g_iload (q := 140) C dL_law_138 rfl rfl ?_
      refine g_bipush (q := 142) (8) C dL_law_140 (by decide) rfl ?_
      refine g_irem (q := 143) C dL_law_142 (by decide) rfl ?_; rw [rm8 hlta]
      refine g_iload (q := 145) C dL_law_143 rfl rfl ?_
      refine g_callV3P (q := 148) C hy_X4_told (c_X4_told_n Γ l (nI (i / 8)) (nI (i % 8)) (nI w) hL5 hI.inv (by rw [sTold_i hlta hltb])) qw_371 (by exact hLq5.1) rfl ⟨Nat.le_of_ble_eq_true rfl, Nat.le_of_ble_eq_true rfl⟩ (Nat.le_of_ble_eq_true rfl) rfl dL_law_145 ⟨rfl, rfl⟩ ⟨by show _ ≤ 893913; omega, by show _ ≤ 6419885; omega⟩ rfl ?_
      refine g_iast (q := 149) C w rfl hltb (by decide) dL_law_148 ((hs5.2.2.1 i hlta).1) rfl ?_
      refine g_iinc12 (q := 152) (1) C dL_law_149 (by decide) (by first | rfl | exact hNw_rf _) rfl ?_
      refine g_goto (t := 118) C dL_law_152 (by decide) ?_
      rw [nI_1]
      refine ihb hltb _ _ (hs5.put hlta (upd (F5 i) w (sTold S (nI (i / 8)) (nI (i % 8)) (nI w)).2)) (fun v hv => ?_)
      rw [fUp_s]
      by_cases q : v = w
      · subst q; rw [pk_us, sTold_i hlta hltb]
      · rw [pk_un q]; exact hv5 v (by omega)
