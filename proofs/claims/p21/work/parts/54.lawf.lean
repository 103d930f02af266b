theorem sAs_n {S : hS} {o : Nat} (hn : sO S ≤ 6) (hh : o < sO S) : (sAsked S (nI o) 0).2 = asI S o 0 ∧ (sAsked S (nI o) 1).2 = asI S o 1 ∧ (sAsked S (nI o) 3).2 = asI S o 3 ∧ (sAsked S (nI o) 4).2 = asI S o 4 ∧ (sAsked S (nI o) 0).1 = 0 ∧ (sAsked S (nI o) 1).1 = 0 ∧ (sAsked S (nI o) 3).1 = 0 ∧ (sAsked S (nI o) 4).1 = 0 := by
  have h0 : sAsked S (nI o) 0 = (0, asI S o 0) := sAsked_ok (w := 0) hn hh (by decide)
  have h1 : sAsked S (nI o) 1 = (0, asI S o 1) := sAsked_ok (w := 1) hn hh (by decide)
  have h3 : sAsked S (nI o) 3 = (0, asI S o 3) := sAsked_ok (w := 3) hn hh (by decide)
  have h4 : sAsked S (nI o) 4 = (0, asI S o 4) := sAsked_ok (w := 4) hn hh (by decide)
  rw [h0, h1, h3, h4]
  exact ⟨rfl, rfl, rfl, rfl, rfl, rfl, rfl, rfl⟩
theorem ordLe {S : hS} {D o : Nat} (hI : sI2 S D) (ho : o < sO S) : ¬ asI S o 1 < asI S o 3 := by
  obtain ⟨-, m, d, g, h1, h2, h3, h4, h5, h6, h7⟩ := hI.2.2.2.2 o ho
  rw [asI_1, asI_3, h5, h7]
  exact Int32.not_lt.mpr (nI_le h4 (by omega))
theorem fitLe2 {S : hS} {o : Nat} : asI S o 4 ≤ abI S (sW S o) 2 - abI S (sW S o) 3 := by
  obtain ⟨f, c, b, h1, h2, h3, h4, h5⟩ := fitLe (S := S) (o := o)
  rw [asI_4, h1, h2, h3, pk_sub (by omega)]
  exact nI_le (by omega) (by omega)
set_option maxRecDepth 100000 in
set_option maxHeartbeats 8000000 in
theorem law_1168 {Γ : hGam} {l : Launch} {k9 : hCtx} {nm : String} {A : Nat → Prop} {Q : State → Prop} (C : hC Γ l k9 RL nm cL_law 24 (some .boolean) room_1 A) (hl : l.stackTraces = false) {x y D : Nat} {S : hS} {M : hM} {n z tm b ta : Nat} {xv c8 c9 c10 c17 : Int32} {dg : Int64} (hn : n ≤ 893913) (hz : z ≤ 6419885) (hLS : lawS Γ M x y S D) (o11 o12 o13 o14 o15 o16 o18 o19 o20 o21 o22 o23 : Option Value) (kk : ∀ (dg : Int64) (c18 c19 c20 : Int32), dg = sDig S → c18 = lackS S (sO S) → c19 = fitS S (sO S) → hG Γ k9 A Q M (n) (z) 1285 [some (.ref b), some (.ref x), some (.ref y), some (.int (nI tm)), some (.int xv), some (.long dg), none, some (.ref ta), some (.int c8), some (.int c9), some (.int c10), o11, o12, o13, o14, o15, o16, some (.int c17), some (.int c18), some (.int c19), some (.int c20), o21, o22, o23] []) : hG Γ k9 A Q M (n) (z) 1168 [some (.ref b), some (.ref x), some (.ref y), some (.int (nI tm)), some (.int xv), some (.long dg), none, some (.ref ta), some (.int c8), some (.int c9), some (.int c10), o11, o12, o13, o14, o15, o16, some (.int c17), o18, o19, o20, o21, o22, o23] [] := by
  obtain ⟨hL, hS, hI, h0⟩ := id hLS
  have hn6 := hI.1.1
  have ho6 := hI.1.2
  obtain ⟨_, _, _, _, _, _, _, _, _, _, _, _, _, hLq⟩ := id hL
  refine g_aload_n (q := 1169) C dL_law_1168 rfl (by first | exact hRef_r _ | exact hRef_o _ | exact hRef_n) rfl ?_
  refine g_callV0L (q := 1172) C hy_X4_digest (c_X4_digest Γ l hL hI.inv) qw_451 (by exact hLq.1) rfl ⟨Nat.le_of_ble_eq_true rfl, Nat.le_of_ble_eq_true rfl⟩ (Nat.le_of_ble_eq_true rfl) rfl dL_law_1169 ⟨rfl, rfl⟩ ⟨by show _ ≤ 893913; omega, by show _ ≤ 6419885; omega⟩ rfl (fun x_1169 M_1169 p_1169 => ?_)
  obtain ⟨v1, q9⟩ := p_1169
  rw [q9]
  refine g_lstore5 (q := 1174) C dL_law_1172 (by first | rfl | exact hNw_rf _) rfl ?_
  refine g_iconst (q := 1175) (0) C dL_law_1174 (by decide) rfl ?_
  refine g_istore18 (q := 1177) C dL_law_1175 (by first | rfl | exact hNw_rf _) rfl ?_
  refine g_iconst (q := 1178) (0) C dL_law_1177 (by decide) rfl ?_
  refine g_istore19 (q := 1180) C dL_law_1178 (by first | rfl | exact hNw_rf _) rfl ?_
  refine g_iconst (q := 1181) (0) C dL_law_1180 (by decide) rfl ?_
  refine g_istore20 (q := 1183) C dL_law_1181 (by first | rfl | exact hNw_rf _) rfl ?_
  refine h_loopU (P := fun o => ∀ c18 c19 : Int32, c18 = lackS S o → c19 = fitS S o → hG Γ k9 A Q M (n) (z) 1183 [some (.ref b), some (.ref x), some (.ref y), some (.int (nI tm)), some (.int xv), some (.long x_1169), none, some (.ref ta), some (.int c8), some (.int c9), some (.int c10), o11, o12, o13, o14, o15, o16, some (.int c17), some (.int c18), some (.int c19), some (.int (nI o)), o21, o22, o23] []) (N := sO S) (fun o ho ih => ?_) 0 (Nat.zero_le _) _ _ rfl rfl
  intro c18 c19 h18 h19
  refine g_iload (q := 1185) C dL_law_1183 rfl rfl ?_
  refine g_aload_n (q := 1186) C dL_law_1185 rfl (by first | exact hRef_r _ | exact hRef_o _ | exact hRef_n) rfl ?_
  refine g_iconst (q := 1187) (4) C dL_law_1186 (by decide) rfl ?_
  refine g_callV1P (q := 1190) C hy_X4_count (c_X4_count_n Γ l 4 hL hI.inv (by rw [sCnt_4])) qw_415 (by exact hLq.1) rfl ⟨Nat.le_of_ble_eq_true rfl, Nat.le_of_ble_eq_true rfl⟩ (Nat.le_of_ble_eq_true rfl) rfl dL_law_1187 ⟨rfl, rfl⟩ ⟨by show _ ≤ 893913; omega, by show _ ≤ 6419885; omega⟩ rfl ?_
  refine g_icmp_ge (t := 1285) (q := 1193) C dL_law_1190 (by decide) rfl (fun c_1190 => ?_) (fun c_1190 => ?_)
  · skip
    rw [sCnt_4, cnI_4] at c_1190
    have hNo := nI_ge_eq ho (by omega) c_1190
    subst hNo
    exact kk _ _ _ _ v1 h18 h19
  · skip
    rw [sCnt_4, cnI_4] at c_1190
    have hlto := nI_nge_lt ho (by omega) c_1190
    obtain ⟨b0, b1, b3, b4, d0, d1, d3, d4⟩ := sAs_n ho6 hlto
    have b0n : (sAsked S (nI o) 0).2 = nI (sW S o) := b0.trans asI_0
    have hW := (hI.2.2.2.2 o hlto).1
    obtain ⟨-, a2, a3, -⟩ := sAb_n hn6 hW
    refine g_iload (q := 1195) C dL_law_1193 rfl rfl ?_
    refine g_aload_n (q := 1196) C dL_law_1195 rfl (by first | exact hRef_r _ | exact hRef_o _ | exact hRef_n) rfl ?_
    refine g_iload (q := 1198) C dL_law_1196 rfl rfl ?_
    refine g_iconst (q := 1199) (1) C dL_law_1198 (by decide) rfl ?_
    refine g_callV2P (q := 1202) C hy_X4_asked (c_X4_asked_n Γ l (nI o) 1 hL hI.inv d1) qw_406 (by exact hLq.1) rfl ⟨Nat.le_of_ble_eq_true rfl, Nat.le_of_ble_eq_true rfl⟩ (Nat.le_of_ble_eq_true rfl) rfl dL_law_1199 ⟨rfl, rfl⟩ ⟨by show _ ≤ 893913; omega, by show _ ≤ 6419885; omega⟩ rfl ?_
    refine g_aload_n (q := 1203) C dL_law_1202 rfl (by first | exact hRef_r _ | exact hRef_o _ | exact hRef_n) rfl ?_
    refine g_iload (q := 1205) C dL_law_1203 rfl rfl ?_
    refine g_iconst (q := 1206) (3) C dL_law_1205 (by decide) rfl ?_
    refine g_callV2P (q := 1209) C hy_X4_asked (c_X4_asked_n Γ l (nI o) 3 hL hI.inv d3) qw_406 (by exact hLq.1) rfl ⟨Nat.le_of_ble_eq_true rfl, Nat.le_of_ble_eq_true rfl⟩ (Nat.le_of_ble_eq_true rfl) rfl dL_law_1206 ⟨rfl, rfl⟩ ⟨by show _ ≤ 893913; omega, by show _ ≤ 6419885; omega⟩ rfl ?_
    refine g_isub (q := 1210) C dL_law_1209 rfl ?_
    refine g_iadd (q := 1211) C dL_law_1210 rfl ?_
    refine g_istore18 (q := 1213) C dL_law_1211 (by first | rfl | exact hNw_rf _) rfl ?_
    refine g_iload (q := 1215) C dL_law_1213 rfl rfl ?_
    refine g_aload_n (q := 1216) C dL_law_1215 rfl (by first | exact hRef_r _ | exact hRef_o _ | exact hRef_n) rfl ?_
    refine g_iload (q := 1218) C dL_law_1216 rfl rfl ?_
    refine g_iconst (q := 1219) (4) C dL_law_1218 (by decide) rfl ?_
    refine g_callV2P (q := 1222) C hy_X4_asked (c_X4_asked_n Γ l (nI o) 4 hL hI.inv d4) qw_406 (by exact hLq.1) rfl ⟨Nat.le_of_ble_eq_true rfl, Nat.le_of_ble_eq_true rfl⟩ (Nat.le_of_ble_eq_true rfl) rfl dL_law_1219 ⟨rfl, rfl⟩ ⟨by show _ ≤ 893913; omega, by show _ ≤ 6419885; omega⟩ rfl ?_
    refine g_iadd (q := 1223) C dL_law_1222 rfl ?_
    refine g_istore19 (q := 1225) C dL_law_1223 (by first | rfl | exact hNw_rf _) rfl ?_
    refine g_aload_n (q := 1226) C dL_law_1225 rfl (by first | exact hRef_r _ | exact hRef_o _ | exact hRef_n) rfl ?_
    refine g_iload (q := 1228) C dL_law_1226 rfl rfl ?_
    refine g_iconst (q := 1229) (3) C dL_law_1228 (by decide) rfl ?_
    refine g_callV2P (q := 1232) C hy_X4_asked (c_X4_asked_n Γ l (nI o) 3 hL hI.inv d3) qw_406 (by exact hLq.1) rfl ⟨Nat.le_of_ble_eq_true rfl, Nat.le_of_ble_eq_true rfl⟩ (Nat.le_of_ble_eq_true rfl) rfl dL_law_1229 ⟨rfl, rfl⟩ ⟨by show _ ≤ 893913; omega, by show _ ≤ 6419885; omega⟩ rfl ?_
    refine g_aload_n (q := 1233) C dL_law_1232 rfl (by first | exact hRef_r _ | exact hRef_o _ | exact hRef_n) rfl ?_
    refine g_iload (q := 1235) C dL_law_1233 rfl rfl ?_
    refine g_iconst (q := 1236) (1) C dL_law_1235 (by decide) rfl ?_
    refine g_callV2P (q := 1239) C hy_X4_asked (c_X4_asked_n Γ l (nI o) 1 hL hI.inv d1) qw_406 (by exact hLq.1) rfl ⟨Nat.le_of_ble_eq_true rfl, Nat.le_of_ble_eq_true rfl⟩ (Nat.le_of_ble_eq_true rfl) rfl dL_law_1236 ⟨rfl, rfl⟩ ⟨by show _ ≤ 893913; omega, by show _ ≤ 6419885; omega⟩ rfl ?_
    refine g_icmp_gt (t := 1277) (q := 1242) C dL_law_1239 (by decide) rfl (fun c_1239 => ?_) (fun c_1239 => ?_)
    · skip
      first | exact absurd c_1239 (by rw [b1, b3]; exact ordLe hI hlto)
    · skip
      refine g_aload_n (q := 1243) C dL_law_1242 rfl (by first | exact hRef_r _ | exact hRef_o _ | exact hRef_n) rfl ?_
      refine g_iload (q := 1245) C dL_law_1243 rfl rfl ?_
      refine g_iconst (q := 1246) (4) C dL_law_1245 (by decide) rfl ?_
      refine g_callV2P (q := 1249) C hy_X4_asked (c_X4_asked_n Γ l (nI o) 4 hL hI.inv d4) qw_406 (by exact hLq.1) rfl ⟨Nat.le_of_ble_eq_true rfl, Nat.le_of_ble_eq_true rfl⟩ (Nat.le_of_ble_eq_true rfl) rfl dL_law_1246 ⟨rfl, rfl⟩ ⟨by show _ ≤ 893913; omega, by show _ ≤ 6419885; omega⟩ rfl ?_
      refine g_aload_n (q := 1250) C dL_law_1249 rfl (by first | exact hRef_r _ | exact hRef_o _ | exact hRef_n) rfl ?_
      refine g_aload_n (q := 1251) C dL_law_1250 rfl (by first | exact hRef_r _ | exact hRef_o _ | exact hRef_n) rfl ?_
      refine g_iload (q := 1253) C dL_law_1251 rfl rfl ?_
      refine g_iconst (q := 1254) (0) C dL_law_1253 (by decide) rfl ?_
      refine g_callV2P (q := 1257) C hy_X4_asked (c_X4_asked_n Γ l (nI o) 0 hL hI.inv d0) qw_406 (by exact hLq.1) rfl ⟨Nat.le_of_ble_eq_true rfl, Nat.le_of_ble_eq_true rfl⟩ (Nat.le_of_ble_eq_true rfl) rfl dL_law_1254 ⟨rfl, rfl⟩ ⟨by show _ ≤ 893913; omega, by show _ ≤ 6419885; omega⟩ rfl ?_
      refine g_iconst (q := 1258) (2) C dL_law_1257 (by decide) rfl ?_
      refine g_callV2P (q := 1261) C hy_X4_about (c_X4_about_n Γ l (sAsked S (nI o) 0).2 2 hL hI.inv (by rw [b0n, a2])) qw_381 (by exact hLq.1) rfl ⟨Nat.le_of_ble_eq_true rfl, Nat.le_of_ble_eq_true rfl⟩ (Nat.le_of_ble_eq_true rfl) rfl dL_law_1258 ⟨rfl, rfl⟩ ⟨by show _ ≤ 893913; omega, by show _ ≤ 6419885; omega⟩ rfl ?_
      refine g_aload_n (q := 1262) C dL_law_1261 rfl (by first | exact hRef_r _ | exact hRef_o _ | exact hRef_n) rfl ?_
      refine g_aload_n (q := 1263) C dL_law_1262 rfl (by first | exact hRef_r _ | exact hRef_o _ | exact hRef_n) rfl ?_
      refine g_iload (q := 1265) C dL_law_1263 rfl rfl ?_
      refine g_iconst (q := 1266) (0) C dL_law_1265 (by decide) rfl ?_
      refine g_callV2P (q := 1269) C hy_X4_asked (c_X4_asked_n Γ l (nI o) 0 hL hI.inv d0) qw_406 (by exact hLq.1) rfl ⟨Nat.le_of_ble_eq_true rfl, Nat.le_of_ble_eq_true rfl⟩ (Nat.le_of_ble_eq_true rfl) rfl dL_law_1266 ⟨rfl, rfl⟩ ⟨by show _ ≤ 893913; omega, by show _ ≤ 6419885; omega⟩ rfl ?_
      refine g_iconst (q := 1270) (3) C dL_law_1269 (by decide) rfl ?_
      refine g_callV2P (q := 1273) C hy_X4_about (c_X4_about_n Γ l (sAsked S (nI o) 0).2 3 hL hI.inv (by rw [b0n, a3])) qw_381 (by exact hLq.1) rfl ⟨Nat.le_of_ble_eq_true rfl, Nat.le_of_ble_eq_true rfl⟩ (Nat.le_of_ble_eq_true rfl) rfl dL_law_1270 ⟨rfl, rfl⟩ ⟨by show _ ≤ 893913; omega, by show _ ≤ 6419885; omega⟩ rfl ?_
      refine g_isub (q := 1274) C dL_law_1273 rfl ?_
      refine g_icmp_le (t := 1279) (q := 1277) C dL_law_1274 (by decide) rfl (fun c_1274 => ?_) (fun c_1274 => ?_)
      · skip
        refine g_iinc20 (q := 1282) (1) C dL_law_1279 (by decide) (by first | rfl | exact hNw_rf _) rfl ?_
        refine g_goto (t := 1183) C dL_law_1282 (by decide) ?_
        rw [nI_1]
        exact ih hlto _ _ (by rw [b1, b3, h18, asI_1, asI_3]; exact (sum_s _ _).symm) (by rw [b4, h19]; exact (sum_s _ _).symm)
      · skip
        first | exact absurd (by rw [b4, b0n, a2, a3]; exact fitLe2) c_1274
set_option maxRecDepth 100000 in
set_option maxHeartbeats 8000000 in
theorem law_1395 {Γ : hGam} {l : Launch} {k9 : hCtx} {nm : String} {A : Nat → Prop} {Q : State → Prop} (C : hC Γ l k9 RL nm cL_law 24 (some .boolean) room_1 A) (hl : l.stackTraces = false) {x y D : Nat} {S : hS} {M : hM} {n z tm b ta : Nat} {xv c8 c9 c10 c17 c18 c19 c20 c21 c22 : Int32} {dg : Int64} (hn : n ≤ 893913) (hz : z ≤ 6419885) (hI : sI2 S D) (hL : ltP Γ M x (sFill S).2) (o11 o12 o13 o14 o15 o16 o23 : Option Value) (kk : ∀ p23 : Option Value, hG Γ k9 A Q M (n) (z) 1443 [some (.ref b), some (.ref x), some (.ref y), some (.int (nI tm)), some (.int xv), some (.long dg), none, some (.ref ta), some (.int c8), some (.int c9), some (.int c10), o11, o12, o13, o14, o15, o16, some (.int c17), some (.int c18), some (.int c19), some (.int c20), some (.int c21), some (.int c22), p23] []) : hG Γ k9 A Q M (n) (z) 1395 [some (.ref b), some (.ref x), some (.ref y), some (.int (nI tm)), some (.int xv), some (.long dg), none, some (.ref ta), some (.int c8), some (.int c9), some (.int c10), o11, o12, o13, o14, o15, o16, some (.int c17), some (.int c18), some (.int c19), some (.int c20), some (.int c21), some (.int c22), o23] [] := by
  have hI2 := hI.fill
  have hn6 := hI.1.1
  have ho6 := hI.1.2
  obtain ⟨_, _, _, _, _, _, _, _, _, _, _, _, _, hLq⟩ := id hL
  refine g_iconst (q := 1396) (0) C dL_law_1395 (by decide) rfl ?_
  refine g_istore23 (q := 1398) C dL_law_1396 (by first | rfl | exact hNw_rf _) rfl ?_
  refine h_loopU (P := fun o => hG Γ k9 A Q M (n) (z) 1398 [some (.ref b), some (.ref x), some (.ref y), some (.int (nI tm)), some (.int xv), some (.long dg), none, some (.ref ta), some (.int c8), some (.int c9), some (.int c10), o11, o12, o13, o14, o15, o16, some (.int c17), some (.int c18), some (.int c19), some (.int c20), some (.int c21), some (.int c22), some (.int (nI o))] []) (N := sO S) (fun o ho ih => ?_) 0 (Nat.zero_le _)
  refine g_iload (q := 1400) C dL_law_1398 rfl rfl ?_
  refine g_aload_n (q := 1401) C dL_law_1400 rfl (by first | exact hRef_r _ | exact hRef_o _ | exact hRef_n) rfl ?_
  refine g_iconst (q := 1402) (4) C dL_law_1401 (by decide) rfl ?_
  refine g_callV1P (q := 1405) C hy_X4_count (c_X4_count_n Γ l 4 hL hI2.inv (by rw [sCnt_4])) qw_415 (by exact hLq.1) rfl ⟨Nat.le_of_ble_eq_true rfl, Nat.le_of_ble_eq_true rfl⟩ (Nat.le_of_ble_eq_true rfl) rfl dL_law_1402 ⟨rfl, rfl⟩ ⟨by show _ ≤ 893913; omega, by show _ ≤ 6419885; omega⟩ rfl ?_
  refine g_icmp_ge (t := 1443) (q := 1408) C dL_law_1405 (by decide) rfl (fun c_1405 => ?_) (fun c_1405 => ?_)
  · skip
    exact kk _
  · skip
    rw [sCnt_4, cnI_4] at c_1405
    have hlto := nI_nge_lt ho (by omega) c_1405
    obtain ⟨b0, b1, b3, b4, d0, d1, d3, d4⟩ := sAs_n (S := (sFill S).2) ho6 hlto
    refine g_aload_n (q := 1409) C dL_law_1408 rfl (by first | exact hRef_r _ | exact hRef_o _ | exact hRef_n) rfl ?_
    refine g_iload (q := 1411) C dL_law_1409 rfl rfl ?_
    refine g_iconst (q := 1412) (3) C dL_law_1411 (by decide) rfl ?_
    refine g_callV2P (q := 1415) C hy_X4_asked (c_X4_asked_n Γ l (nI o) 3 hL hI2.inv d3) qw_406 (by exact hLq.1) rfl ⟨Nat.le_of_ble_eq_true rfl, Nat.le_of_ble_eq_true rfl⟩ (Nat.le_of_ble_eq_true rfl) rfl dL_law_1412 ⟨rfl, rfl⟩ ⟨by show _ ≤ 893913; omega, by show _ ≤ 6419885; omega⟩ rfl ?_
    refine g_aload_n (q := 1416) C dL_law_1415 rfl (by first | exact hRef_r _ | exact hRef_o _ | exact hRef_n) rfl ?_
    refine g_iload (q := 1418) C dL_law_1416 rfl rfl ?_
    refine g_iconst (q := 1419) (1) C dL_law_1418 (by decide) rfl ?_
    refine g_callV2P (q := 1422) C hy_X4_asked (c_X4_asked_n Γ l (nI o) 1 hL hI2.inv d1) qw_406 (by exact hLq.1) rfl ⟨Nat.le_of_ble_eq_true rfl, Nat.le_of_ble_eq_true rfl⟩ (Nat.le_of_ble_eq_true rfl) rfl dL_law_1419 ⟨rfl, rfl⟩ ⟨by show _ ≤ 893913; omega, by show _ ≤ 6419885; omega⟩ rfl ?_
    refine g_icmp_ge (t := 1437) (q := 1425) C dL_law_1422 (by decide) rfl (fun c_1422 => ?_) (fun c_1422 => ?_)
    · skip
      refine g_iinc23 (q := 1440) (1) C dL_law_1437 (by decide) (by first | rfl | exact hNw_rf _) rfl ?_
      refine g_goto (t := 1398) C dL_law_1440 (by decide) ?_
      rw [nI_1]
      exact ih hlto
    · skip
      refine g_aload_n (q := 1426) C dL_law_1425 rfl (by first | exact hRef_r _ | exact hRef_o _ | exact hRef_n) rfl ?_
      refine g_iload (q := 1428) C dL_law_1426 rfl rfl ?_
      refine g_iconst (q := 1429) (4) C dL_law_1428 (by decide) rfl ?_
      refine g_callV2P (q := 1432) C hy_X4_asked (c_X4_asked_n Γ l (nI o) 4 hL hI2.inv d4) qw_406 (by exact hLq.1) rfl ⟨Nat.le_of_ble_eq_true rfl, Nat.le_of_ble_eq_true rfl⟩ (Nat.le_of_ble_eq_true rfl) rfl dL_law_1429 ⟨rfl, rfl⟩ ⟨by show _ ≤ 893913; omega, by show _ ≤ 6419885; omega⟩ rfl ?_
      refine g_if_le (t := 1437) (q := 1435) C dL_law_1432 (by decide) rfl (fun c_1432 => ?_) (fun c_1432 => ?_)
      · skip
        refine g_iinc23 (q := 1440) (1) C dL_law_1437 (by decide) (by first | rfl | exact hNw_rf _) rfl ?_
        refine g_goto (t := 1398) C dL_law_1440 (by decide) ?_
        rw [nI_1]
        exact ih hlto
      · skip
        first | exact absurd (by rw [b4]; exact Int32.not_lt.mp (fillAs hI hlto (by rw [← b1, ← b3]; exact Int32.not_le.mp c_1422))) c_1432
set_option maxRecDepth 100000 in
set_option maxHeartbeats 8000000 in
theorem law_1285 {Γ : hGam} {l : Launch} {k9 : hCtx} {nm : String} {A : Nat → Prop} {Q : State → Prop} (C : hC Γ l k9 RL nm cL_law 24 (some .boolean) room_1 A) (hl : l.stackTraces = false) {x y D : Nat} {S : hS} {M : hM} {n z tm b ta : Nat} {xv c8 c9 c10 c17 c18 c19 c20 : Int32} {dg : Int64} (hn : n ≤ 893913) (hz : z ≤ 6419885) (hLS : lawS Γ M x y S D) (hdg : dg = sDig S) (h18 : c18 = lackS S (sO S)) (h19 : c19 = fitS S (sO S)) (o11 o12 o13 o14 o15 o16 o21 o22 o23 : Option Value) (kk : ∀ (M1 : hM) (S1 : hS) (p18 p19 p20 p21 p22 p23 : Option Value) (_ : Nat), lawS Γ M1 x y S1 D → hG Γ k9 A Q M1 (n) (z) 1443 [some (.ref b), some (.ref x), some (.ref y), some (.int (nI tm)), some (.int xv), some (.long dg), none, some (.ref ta), some (.int c8), some (.int c9), some (.int c10), o11, o12, o13, o14, o15, o16, some (.int c17), p18, p19, p20, p21, p22, p23] []) : hG Γ k9 A Q M (n) (z) 1285 [some (.ref b), some (.ref x), some (.ref y), some (.int (nI tm)), some (.int xv), some (.long dg), none, some (.ref ta), some (.int c8), some (.int c9), some (.int c10), o11, o12, o13, o14, o15, o16, some (.int c17), some (.int c18), some (.int c19), some (.int c20), o21, o22, o23] [] := by
  obtain ⟨hL, hS, hI, h0⟩ := id hLS
  have hn6 := hI.1.1
  have ho6 := hI.1.2
  obtain ⟨_, _, _, _, _, _, _, _, _, _, _, _, _, hLq⟩ := id hL
  refine g_aload_n (q := 1286) C dL_law_1285 rfl (by first | exact hRef_r _ | exact hRef_o _ | exact hRef_n) rfl ?_
  refine g_iconst (q := 1287) (2) C dL_law_1286 (by decide) rfl ?_
  refine g_callV1P (q := 1290) C hy_X4_count (c_X4_count_n Γ l 2 hL hI.inv (by rw [sCnt_2])) qw_415 (by exact hLq.1) rfl ⟨Nat.le_of_ble_eq_true rfl, Nat.le_of_ble_eq_true rfl⟩ (Nat.le_of_ble_eq_true rfl) rfl dL_law_1287 ⟨rfl, rfl⟩ ⟨by show _ ≤ 893913; omega, by show _ ≤ 6419885; omega⟩ rfl ?_
  refine g_istore20 (q := 1292) C dL_law_1290 (by first | rfl | exact hNw_rf _) rfl ?_
  refine g_aload_n (q := 1293) C dL_law_1292 rfl (by first | exact hRef_r _ | exact hRef_o _ | exact hRef_n) rfl ?_
  refine g_bipush (q := 1295) (6) C dL_law_1293 (by decide) rfl ?_
  refine g_callV1P (q := 1298) C hy_X4_count (c_X4_count_n Γ l 6 hL hI.inv (by rw [sCnt_6])) qw_415 (by exact hLq.1) rfl ⟨Nat.le_of_ble_eq_true rfl, Nat.le_of_ble_eq_true rfl⟩ (Nat.le_of_ble_eq_true rfl) rfl dL_law_1295 ⟨rfl, rfl⟩ ⟨by show _ ≤ 893913; omega, by show _ ≤ 6419885; omega⟩ rfl ?_
  refine g_istore21 (q := 1300) C dL_law_1298 (by first | rfl | exact hNw_rf _) rfl ?_
  refine g_iload (q := 1302) C dL_law_1300 rfl rfl ?_
  refine g_bipush (q := 1304) (7) C dL_law_1302 (by decide) rfl ?_
  refine g_ishr (q := 1305) C dL_law_1304 rfl ?_
  refine g_iconst (q := 1306) (3) C dL_law_1305 (by decide) rfl ?_
  refine g_callS2I (q := 1309) C hy_L_below (c_L_below Γ l (N := 3) (by decide) (by decide)) qw_500 ⟨Nat.le_of_ble_eq_true rfl, Nat.le_of_ble_eq_true rfl⟩ (Nat.le_of_ble_eq_true rfl) rfl dL_law_1306 ⟨rfl, rfl⟩ ⟨by show _ ≤ 893913; omega, by show _ ≤ 6419885; omega⟩ rfl (fun x_1306 M_1306 p_1306 => ?_)
  obtain ⟨⟨j, hj, e_1306⟩, q_1306⟩ := p_1306
  subst e_1306
  rw [q_1306]
  refine g_if_le (t := 1315) (q := 1312) C dL_law_1309 (by decide) rfl (fun c_1309 => ?_) (fun c_1309 => ?_)
  · skip
    refine g_aload_n (q := 1316) C dL_law_1315 rfl (by first | exact hRef_r _ | exact hRef_o _ | exact hRef_n) rfl ?_
    refine g_callV0I (q := 1319) C hy_X4_fill (c_X4_fill Γ l hL hI.inv) qw_267 (by exact hLq.1) rfl ⟨Nat.le_of_ble_eq_true rfl, Nat.le_of_ble_eq_true rfl⟩ (Nat.le_of_ble_eq_true rfl) rfl dL_law_1316 ⟨rfl, rfl⟩ ⟨by show _ ≤ 893913; omega, by show _ ≤ 6419885; omega⟩ rfl (fun x_1316 M_1316 p_1316 => ?_)
    obtain ⟨v1316, hL2, k2⟩ := p_1316
    obtain ⟨ha, oa, la, ob, rx, bd, hQ⟩ := smP.cls hS hI k2
    refine g_istore22 (q := 1321) C dL_law_1319 (by first | rfl | exact hNw_rf _) rfl ?_
    refine g_aload_n (q := 1322) C dL_law_1321 rfl (by first | exact hRef_r _ | exact hRef_o _ | exact hRef_n) rfl ?_
    refine g_callV0I (q := 1325) C hy_X5_fill (c_X5_fill Γ l hQ.P hI) qw_478 (by exact hQ.1) rfl ⟨Nat.le_of_ble_eq_true rfl, Nat.le_of_ble_eq_true rfl⟩ (Nat.le_of_ble_eq_true rfl) rfl dL_law_1322 ⟨rfl, rfl⟩ ⟨by show _ ≤ 893913; omega, by show _ ≤ 6419885; omega⟩ rfl (fun x_1322 M_1322 p_1322 => ?_)
    obtain ⟨v1322, hS3, k3⟩ := p_1322
    have hL3 := hL2.sim k3
    obtain ⟨_, _, _, _, _, _, _, _, _, _, _, _, _, hLq3⟩ := id hL3
    have hI2 := hI.fill
    obtain ⟨f1, f2, f3, f4⟩ := fillLe hI
    refine g_iload (q := 1327) C dL_law_1325 rfl rfl ?_
    refine g_icmp_ne (t := 1393) (q := 1330) C dL_law_1327 (by decide) rfl (fun c_1327 => ?_) (fun c_1327 => ?_)
    · skip
      first | exact absurd (by rw [v1322, v1316]) c_1327
    · skip
      refine g_iload (q := 1332) C dL_law_1330 rfl rfl ?_
      refine g_iload (q := 1334) C dL_law_1332 rfl rfl ?_
      refine g_icmp_gt (t := 1393) (q := 1337) C dL_law_1334 (by decide) rfl (fun c_1334 => ?_) (fun c_1334 => ?_)
      · skip
        first | exact absurd c_1334 (by rw [h18, v1316]; exact f1)
      · skip
        refine g_iload (q := 1339) C dL_law_1337 rfl rfl ?_
        refine g_iload (q := 1341) C dL_law_1339 rfl rfl ?_
        refine g_icmp_gt (t := 1393) (q := 1344) C dL_law_1341 (by decide) rfl (fun c_1341 => ?_) (fun c_1341 => ?_)
        · skip
          first | exact absurd c_1341 (by rw [h19, v1316]; exact f2)
        · skip
          refine g_aload_n (q := 1345) C dL_law_1344 rfl (by first | exact hRef_r _ | exact hRef_o _ | exact hRef_n) rfl ?_
          refine g_iconst (q := 1346) (2) C dL_law_1345 (by decide) rfl ?_
          refine g_callV1P (q := 1349) C hy_X4_count (c_X4_count_n Γ l 2 hL3 hI2.inv (by rw [sCnt_2])) qw_415 (by exact hLq3.1) rfl ⟨Nat.le_of_ble_eq_true rfl, Nat.le_of_ble_eq_true rfl⟩ (Nat.le_of_ble_eq_true rfl) rfl dL_law_1346 ⟨rfl, rfl⟩ ⟨by show _ ≤ 893913; omega, by show _ ≤ 6419885; omega⟩ rfl ?_
          refine g_iload (q := 1351) C dL_law_1349 rfl rfl ?_
          refine g_iload (q := 1353) C dL_law_1351 rfl rfl ?_
          refine g_isub (q := 1354) C dL_law_1353 rfl ?_
          refine g_icmp_ne (t := 1393) (q := 1357) C dL_law_1354 (by decide) rfl (fun c_1354 => ?_) (fun c_1354 => ?_)
          · skip
            first | exact absurd (by rw [sCnt_2, sCnt_2, v1316]; exact f3) c_1354
          · skip
            refine g_aload_n (q := 1358) C dL_law_1357 rfl (by first | exact hRef_r _ | exact hRef_o _ | exact hRef_n) rfl ?_
            refine g_bipush (q := 1360) (6) C dL_law_1358 (by decide) rfl ?_
            refine g_callV1P (q := 1363) C hy_X4_count (c_X4_count_n Γ l 6 hL3 hI2.inv (by rw [sCnt_6])) qw_415 (by exact hLq3.1) rfl ⟨Nat.le_of_ble_eq_true rfl, Nat.le_of_ble_eq_true rfl⟩ (Nat.le_of_ble_eq_true rfl) rfl dL_law_1360 ⟨rfl, rfl⟩ ⟨by show _ ≤ 893913; omega, by show _ ≤ 6419885; omega⟩ rfl ?_
            refine g_iload (q := 1365) C dL_law_1363 rfl rfl ?_
            refine g_iload (q := 1367) C dL_law_1365 rfl rfl ?_
            refine g_iadd (q := 1368) C dL_law_1367 rfl ?_
            refine g_icmp_ne (t := 1393) (q := 1371) C dL_law_1368 (by decide) rfl (fun c_1368 => ?_) (fun c_1368 => ?_)
            · skip
              first | exact absurd (by rw [sCnt_6, sCnt_6, v1316]; exact fillGi) c_1368
            · skip
              refine g_aload_n (q := 1372) C dL_law_1371 rfl (by first | exact hRef_r _ | exact hRef_o _ | exact hRef_n) rfl ?_
              refine g_callV0I (q := 1375) C hy_X4_fill (c_X4_fill Γ l hL3 hI2.inv) qw_267 (by exact hLq3.1) rfl ⟨Nat.le_of_ble_eq_true rfl, Nat.le_of_ble_eq_true rfl⟩ (Nat.le_of_ble_eq_true rfl) rfl dL_law_1372 ⟨rfl, rfl⟩ ⟨by show _ ≤ 893913; omega, by show _ ≤ 6419885; omega⟩ rfl (fun x_1372 M_1372 p_1372 => ?_)
              obtain ⟨v1372, hL4, k4⟩ := p_1372
              rw [fill2 hI] at v1372 hL4
              replace hL4 : ltP Γ M_1372 x (sFill S).2 := hL4
              obtain ⟨_, _, _, _, _, _, _, _, _, _, _, _, _, hLq4⟩ := id hL4
              have hS4 := smP.cls hS3 hI2 k4
              refine g_if_ne (t := 1393) (q := 1378) C dL_law_1375 (by decide) rfl (fun c_1375 => ?_) (fun c_1375 => ?_)
              · skip
                first | exact absurd v1372 c_1375
              · skip
                refine g_iload (q := 1380) C dL_law_1378 rfl rfl ?_
                refine g_if_ne (t := 1395) (q := 1383) C dL_law_1380 (by decide) rfl (fun c_1380 => ?_) (fun c_1380 => ?_)
                · skip
                  exact law_1395 C hl (by omega) (by omega) hI hL4 _ _ _ _ _ _ _ (fun p23 => kk _ _ _ _ _ _ _ _ 0 ⟨hL4, hS4, hI2, h0⟩)
                · skip
                  have eS : (sFill S).2 = S := f4 (v1316.symm.trans c_1380)
                  refine g_aload_n (q := 1384) C dL_law_1383 rfl (by first | exact hRef_r _ | exact hRef_o _ | exact hRef_n) rfl ?_
                  refine g_callV0L (q := 1387) C hy_X4_digest (c_X4_digest Γ l hL4 hI2.inv) qw_451 (by exact hLq4.1) rfl ⟨Nat.le_of_ble_eq_true rfl, Nat.le_of_ble_eq_true rfl⟩ (Nat.le_of_ble_eq_true rfl) rfl dL_law_1384 ⟨rfl, rfl⟩ ⟨by show _ ≤ 893913; omega, by show _ ≤ 6419885; omega⟩ rfl (fun x_1384 M_1384 p_1384 => ?_)
                  obtain ⟨v1, q9⟩ := p_1384
                  rw [q9]
                  refine g_lload (q := 1389) C dL_law_1387 rfl rfl ?_
                  refine g_lcmp (q := 1390) C dL_law_1389 rfl ?_
                  refine g_if_eq (t := 1395) (q := 1393) C dL_law_1390 (by decide) rfl (fun c_1390 => ?_) (fun c_1390 => ?_)
                  · skip
                    exact law_1395 C hl (by omega) (by omega) hI hL4 _ _ _ _ _ _ _ (fun p23 => kk _ _ _ _ _ _ _ _ 0 ⟨hL4, hS4, hI2, h0⟩)
                  · skip
                    first | exact absurd (by rw [v1, eS, hdg]; exact lgc _) c_1390
  · skip
    refine g_goto (t := 1443) C dL_law_1312 (by decide) ?_
    exact kk _ _ _ _ _ _ _ _ 0 hLS
