/-! ===== the law's act: what it needs ===== -/
theorem ifc9 {P Q : Prop} [Decidable P] [Decidable Q] (h : P ↔ Q) {α : Type} {a b : α} : (if P then a else b) = if Q then a else b := by
  by_cases p : P
  · rw [if_pos p, if_pos (h.mp p)]
  · rw [if_neg p, if_neg (fun q => p (h.mpr q))]
def fT8 (B : Nat → hB) (s : Nat) : Nat → Int32 → Int32 := fun h c => if bTak (B (s * 8 + h)) = true then c + 1 else c
theorem tr_lo (B : Nat → hB) (s : Nat) : ∀ n, n ≤ s * 8 → hIt (fTurn s B) 0 n = 0
  | 0, _ => rfl
  | n + 1, h => by
    rw [hIt_s, tr_lo B s n (by omega)]
    exact if_neg (fun q => by omega)
theorem tr_mi (B : Nat → hB) (s : Nat) : ∀ h, h ≤ 8 → hIt (fTurn s B) 0 (s * 8 + h) = hIt (fT8 B s) 0 h
  | 0, _ => tr_lo B s _ (by omega)
  | h + 1, hh => by
    rw [show s * 8 + (h + 1) = s * 8 + h + 1 by omega, hIt_s, hIt_s, tr_mi B s h (by omega)]
    show (if (s * 8 + h) / 8 = s ∧ (B (s * 8 + h)).1.isSome = true then _ else _) = if (B (s * 8 + h)).1.isSome = true then _ else _
    exact ifc9 ⟨fun q => q.2, fun q => ⟨by omega, q⟩⟩
theorem tr_hi (B : Nat → hB) (s : Nat) : ∀ n, hIt (fTurn s B) 0 (s * 8 + 8 + n) = hIt (fT8 B s) 0 8
  | 0 => tr_mi B s 8 (by omega)
  | n + 1 => by
    rw [show s * 8 + 8 + (n + 1) = s * 8 + 8 + n + 1 by omega, hIt_s, tr_hi B s n]
    exact if_neg (fun q => by omega)
theorem tr_40 (B : Nat → hB) {s : Nat} (h : s < 5) : hIt (fTurn s B) 0 40 = hIt (fT8 B s) 0 8 := by
  have := tr_hi B s (32 - s * 8)
  rw [show s * 8 + 8 + (32 - s * 8) = 40 by omega] at this
  exact this
theorem tr_8 (B : Nat → hB) (s : Nat) : hIt (fT8 (vTurn s B) s) 0 8 = hIt (fT8 B s) 0 8 := hIt_cg fun i _ c => by
  show (if (vTurn s B (s * 8 + i)).1.isSome = true then c + 1 else c) = if (B (s * 8 + i)).1.isSome = true then c + 1 else c
  rw [vTurn_1]
theorem tr_law {B : Nat → hB} {t : Nat} (h : t < 5) : hIt (fT8 (vTurn t B) t) 0 8 = hIt (fTurn t B) 0 40 := (tr_8 B t).trans (tr_40 B h).symm
theorem fT8_y {B : Nat → hB} {t i : Nat} (h : (B (t * 8 + i)).1.isSome = true) : hIt (fT8 B t) 0 (i + 1) = hIt (fT8 B t) 0 i + 1 := if_pos h
theorem fT8_n {B : Nat → hB} {t i : Nat} (h : (B (t * 8 + i)).1.isSome = false) : hIt (fT8 B t) 0 (i + 1) = hIt (fT8 B t) 0 i := if_neg (by show ¬ (B (t * 8 + i)).1.isSome = true; rw [h]; decide)
/-- one bundle moves from a to b -/
theorem smB.mv {Γ : hGam} {M : hM} {bd : Nat → Option Nat} {B : Nat → hB} (h : smB Γ M bd B) {a b c : Nat} (ha : a < 40) (hab : a ≠ b) (ea : bd a = some c) (eb : bd b = none) : smB Γ M (fUp (fUp bd b (some c)) a none) (mvB B a b) := by
  unfold mvB
  have key : ∀ i, i ≠ a → fUp (fUp bd b (some c)) a none i = if i = b then some c else bd i := fun i hi => by
    rw [fUp_n hi]
    by_cases q : i = b
    · subst q; rw [fUp_s, if_pos rfl]
    · rw [fUp_n q, if_neg q]
  have keyB : ∀ i, i ≠ a → fUp (fUp B b (B a)) a emp i = if i = b then B a else B i := fun i hi => by
    rw [fUp_n hi]
    by_cases q : i = b
    · subst q; rw [fUp_s, if_pos rfl]
    · rw [fUp_n q, if_neg q]
  refine ⟨fun i hi c2 e2 => ?_, fun i hi e2 => ?_, fun i j c2 hi hj e1 e2 => ?_⟩
  · by_cases q : i = a
    · rw [q, fUp_s] at e2; cases e2
    · rw [key i q] at e2
      rw [keyB i q]
      by_cases q2 : i = b
      · rw [if_pos q2] at e2 ⊢
        cases e2
        exact h.1 a ha c ea
      · rw [if_neg q2] at e2 ⊢
        exact h.1 i hi c2 e2
  · by_cases q : i = a
    · rw [q, fUp_s]; rfl
    · rw [key i q] at e2
      rw [keyB i q]
      by_cases q2 : i = b
      · rw [if_pos q2] at e2; cases e2
      · rw [if_neg q2] at e2 ⊢
        exact h.2.1 i hi e2
  · by_cases q : i = a
    · rw [q, fUp_s] at e1; cases e1
    · by_cases q2 : j = a
      · rw [q2, fUp_s] at e2; cases e2
      · rw [key i q] at e1
        rw [key j q2] at e2
        by_cases z1 : i = b <;> by_cases z2 : j = b
        · omega
        · rw [if_pos z1] at e1; rw [if_neg z2] at e2
          cases e1
          exact absurd (h.2.2 j a _ hj ha e2 ea) q2
        · rw [if_neg z1] at e1; rw [if_pos z2] at e2
          cases e2
          exact absurd (h.2.2 i a _ hi ha e1 ea) q
        · rw [if_neg z1] at e1; rw [if_neg z2] at e2
          exact h.2.2 i j c2 hi hj e1 e2
set_option maxRecDepth 100000 in
set_option maxHeartbeats 8000000 in
theorem act_413 {Γ : hGam} {l : Launch} {k9 : hCtx} {nm : String} {M : hM} (C : hC Γ l k9 RL nm cL_act 12 (some .boolean) rm_L_act (hA M (kS k9).heap.size)) (hl : l.stackTraces = false) (T : (kC k9).exceptionTable.toList = tableOf [(198, 211, 214, 35), (258, 267, 270, 35), (379, 392, 395, 35), (611, 629, 632, 35)]) {x y D t h : Nat} {S : hS} {xv : Int32} {ha oa la : Nat} {ob rx : Nat → Nat} {bd : Nat → Option Nat} (hLt : ltP Γ M x S) (hQ : smQ Γ M y S ha oa la ob rx bd) (hI : sI2 S D) (h0 : 0 < sN S) (ht : t < 5) (hh : h < 8) : hG Γ k9 (hA M (kS k9).heap.size) (hEnd Γ k9 M (hpI (fun a M1 => a = 1 ∧ ∃ S2, lawS Γ M1 x y S2 (D + 15))) rm_L_act.cells rm_L_act.slots) M 0 0 413 [some (.ref x), some (.ref y), some (.int xv), some (.int (nI t)), some (.int (nI h)), some (va_rf (bd (t * 8 + h))), none, none, none, none, none, none] [] := by
  have hn6 := hI.1.1
  have ho6 := hI.1.2
  obtain ⟨_, _, _, _, _, _, _, _, _, _, _, _, _, hLqt⟩ := id hLt
  have pL := hLqt.1
  obtain ⟨pX, pH, pO, pLs, pB⟩ := id hQ
  obtain ⟨lf, pLf, pRow⟩ := pLs.row
  obtain ⟨hr1, rf, hr2, hr3⟩ := pRow t ht
  have hix : t * 8 + h < 40 := by omega
  refine g_aload_n (q := 414) C dL_act_413 rfl (by first | exact hRef_r _ | exact hRef_o _ | exact hRef_n) rfl ?_
  refine g_iload_n (q := 415) C dL_act_414 rfl rfl ?_
  refine g_callV1V (q := 418) C hy_X5_turn (c_X5_turn Γ l hQ.P ht hn6 ho6) qw_528 (by exact pX) rfl ⟨Nat.le_of_ble_eq_true rfl, Nat.le_of_ble_eq_true rfl⟩ (Nat.le_of_ble_eq_true rfl) rfl dL_act_415 ⟨rfl, rfl⟩ ⟨by decide, by decide⟩ rfl (fun M_415 p_415 => ?_)
  obtain ⟨hS5, u3⟩ := p_415
  obtain ⟨ha5, oa5, la5, ob5, rx5, bd5, hQ5⟩ := id hS5
  obtain ⟨pX5, pH5, pO5, pL5, pB5⟩ := id hQ5
  obtain ⟨lf5, pLf5, pRow5⟩ := pL5.row
  obtain ⟨hs1, rf5, hs2, hs3⟩ := pRow5 t ht
  have hL5 := hLt.sim u3
  obtain ⟨_, _, _, _, _, _, _, _, _, _, _, _, _, hLq5⟩ := id hL5
  refine g_iconst (q := 419) (0) C dL_act_418 (by decide) rfl ?_
  refine g_istore7 (q := 421) C dL_act_419 (by first | rfl | exact hNw_rf _) rfl ?_
  refine g_aload_n (q := 422) C dL_act_421 rfl (by first | exact hRef_r _ | exact hRef_o _ | exact hRef_n) rfl ?_
  refine g_get (q := 425) C hcl_X5 5 (by decide) qw_645 rfl dL_act_422 (by exact pX5) rfl rfl ?_
  refine g_iload_n (q := 426) C dL_act_425 rfl rfl ?_
  refine g_aaldRR (q := 427) C t rfl ht (by decide) dL_act_426 (pLf5) hs1 rfl ?_
  refine g_astore8 (q := 429) C dL_act_427 (by first | exact hRef_r _ | exact hRef_o _ | exact hRef_n) (by first | rfl | exact hNw_rf _) rfl ?_
  refine g_aload (q := 431) C dL_act_429 rfl (by first | exact hRef_r _ | exact hRef_o _ | exact hRef_n) rfl ?_
  refine g_alenR (q := 432) C dL_act_431 (hs2) rfl ?_
  refine g_istore9 (q := 434) C dL_act_432 (by first | rfl | exact hNw_rf _) rfl ?_
  refine g_iconst (q := 435) (0) C dL_act_434 (by decide) rfl ?_
  refine g_istore10 (q := 437) C dL_act_435 (by first | rfl | exact hNw_rf _) rfl ?_
  refine h_loopU (P := fun n => ∀ (acc : Int32) (o11 : Option Value), acc = hIt (fT8 (vTurn t (sB S)) t) 0 n → hG Γ k9 _ _ M_415 0 0 437 [some (.ref x), some (.ref y), some (.int xv), some (.int (nI t)), some (.int (nI h)), some (va_rf (bd (t * 8 + h))), none, some (.int acc), some (.ref (rx5 t)), some (.int (nI 8)), some (.int (nI n)), o11] []) (N := 8) (fun n hn ih => ?_) 0 (Nat.zero_le _) _ _ rfl
  intro acc o11 hacc
  refine g_iload (q := 439) C dL_act_437 rfl rfl ?_
  refine g_iload (q := 441) C dL_act_439 rfl rfl ?_
  refine g_icmp_ge (t := 472) (q := 444) C dL_act_441 (by decide) rfl (fun c_441 => ?_) (fun c_441 => ?_)
  · skip
    have hN := nI_ge_eq hn (by decide) c_441
    subst hN
    refine g_aload_n (q := 473) C dL_act_472 rfl (by first | exact hRef_r _ | exact hRef_o _ | exact hRef_n) rfl ?_
    refine g_iload_n (q := 474) C dL_act_473 rfl rfl ?_
    refine g_callVX1I (q := 477) C hy_X4_turn (c_X4_turn Γ l (nI t) hl hL5 hI.inv) (thrN_no (by rw [sTurn_ok ht])) qw_252 (by exact hLq5.1) rfl ⟨Nat.le_of_ble_eq_true rfl, Nat.le_of_ble_eq_true rfl⟩ (Nat.le_of_ble_eq_true rfl) rfl dL_act_474 ⟨by decide, by decide⟩ rfl (fun x_474 M_474 p_474 => ?_)
    rw [sTurn_ok ht] at p_474
    obtain ⟨-, v1, k2, k5⟩ := p_474
    have hS7 := smP.cls hS5 (hI.turn t) k5
    refine g_iload (q := 479) C dL_act_477 rfl rfl ?_
    refine g_icmp_ne (t := 486) (q := 482) C dL_act_479 (by decide) rfl (fun c_479 => ?_) (fun c_479 => ?_)
    · skip
      exact absurd (v1.trans ((tr_law ht).symm.trans hacc.symm)) c_479
    · skip
      refine g_iconst (q := 483) (1) C dL_act_482 (by decide) rfl ?_
      refine g_goto (t := 487) C dL_act_483 (by decide) ?_
      exact g_zret C dL_act_487 (by first | rfl | exact hNarB _) (⟨rfl, _, k2, hS7, (hI.turn t).mono (by omega), h0⟩) (by decide) (by decide)
  · skip
    have hlt := nI_nge_lt hn (by decide) c_441
    refine g_aload (q := 446) C dL_act_444 rfl (by first | exact hRef_r _ | exact hRef_o _ | exact hRef_n) rfl ?_
    refine g_iload (q := 448) C dL_act_446 rfl rfl ?_
    refine g_aaldR (q := 449) C n rfl hlt (by omega) dL_act_448 (hs2) (congrArg va_rf (hs3 n hlt)) rfl ?_
    refine g_astore11 (q := 451) C dL_act_449 (by first | exact hRef_r _ | exact hRef_o _ | exact hRef_n) (by first | rfl | exact hNw_rf _) rfl ?_
    refine g_iload (q := 453) C dL_act_451 rfl rfl ?_
    refine g_aload (q := 455) C dL_act_453 rfl (by first | exact hRef_r _ | exact hRef_o _ | exact hRef_n) rfl ?_
    refine g_ifnonnull (t := 462) (q := 458) C dL_act_455 (by decide) rfl (fun y_455 e_455 => ?_) (fun e_455 => ?_)
    · skip
      skip
      refine g_iconst (q := 463) (1) C dL_act_462 (by decide) rfl ?_
      refine g_iadd (q := 464) C dL_act_463 rfl ?_
      refine g_istore7 (q := 466) C dL_act_464 (by first | rfl | exact hNw_rf _) rfl ?_
      refine g_iinc10 (q := 469) (1) C dL_act_466 (by decide) (by first | rfl | exact hNw_rf _) rfl ?_
      refine g_goto (t := 437) C dL_act_469 (by decide) ?_
      rw [nI_1]
      exact ih hlt _ _ (by rw [fT8_y (by rw [pB5.tak (by omega), e_455]; rfl), ← hacc])
    · skip
      skip
      refine g_iconst (q := 459) (0) C dL_act_458 (by decide) rfl ?_
      refine g_goto (t := 463) C dL_act_459 (by decide) ?_
      refine g_iadd (q := 464) C dL_act_463 rfl ?_
      refine g_istore7 (q := 466) C dL_act_464 (by first | rfl | exact hNw_rf _) rfl ?_
      refine g_iinc10 (q := 469) (1) C dL_act_466 (by decide) (by first | rfl | exact hNw_rf _) rfl ?_
      refine g_goto (t := 437) C dL_act_469 (by decide) ?_
      rw [nI_1, Int32.add_zero]
      exact ih hlt _ _ (hacc.trans (fT8_n (by rw [pB5.2.1 _ (by omega) e_455]; rfl)).symm)
set_option maxRecDepth 100000 in
set_option maxHeartbeats 8000000 in
theorem act_232 {Γ : hGam} {l : Launch} {k9 : hCtx} {nm : String} {M : hM} (C : hC Γ l k9 RL nm cL_act 12 (some .boolean) rm_L_act (hA M (kS k9).heap.size)) (hl : l.stackTraces = false) (T : (kC k9).exceptionTable.toList = tableOf [(198, 211, 214, 35), (258, 267, 270, 35), (379, 392, 395, 35), (611, 629, 632, 35)]) {x y D t h : Nat} {S : hS} {xv : Int32} {ha oa la : Nat} {ob rx : Nat → Nat} {bd : Nat → Option Nat} (hLt : ltP Γ M x S) (hQ : smQ Γ M y S ha oa la ob rx bd) (hI : sI2 S D) (h0 : 0 < sN S) (ht : t < 5) (hh : h < 8) : hG Γ k9 (hA M (kS k9).heap.size) (hEnd Γ k9 M (hpI (fun a M1 => a = 1 ∧ ∃ S2, lawS Γ M1 x y S2 (D + 15))) rm_L_act.cells rm_L_act.slots) M 0 0 232 [some (.ref x), some (.ref y), some (.int xv), some (.int (nI t)), some (.int (nI h)), some (va_rf (bd (t * 8 + h))), none, none, none, none, none, none] [] := by
  have hn6 := hI.1.1
  have ho6 := hI.1.2
  obtain ⟨_, _, _, _, _, _, _, _, _, _, _, _, _, hLqt⟩ := id hLt
  have pL := hLqt.1
  obtain ⟨pX, pH, pO, pLs, pB⟩ := id hQ
  obtain ⟨lf, pLf, pRow⟩ := pLs.row
  obtain ⟨hr1, rf, hr2, hr3⟩ := pRow t ht
  have hix : t * 8 + h < 40 := by omega
  refine g_aload (q := 234) C dL_act_232 rfl (by first | exact hRef_r _ | exact hRef_o _ | exact hRef_n) rfl ?_
  refine g_ifnonnull (t := 241) (q := 237) C dL_act_234 (by decide) rfl (fun y_234 e_234 => ?_) (fun e_234 => ?_)
  · skip
    obtain ⟨j9, f9, tk8, hm9, q0, q1, q2, q3, q4⟩ := pB.of hix e_234
    have tk9 : (sB S (t * 8 + h)).1.isSome = true := by rw [tk8]; rfl
    rw [e_234]
    refine g_aload (q := 243) C dL_act_241 rfl (by first | exact hRef_r _ | exact hRef_o _ | exact hRef_n) rfl ?_
    refine g_callS1P (q := 246) C hy_X5_wet (c_X5_wet Γ l hm9 (by decide) (by decide)) qw_520 ⟨Nat.le_of_ble_eq_true rfl, Nat.le_of_ble_eq_true rfl⟩ (Nat.le_of_ble_eq_true rfl) rfl dL_act_243 ⟨rfl, rfl⟩ ⟨by decide, by decide⟩ rfl ?_
    refine g_istore7 (q := 248) C dL_act_246 (by first | rfl | exact hNw_rf _) rfl ?_
    refine g_aload_n (q := 249) C dL_act_248 rfl (by first | exact hRef_r _ | exact hRef_o _ | exact hRef_n) rfl ?_
    refine g_get (q := 252) C hcl_X5 5 (by decide) qw_645 rfl dL_act_249 (by exact pX) rfl rfl ?_
    refine g_iload_n (q := 253) C dL_act_252 rfl rfl ?_
    refine g_aaldRR (q := 254) C t rfl ht (by decide) dL_act_253 (pLf) hr1 rfl ?_
    refine g_iload (q := 256) C dL_act_254 rfl rfl ?_
    refine g_null (q := 257) C dL_act_256 rfl ?_
    refine g_aastRN (q := 258) C h rfl hh (by decide) dL_act_257 (hr2) rfl ?_
    have hr8 : hKp noR8 M (hU M (rx t) (aR Γ 8 (va_up rf h none))) := hKp.rf.put hr2 rfl
    have hL2 := hLt.kp hr8 rfl rfl rfl rfl rfl rfl ⟨rfl, rfl⟩ rfl
    obtain ⟨_, _, _, _, _, _, _, _, _, _, _, _, _, hLq2⟩ := id hL2
    have pL2 := pLs.put ht hh hr3 none
    have pB2 := (pB.kp hr8 rfl).clr (t * 8 + h) (b := emp) rfl
    have hS2 : smP Γ (hU M (rx t) (aR Γ 8 (va_up rf h none))) y (setB S (fUp (sB S) (t * 8 + h) emp)) := ⟨ha, oa, la, ob, rx, _, hr8 _ _ _ pX rfl, pH.kp hr8 (noR8_s hn6) rfl, pO.kp hr8 (noR8_s ho6) rfl, pL2, pB2⟩
    refine g_aload_n (q := 259) C dL_act_258 rfl (by first | exact hRef_r _ | exact hRef_o _ | exact hRef_n) rfl ?_
    refine g_iload_n (q := 260) C dL_act_259 rfl rfl ?_
    refine g_iload (q := 262) C dL_act_260 rfl rfl ?_
    refine gx_callVX (As := [.int (nI t), .int (nI h)]) C hy_X4_take (c_X4_take Γ l (nI t) (nI h) hl hL2 hI.inv) qw_521 (by exact hLq2.1) rfl ⟨Nat.le_of_ble_eq_true rfl, Nat.le_of_ble_eq_true rfl⟩ (Nat.le_of_ble_eq_true rfl) rfl ⟨by decide, by decide⟩ dL_act_262 rfl rfl (fun E hE => ?_) (fun r M8 hp => ?_)
    · obtain ⟨i9, hi1, hi2⟩ := hE
      exact absurd (hi1.symm.trans (congrArg (fun z => z.1) (sTake_yes ht hh tk9))) (Nat.succ_ne_zero _)
    · obtain ⟨a9, rfl, p1, p2, p3, p4⟩ := hp
      rw [sTake_yes ht hh tk9] at p2 p3
      have hS8 := smP.cls hS2 (hI.up bOk.emp') p4
      refine g_istore6 (q := 267) C dL_act_265 (by first | rfl | exact hNw_rf _) rfl ?_
      refine g_goto (t := 275) C dL_act_267 (by decide) ?_
      refine g_iload (q := 277) C dL_act_275 rfl rfl ?_
      refine g_iload (q := 279) C dL_act_277 rfl rfl ?_
      refine g_icmp_ne (t := 286) (q := 282) C dL_act_279 (by decide) rfl (fun c_279 => ?_) (fun c_279 => ?_)
      · skip
        first | exact absurd rfl c_279 | exact absurd (by rw [p2, q1, q2]; rfl) c_279
      · skip
        refine g_iconst (q := 283) (1) C dL_act_282 (by decide) rfl ?_
        refine g_goto (t := 287) C dL_act_283 (by decide) ?_
        exact g_zret C dL_act_287 (by first | rfl | exact hNarB _) (⟨rfl, _, p3, hS8, (hI.up bOk.emp').mono (by omega), h0⟩) (by decide) (by decide)
  · skip
    rw [e_234]
    refine g_iconst (q := 238) (-1) C dL_act_237 (by decide) rfl ?_
    refine g_goto (t := 246) C dL_act_238 (by decide) ?_
    refine g_istore7 (q := 248) C dL_act_246 (by first | rfl | exact hNw_rf _) rfl ?_
    refine g_aload_n (q := 249) C dL_act_248 rfl (by first | exact hRef_r _ | exact hRef_o _ | exact hRef_n) rfl ?_
    refine g_get (q := 252) C hcl_X5 5 (by decide) qw_645 rfl dL_act_249 (by exact pX) rfl rfl ?_
    refine g_iload_n (q := 253) C dL_act_252 rfl rfl ?_
    refine g_aaldRR (q := 254) C t rfl ht (by decide) dL_act_253 (pLf) hr1 rfl ?_
    refine g_iload (q := 256) C dL_act_254 rfl rfl ?_
    refine g_null (q := 257) C dL_act_256 rfl ?_
    refine g_aastRN (q := 258) C h rfl hh (by decide) dL_act_257 (hr2) rfl ?_
    have hr8 : hKp noR8 M (hU M (rx t) (aR Γ 8 (va_up rf h none))) := hKp.rf.put hr2 rfl
    have hL2 := hLt.kp hr8 rfl rfl rfl rfl rfl rfl ⟨rfl, rfl⟩ rfl
    obtain ⟨_, _, _, _, _, _, _, _, _, _, _, _, _, hLq2⟩ := id hL2
    have pL2 := pLs.put ht hh hr3 none
    have hb9 : (sB S (t * 8 + h)).1 = none := pB.2.1 _ hix e_234
    have pB2 := (pB.kp hr8 rfl).clr (t * 8 + h) hb9
    rw [fUp_k] at pB2
    have hS2 : smP Γ (hU M (rx t) (aR Γ 8 (va_up rf h none))) y S := ⟨ha, oa, la, ob, rx, _, hr8 _ _ _ pX rfl, pH.kp hr8 (noR8_s hn6) rfl, pO.kp hr8 (noR8_s ho6) rfl, pL2, pB2⟩
    refine g_aload_n (q := 259) C dL_act_258 rfl (by first | exact hRef_r _ | exact hRef_o _ | exact hRef_n) rfl ?_
    refine g_iload_n (q := 260) C dL_act_259 rfl rfl ?_
    refine g_iload (q := 262) C dL_act_260 rfl rfl ?_
    refine gx_callVX (As := [.int (nI t), .int (nI h)]) C hy_X4_take (c_X4_take Γ l (nI t) (nI h) hl hL2 hI.inv) qw_521 (by exact hLq2.1) rfl ⟨Nat.le_of_ble_eq_true rfl, Nat.le_of_ble_eq_true rfl⟩ (Nat.le_of_ble_eq_true rfl) rfl ⟨by decide, by decide⟩ dL_act_262 rfl rfl (fun E hE => ?_) (fun r M8 hp => ?_)
    · obtain ⟨i9, hi1, hi2⟩ := hE
      have h9 := hi1.symm.trans (sTake_no ht hh hb9)
      obtain rfl : i9 = 1 := by omega
      cases hi2
      refine g_catch (name := "java/lang/IllegalStateException") (hh := [(198, 211, 214, 35), (258, 267, 270, 35), (379, 392, 395, 35), (611, 629, 632, 35)]) C T [(198, 211, 214, 35)] (258, 267, 270, 35) [(379, 392, 395, 35), (611, 629, 632, 35)] rfl (fun z hz => by simp only [List.mem_cons, List.not_mem_nil, or_false] at hz; rcases hz with rfl <;> rfl) (by decide) (by decide) qw_511 qw_220 (fun q => ?_)
      refine g_astore8 (q := 272) C dL_act_270 (by first | exact hRef_r _ | exact hRef_o _ | exact hRef_n) (by first | rfl | exact hNw_rf _) rfl ?_
      refine g_iconst (q := 273) (-1) C dL_act_272 (by decide) rfl ?_
      refine g_istore6 (q := 275) C dL_act_273 (by first | rfl | exact hNw_rf _) rfl ?_
      refine g_iload (q := 277) C dL_act_275 rfl rfl ?_
      refine g_iload (q := 279) C dL_act_277 rfl rfl ?_
      refine g_icmp_ne (t := 286) (q := 282) C dL_act_279 (by decide) rfl (fun c_279 => ?_) (fun c_279 => ?_)
      · skip
        first | exact absurd rfl c_279 | exact absurd (by rw [p2, q1, q2]; rfl) c_279
      · skip
        refine g_iconst (q := 283) (1) C dL_act_282 (by decide) rfl ?_
        refine g_goto (t := 287) C dL_act_283 (by decide) ?_
        exact g_zret C dL_act_287 (by first | rfl | exact hNarB _) (⟨rfl, _, hL2, hS2, hI.mono (by omega), h0⟩) (by decide) (by decide)
    · obtain ⟨a9, rfl, p1, p2, p3, p4⟩ := hp
      exact absurd (p1.symm.trans (sTake_no ht hh hb9)) (by decide)
set_option maxRecDepth 100000 in
set_option maxHeartbeats 8000000 in
theorem act_288 {Γ : hGam} {l : Launch} {k9 : hCtx} {nm : String} {M : hM} (C : hC Γ l k9 RL nm cL_act 12 (some .boolean) rm_L_act (hA M (kS k9).heap.size)) (hl : l.stackTraces = false) (T : (kC k9).exceptionTable.toList = tableOf [(198, 211, 214, 35), (258, 267, 270, 35), (379, 392, 395, 35), (611, 629, 632, 35)]) {x y D t h : Nat} {S : hS} {xv : Int32} {ha oa la : Nat} {ob rx : Nat → Nat} {bd : Nat → Option Nat} (hLt : ltP Γ M x S) (hQ : smQ Γ M y S ha oa la ob rx bd) (hI : sI2 S D) (h0 : 0 < sN S) (ht : t < 5) (hh : h < 8) : hG Γ k9 (hA M (kS k9).heap.size) (hEnd Γ k9 M (hpI (fun a M1 => a = 1 ∧ ∃ S2, lawS Γ M1 x y S2 (D + 15))) rm_L_act.cells rm_L_act.slots) M 0 0 288 [some (.ref x), some (.ref y), some (.int xv), some (.int (nI t)), some (.int (nI h)), some (va_rf (bd (t * 8 + h))), none, none, none, none, none, none] [] := by
  have hn6 := hI.1.1
  have ho6 := hI.1.2
  obtain ⟨_, _, _, _, _, _, _, _, _, _, _, _, _, hLqt⟩ := id hLt
  have pL := hLqt.1
  obtain ⟨pX, pH, pO, pLs, pB⟩ := id hQ
  obtain ⟨lf, pLf, pRow⟩ := pLs.row
  obtain ⟨hr1, rf, hr2, hr3⟩ := pRow t ht
  have hix : t * 8 + h < 40 := by omega
  refine g_iload_n (q := 289) C dL_act_288 rfl rfl ?_
  refine g_iconst (q := 290) (5) C dL_act_289 (by decide) rfl ?_
  refine g_ishr (q := 291) C dL_act_290 rfl ?_
  refine g_iconst (q := 292) (5) C dL_act_291 (by decide) rfl ?_
  refine g_callS2I (q := 295) C hy_L_below (c_L_below Γ l (N := 5) (by decide) (by decide)) qw_500 ⟨Nat.le_of_ble_eq_true rfl, Nat.le_of_ble_eq_true rfl⟩ (Nat.le_of_ble_eq_true rfl) rfl dL_act_292 ⟨rfl, rfl⟩ ⟨by decide, by decide⟩ rfl (fun x_292 M_292 p_292 => ?_)
  obtain ⟨⟨t2, ht2, e_292⟩, q_292⟩ := p_292
  subst e_292
  rw [q_292]
  refine g_istore8 (q := 297) C dL_act_295 (by first | rfl | exact hNw_rf _) rfl ?_
  refine g_iload_n (q := 298) C dL_act_297 rfl rfl ?_
  refine g_iconst (q := 299) (3) C dL_act_298 (by decide) rfl ?_
  refine g_ishr (q := 300) C dL_act_299 rfl ?_
  refine g_bipush (q := 302) (8) C dL_act_300 (by decide) rfl ?_
  refine g_callS2I (q := 305) C hy_L_below (c_L_below Γ l (N := 8) (by decide) (by decide)) qw_500 ⟨Nat.le_of_ble_eq_true rfl, Nat.le_of_ble_eq_true rfl⟩ (Nat.le_of_ble_eq_true rfl) rfl dL_act_302 ⟨rfl, rfl⟩ ⟨by decide, by decide⟩ rfl (fun x_302 M_302 p_302 => ?_)
  obtain ⟨⟨h2, hh2, e_302⟩, q_302⟩ := p_302
  subst e_302
  rw [q_302]
  obtain ⟨hg1, rg, hg2, hg3⟩ := pRow t2 ht2
  have hix2 : (t2 * 8 + h2) < 40 := by omega
  refine g_istore9 (q := 307) C dL_act_305 (by first | rfl | exact hNw_rf _) rfl ?_
  refine g_aload (q := 309) C dL_act_307 rfl (by first | exact hRef_r _ | exact hRef_o _ | exact hRef_n) rfl ?_
  refine g_ifnull (t := 329) (q := 312) C dL_act_309 (by decide) rfl (fun e_309 => ?_) (fun y_309 e_309 => ?_)
  · skip
    have tk9 : (sB S (t * 8 + h)).1.isSome = false := by rw [pB.2.1 _ hix e_309]; rfl
    rw [e_309]
    refine g_iconst (q := 330) (0) C dL_act_329 (by decide) rfl ?_
    refine g_istore10 (q := 332) C dL_act_330 (by first | rfl | exact hNw_rf _) rfl ?_
    refine g_iload (q := 334) C dL_act_332 rfl rfl ?_
    refine g_if_eq (t := 359) (q := 337) C dL_act_334 (by decide) rfl (fun c_334 => ?_) (fun c_334 => absurd rfl c_334)
    refine g_iload (q := 361) C dL_act_359 rfl rfl ?_
    refine g_if_eq (t := 376) (q := 364) C dL_act_361 (by decide) rfl (fun c_361 => ?_) (fun c_361 => absurd rfl c_361)
    have hL2 := hLt
    obtain ⟨_, _, _, _, _, _, _, _, _, _, _, _, _, hLq2⟩ := id hL2
    refine g_iconst (q := 377) (-1) C dL_act_376 (by decide) rfl ?_
    refine g_istore7 (q := 379) C dL_act_377 (by first | rfl | exact hNw_rf _) rfl ?_
    refine g_aload_n (q := 380) C dL_act_379 rfl (by first | exact hRef_r _ | exact hRef_o _ | exact hRef_n) rfl ?_
    refine g_iload_n (q := 381) C dL_act_380 rfl rfl ?_
    refine g_iload (q := 383) C dL_act_381 rfl rfl ?_
    refine g_iload (q := 385) C dL_act_383 rfl rfl ?_
    refine g_iload (q := 387) C dL_act_385 rfl rfl ?_
    refine gx_callVX (As := [.int (nI t), .int (nI h), .int (nI t2), .int (nI h2)]) C hy_X4_move (c_X4_move Γ l (nI t) (nI h) (nI t2) (nI h2) hl hL2 hI.inv) qw_135 (by exact hLq2.1) rfl ⟨Nat.le_of_ble_eq_true rfl, Nat.le_of_ble_eq_true rfl⟩ (Nat.le_of_ble_eq_true rfl) rfl ⟨by decide, by decide⟩ dL_act_387 rfl rfl (fun E hE => ?_) (fun r M8 hp => ?_)
    · obtain ⟨i9, hi1, hi2⟩ := hE
      have h9 := hi1.symm.trans (sMove_no ht hh ht2 hh2 (Or.inl tk9))
      obtain rfl : i9 = 1 := by omega
      cases hi2
      refine g_catch (name := "java/lang/IllegalStateException") (hh := [(198, 211, 214, 35), (258, 267, 270, 35), (379, 392, 395, 35), (611, 629, 632, 35)]) C T [(198, 211, 214, 35), (258, 267, 270, 35)] (379, 392, 395, 35) [(611, 629, 632, 35)] rfl (fun z hz => by simp only [List.mem_cons, List.not_mem_nil, or_false] at hz; rcases hz with rfl | rfl <;> rfl) (by decide) (by decide) qw_511 qw_220 (fun q => ?_)
      refine g_astore11 (q := 397) C dL_act_395 (by first | exact hRef_r _ | exact hRef_o _ | exact hRef_n) (by first | rfl | exact hNw_rf _) rfl ?_
      refine g_iconst (q := 398) (-1) C dL_act_397 (by decide) rfl ?_
      refine g_istore6 (q := 400) C dL_act_398 (by first | rfl | exact hNw_rf _) rfl ?_
      refine g_iload (q := 402) C dL_act_400 rfl rfl ?_
      refine g_iload (q := 404) C dL_act_402 rfl rfl ?_
      refine g_icmp_ne (t := 411) (q := 407) C dL_act_404 (by decide) rfl (fun c_404 => ?_) (fun c_404 => ?_)
      · skip
        first | exact absurd rfl c_404 | exact absurd (by rw [p2, ← nrS_0]) c_404
      · skip
        refine g_iconst (q := 408) (1) C dL_act_407 (by decide) rfl ?_
        refine g_goto (t := 412) C dL_act_408 (by decide) ?_
        exact g_zret C dL_act_412 (by first | rfl | exact hNarB _) (⟨rfl, _, hLt, hQ.P, hI.mono (by omega), h0⟩) (by decide) (by decide)
    · obtain ⟨a9, rfl, p1, p2, p3, p4⟩ := hp
      exact absurd (p1.symm.trans (sMove_no ht hh ht2 hh2 (Or.inl tk9))) (by decide)
  · skip
    obtain ⟨j9, f9, tk8, hm9, q0, q1, q2, q3, q4⟩ := pB.of hix e_309
    have tk9 : (sB S (t * 8 + h)).1.isSome = true := by rw [tk8]; rfl
    rw [e_309]
    refine g_aload_n (q := 313) C dL_act_312 rfl (by first | exact hRef_r _ | exact hRef_o _ | exact hRef_n) rfl ?_
    refine g_get (q := 316) C hcl_X5 5 (by decide) qw_645 rfl dL_act_313 (by exact pX) rfl rfl ?_
    refine g_iload (q := 318) C dL_act_316 rfl rfl ?_
    refine g_aaldRR (q := 319) C t2 rfl ht2 (by decide) dL_act_318 (pLf) hg1 rfl ?_
    refine g_iload (q := 321) C dL_act_319 rfl rfl ?_
    refine g_aaldR (q := 322) C h2 rfl hh2 (by omega) dL_act_321 (hg2) (congrArg va_rf (hg3 h2 hh2)) rfl ?_
    refine g_ifnonnull (t := 329) (q := 325) C dL_act_322 (by decide) rfl (fun y_322 e_322 => ?_) (fun e_322 => ?_)
    · skip
      have tkb : (sB S (t2 * 8 + h2)).1.isSome = true := by rw [pB.tak hix2, e_322]; rfl
      refine g_iconst (q := 330) (0) C dL_act_329 (by decide) rfl ?_
      refine g_istore10 (q := 332) C dL_act_330 (by first | rfl | exact hNw_rf _) rfl ?_
      refine g_iload (q := 334) C dL_act_332 rfl rfl ?_
      refine g_if_eq (t := 359) (q := 337) C dL_act_334 (by decide) rfl (fun c_334 => ?_) (fun c_334 => absurd rfl c_334)
      refine g_iload (q := 361) C dL_act_359 rfl rfl ?_
      refine g_if_eq (t := 376) (q := 364) C dL_act_361 (by decide) rfl (fun c_361 => ?_) (fun c_361 => absurd rfl c_361)
      have hL2 := hLt
      obtain ⟨_, _, _, _, _, _, _, _, _, _, _, _, _, hLq2⟩ := id hL2
      refine g_iconst (q := 377) (-1) C dL_act_376 (by decide) rfl ?_
      refine g_istore7 (q := 379) C dL_act_377 (by first | rfl | exact hNw_rf _) rfl ?_
      refine g_aload_n (q := 380) C dL_act_379 rfl (by first | exact hRef_r _ | exact hRef_o _ | exact hRef_n) rfl ?_
      refine g_iload_n (q := 381) C dL_act_380 rfl rfl ?_
      refine g_iload (q := 383) C dL_act_381 rfl rfl ?_
      refine g_iload (q := 385) C dL_act_383 rfl rfl ?_
      refine g_iload (q := 387) C dL_act_385 rfl rfl ?_
      refine gx_callVX (As := [.int (nI t), .int (nI h), .int (nI t2), .int (nI h2)]) C hy_X4_move (c_X4_move Γ l (nI t) (nI h) (nI t2) (nI h2) hl hL2 hI.inv) qw_135 (by exact hLq2.1) rfl ⟨Nat.le_of_ble_eq_true rfl, Nat.le_of_ble_eq_true rfl⟩ (Nat.le_of_ble_eq_true rfl) rfl ⟨by decide, by decide⟩ dL_act_387 rfl rfl (fun E hE => ?_) (fun r M8 hp => ?_)
      · obtain ⟨i9, hi1, hi2⟩ := hE
        have h9 := hi1.symm.trans (sMove_no ht hh ht2 hh2 (Or.inr tkb))
        obtain rfl : i9 = 1 := by omega
        cases hi2
        refine g_catch (name := "java/lang/IllegalStateException") (hh := [(198, 211, 214, 35), (258, 267, 270, 35), (379, 392, 395, 35), (611, 629, 632, 35)]) C T [(198, 211, 214, 35), (258, 267, 270, 35)] (379, 392, 395, 35) [(611, 629, 632, 35)] rfl (fun z hz => by simp only [List.mem_cons, List.not_mem_nil, or_false] at hz; rcases hz with rfl | rfl <;> rfl) (by decide) (by decide) qw_511 qw_220 (fun q => ?_)
        refine g_astore11 (q := 397) C dL_act_395 (by first | exact hRef_r _ | exact hRef_o _ | exact hRef_n) (by first | rfl | exact hNw_rf _) rfl ?_
        refine g_iconst (q := 398) (-1) C dL_act_397 (by decide) rfl ?_
        refine g_istore6 (q := 400) C dL_act_398 (by first | rfl | exact hNw_rf _) rfl ?_
        refine g_iload (q := 402) C dL_act_400 rfl rfl ?_
        refine g_iload (q := 404) C dL_act_402 rfl rfl ?_
        refine g_icmp_ne (t := 411) (q := 407) C dL_act_404 (by decide) rfl (fun c_404 => ?_) (fun c_404 => ?_)
        · skip
          first | exact absurd rfl c_404 | exact absurd (by rw [p2, ← nrS_0]) c_404
        · skip
          refine g_iconst (q := 408) (1) C dL_act_407 (by decide) rfl ?_
          refine g_goto (t := 412) C dL_act_408 (by decide) ?_
          exact g_zret C dL_act_412 (by first | rfl | exact hNarB _) (⟨rfl, _, hLt, hQ.P, hI.mono (by omega), h0⟩) (by decide) (by decide)
      · obtain ⟨a9, rfl, p1, p2, p3, p4⟩ := hp
        exact absurd (p1.symm.trans (sMove_no ht hh ht2 hh2 (Or.inr tkb))) (by decide)
    · skip
      have hb2 : (sB S (t2 * 8 + h2)).1 = none := pB.2.1 _ hix2 e_322
      refine g_iconst (q := 326) (1) C dL_act_325 (by decide) rfl ?_
      refine g_goto (t := 330) C dL_act_326 (by decide) ?_
      refine g_istore10 (q := 332) C dL_act_330 (by first | rfl | exact hNw_rf _) rfl ?_
      refine g_iload (q := 334) C dL_act_332 rfl rfl ?_
      refine g_if_eq (t := 359) (q := 337) C dL_act_334 (by decide) rfl (fun c_334 => absurd c_334 (by decide)) (fun c_334 => ?_)
      refine g_aload_n (q := 338) C dL_act_337 rfl (by first | exact hRef_r _ | exact hRef_o _ | exact hRef_n) rfl ?_
      refine g_get (q := 341) C hcl_X5 5 (by decide) qw_645 rfl dL_act_338 (by exact pX) rfl rfl ?_
      refine g_iload (q := 343) C dL_act_341 rfl rfl ?_
      refine g_aaldRR (q := 344) C t2 rfl ht2 (by decide) dL_act_343 (pLf) hg1 rfl ?_
      refine g_iload (q := 346) C dL_act_344 rfl rfl ?_
      refine g_aload (q := 348) C dL_act_346 rfl (by first | exact hRef_r _ | exact hRef_o _ | exact hRef_n) rfl ?_
      refine g_aastR (q := 349) C h2 rfl hh2 (by decide) dL_act_348 (hg2) hm9 rfl ?_
      have hab : t * 8 + h ≠ (t2 * 8 + h2) := fun q => by rw [q, e_322] at e_309; cases e_309
      have hr8 : hKp noR8 M (hU M (rx t2) (aR Γ 8 (va_up rg h2 (some y_309)))) := hKp.rf.put hg2 rfl
      have pL2 := pLs.put ht2 hh2 hg3 (some y_309)
      obtain ⟨lf2, pLf2, pRow2⟩ := pL2.row
      obtain ⟨hz1, rz, hz2, hz3⟩ := pRow2 t ht
      have pX2 := hr8 _ _ _ pX rfl
      refine g_aload_n (q := 350) C dL_act_349 rfl (by first | exact hRef_r _ | exact hRef_o _ | exact hRef_n) rfl ?_
      refine g_get (q := 353) C hcl_X5 5 (by decide) qw_645 rfl dL_act_350 (by exact pX2) rfl rfl ?_
      refine g_iload_n (q := 354) C dL_act_353 rfl rfl ?_
      refine g_aaldRR (q := 355) C t rfl ht (by decide) dL_act_354 (pLf2) hz1 rfl ?_
      refine g_iload (q := 357) C dL_act_355 rfl rfl ?_
      refine g_null (q := 358) C dL_act_357 rfl ?_
      refine g_aastRN (q := 359) C h rfl hh (by decide) dL_act_358 (hz2) rfl ?_
      refine g_iload (q := 361) C dL_act_359 rfl rfl ?_
      refine g_if_eq (t := 376) (q := 364) C dL_act_361 (by decide) rfl (fun c_361 => absurd c_361 (by decide)) (fun c_361 => ?_)
      have hr9 : hKp noR8 M (hU (hU M (rx t2) (aR Γ 8 (va_up rg h2 (some y_309)))) (rx t) (aR Γ 8 (va_up rz h none))) := hr8.put hz2 rfl
      have pL3 := pL2.put ht hh hz3 none
      have pB3 := (pB.kp hr9 rfl).mv hix hab e_309 e_322
      have hS2 : smP Γ (hU (hU M (rx t2) (aR Γ 8 (va_up rg h2 (some y_309)))) (rx t) (aR Γ 8 (va_up rz h none))) y (setB S (mvB (sB S) (t * 8 + h) (t2 * 8 + h2))) := ⟨ha, oa, la, ob, rx, _, hr9 _ _ _ pX rfl, pH.kp hr9 (noR8_s hn6) rfl, pO.kp hr9 (noR8_s ho6) rfl, pL3, pB3⟩
      have hL2 := hLt.kp hr9 rfl rfl rfl rfl rfl rfl ⟨rfl, rfl⟩ rfl
      obtain ⟨_, _, _, _, _, _, _, _, _, _, _, _, _, hLq2⟩ := id hL2
      obtain ⟨ha6, oa6, la6, ob6, rx6, bd6, hQ6⟩ := id hS2
      refine g_aload_n (q := 365) C dL_act_364 rfl (by first | exact hRef_r _ | exact hRef_o _ | exact hRef_n) rfl ?_
      refine g_iload (q := 367) C dL_act_365 rfl rfl ?_
      refine g_iload (q := 369) C dL_act_367 rfl rfl ?_
      refine g_iconst (q := 370) (0) C dL_act_369 (by decide) rfl ?_
      refine g_callV3P (q := 373) C hy_X5_near (c_X5_near Γ l (t := t2) (c := h2) (w := 0) hS2 ht2 hh2 (by decide) (fun q => absurd q (by decide))) qw_527 (by exact hQ6.1) rfl ⟨Nat.le_of_ble_eq_true rfl, Nat.le_of_ble_eq_true rfl⟩ (Nat.le_of_ble_eq_true rfl) rfl dL_act_370 ⟨rfl, rfl⟩ ⟨by decide, by decide⟩ rfl ?_
      refine g_goto (t := 377) C dL_act_373 (by decide) ?_
      refine g_istore7 (q := 379) C dL_act_377 (by first | rfl | exact hNw_rf _) rfl ?_
      refine g_aload_n (q := 380) C dL_act_379 rfl (by first | exact hRef_r _ | exact hRef_o _ | exact hRef_n) rfl ?_
      refine g_iload_n (q := 381) C dL_act_380 rfl rfl ?_
      refine g_iload (q := 383) C dL_act_381 rfl rfl ?_
      refine g_iload (q := 385) C dL_act_383 rfl rfl ?_
      refine g_iload (q := 387) C dL_act_385 rfl rfl ?_
      refine gx_callVX (As := [.int (nI t), .int (nI h), .int (nI t2), .int (nI h2)]) C hy_X4_move (c_X4_move Γ l (nI t) (nI h) (nI t2) (nI h2) hl hL2 hI.inv) qw_135 (by exact hLq2.1) rfl ⟨Nat.le_of_ble_eq_true rfl, Nat.le_of_ble_eq_true rfl⟩ (Nat.le_of_ble_eq_true rfl) rfl ⟨by decide, by decide⟩ dL_act_387 rfl rfl (fun E hE => ?_) (fun r M8 hp => ?_)
      · obtain ⟨i9, hi1, hi2⟩ := hE
        exact absurd (hi1.symm.trans (congrArg (fun z => z.1) (sMove_yes ht hh ht2 hh2 tk9 hb2))) (Nat.succ_ne_zero _)
      · obtain ⟨a9, rfl, p1, p2, p3, p4⟩ := hp
        rw [sMove_yes ht hh ht2 hh2 tk9 hb2] at p2 p3
        have hS8 := smP.cls hS2 (hI.mv hix) p4
        refine g_istore6 (q := 392) C dL_act_390 (by first | rfl | exact hNw_rf _) rfl ?_
        refine g_goto (t := 400) C dL_act_392 (by decide) ?_
        refine g_iload (q := 402) C dL_act_400 rfl rfl ?_
        refine g_iload (q := 404) C dL_act_402 rfl rfl ?_
        refine g_icmp_ne (t := 411) (q := 407) C dL_act_404 (by decide) rfl (fun c_404 => ?_) (fun c_404 => ?_)
        · skip
          first | exact absurd rfl c_404 | exact absurd (by rw [p2, ← nrS_0]) c_404
        · skip
          refine g_iconst (q := 408) (1) C dL_act_407 (by decide) rfl ?_
          refine g_goto (t := 412) C dL_act_408 (by decide) ?_
          exact g_zret C dL_act_412 (by first | rfl | exact hNarB _) (⟨rfl, _, p3, hS8, (hI.mv hix).mono (by omega), h0⟩) (by decide) (by decide)
