set_option maxRecDepth 100000 in
set_option maxHeartbeats 8000000 in
theorem same_242 {Γ : hGam} {l : Launch} {k9 : hCtx} {nm : String} {M0 : hM} (C : hC Γ l k9 RX5 nm cX5_isSame 12 (some .boolean) rm_X5_isSame (hA M0 (kS k9).heap.size)) {x y D : Nat} {S : hS} {ha oa la : Nat} {ob rx : Nat → Nat} {bd : Nat → Option Nat} (hLt : ltP Γ M0 x S) (hQ : smQ Γ M0 y S ha oa la ob rx bd) (hI : sI2 S D) {M : hM} {b1 b3 b4 : Nat} {sf : Nat → Int32} {g : Nat → Option Nat} {ar : Nat → Nat} {F : Nat → Nat → Int32} {ff : Nat → Int32} (hs : isS Γ M0 M S b1 b3 b4 sf g ar F ff) (hv : isV S F ff 0) (s0 : sf 0 = hIt (fCnt (sB S)) 0 40) (s2 : sf 2 = hIt (fSum (sB S)) 0 40) (o3 o4 o7 o8 o9 o10 o11 : Option Value) : hG Γ k9 (hA M0 (kS k9).heap.size) (hEnd Γ k9 M0 (hpI (fun a _ => a = 1)) rm_X5_isSame.cells rm_X5_isSame.slots) M (10) (54) 242 [some (.ref y), some (.ref x), some (.ref b1), o3, o4, some (.ref b3), some (.ref b4), o7, o8, o9, o10, o11] [] := by
  have hn6 := hI.1.1
  have ho6 := hI.1.2
  obtain ⟨pX, pH, pO, pLs, pB⟩ := id hQ
  obtain ⟨hf0, hHa, hHr⟩ := id pH
  obtain ⟨gf, ga, gb, gc⟩ := id pO
  obtain ⟨lf, pLf, pRow⟩ := pLs.row
  refine g_iconst (q := 243) (0) C dX5_isSame_242 (by decide) rfl ?_
  refine g_istore7 (q := 245) C dX5_isSame_243 (by first | rfl | exact hNw_rf _) rfl ?_
  refine g_widen (n' := 10 + 8 * 0) (z' := 54 + 64 * 0) (by omega) (by omega) ?_
  refine h_loopU (P := fun t => ∀ (M : hM) (F : Nat → Nat → Int32) (ff : Nat → Int32) (o8 o9 o10 o11 : Option Value), isS Γ M0 M S b1 b3 b4 sf g ar F ff → isV S F ff (t * 8) → hG Γ k9 (hA M0 (kS k9).heap.size) (hEnd Γ k9 M0 (hpI (fun a _ => a = 1)) rm_X5_isSame.cells rm_X5_isSame.slots) M (10 + 8 * t) (54 + 64 * t) 245 [some (.ref y), some (.ref x), some (.ref b1), o3, o4, some (.ref b3), some (.ref b4), some (.int (nI t)), o8, o9, o10, o11] []) (N := 5) (fun t ht iht => ?_) 0 (Nat.zero_le _) M F ff _ _ _ _ hs hv
  intro M5 F5 ff5 o8a o9a o10a o11a hs5 hv5
  refine g_iload (q := 247) C dX5_isSame_245 rfl rfl ?_
  refine g_iconst (q := 248) (5) C dX5_isSame_247 (by decide) rfl ?_
  refine g_icmp_ge (t := 561) (q := 251) C dX5_isSame_248 (by decide) rfl (fun c_248 => ?_) (fun c_248 => ?_)
  · skip
    have hNt := nI_ge_eq ht (by omega) c_248
    subst hNt
    refine g_widen (n' := 60) (z' := 400) (by omega) (by omega) ?_
    exact same_561 C hLt hQ hI hs5 hv5 s0 s2 _ _ _ _ _ _ _
  · skip
    have hltt := nI_nge_lt ht (by omega) c_248
    obtain ⟨hr1, rf, hr2, hr3⟩ := pRow t hltt
    refine g_iconst (q := 252) (0) C dX5_isSame_251 (by decide) rfl ?_
    refine g_istore8 (q := 254) C dX5_isSame_252 (by first | rfl | exact hNw_rf _) rfl ?_
    refine g_widen (n' := 10 + (t * 8 + 0)) (z' := 54 + 8 * (t * 8 + 0)) (by omega) (by omega) ?_
    refine h_loopU (P := fun h => ∀ (M : hM) (F : Nat → Nat → Int32) (ff : Nat → Int32) (o9 o10 o11 : Option Value), isS Γ M0 M S b1 b3 b4 sf g ar F ff → isV S F ff (t * 8 + h) → hG Γ k9 (hA M0 (kS k9).heap.size) (hEnd Γ k9 M0 (hpI (fun a _ => a = 1)) rm_X5_isSame.cells rm_X5_isSame.slots) M (10 + (t * 8 + h)) (54 + 8 * (t * 8 + h)) 254 [some (.ref y), some (.ref x), some (.ref b1), o3, o4, some (.ref b3), some (.ref b4), some (.int (nI t)), some (.int (nI h)), o9, o10, o11] []) (N := 8) (fun h hh ihh => ?_) 0 (Nat.zero_le _) M5 F5 ff5 _ _ _ hs5 hv5
    intro M6 F6 ff6 o9b o10b o11b hs6 hv6
    have hk6 := hs6.1
    refine g_iload (q := 256) C dX5_isSame_254 rfl rfl ?_
    refine g_bipush (q := 258) (8) C dX5_isSame_256 (by decide) rfl ?_
    refine g_icmp_ge (t := 555) (q := 261) C dX5_isSame_258 (by decide) rfl (fun c_258 => ?_) (fun c_258 => ?_)
    · skip
      have hNh := nI_ge_eq hh (by omega) c_258
      subst hNh
      refine g_iinc7 (q := 558) (1) C dX5_isSame_555 (by decide) (by first | rfl | exact hNw_rf _) rfl ?_
      refine g_goto (t := 245) C dX5_isSame_558 (by decide) ?_
      rw [nI_1]
      refine g_widen (n' := 10 + 8 * (t + 1)) (z' := 54 + 64 * (t + 1)) (by omega) (by omega) ?_
      have hgo := iht hltt M6 F6 ff6 (some (.int (nI 8))) o9b o10b o11b hs6
      rw [Nat.succ_mul] at hgo
      exact hgo hv6
    · skip
      have hlth := nI_nge_lt hh (by omega) c_258
      have hix : t * 8 + h < 40 := by omega
      refine g_aload_n (q := 262) C dX5_isSame_261 rfl (by first | exact hRef_r _ | exact hRef_o _ | exact hRef_n) rfl ?_
      refine g_get (q := 265) C hcl_X5 5 (by decide) qw_644 rfl dX5_isSame_262 (by exact hk6 _ _ _ pX rfl) rfl rfl ?_
      refine g_iload (q := 267) C dX5_isSame_265 rfl rfl ?_
      refine g_aaldRR (q := 268) C t rfl hltt (by decide) dX5_isSame_267 (hk6 _ _ _ pLf rfl) hr1 rfl ?_
      refine g_iload (q := 270) C dX5_isSame_268 rfl rfl ?_
      refine g_aaldR (q := 271) C h rfl hlth (by omega) dX5_isSame_270 (hk6 _ _ _ hr2 rfl) (congrArg va_rf (hr3 h hlth)) rfl ?_
      refine g_astore9 (q := 273) C dX5_isSame_271 (by first | exact hRef_r _ | exact hRef_o _ | exact hRef_n) (by first | rfl | exact hNw_rf _) rfl ?_
      refine g_aload (q := 275) C dX5_isSame_273 rfl (by first | exact hRef_r _ | exact hRef_o _ | exact hRef_n) rfl ?_
      refine g_ifnonnull (t := 319) (q := 278) C dX5_isSame_275 (by decide) rfl (fun y_275 e_275 => ?_) (fun e_275 => ?_)
      · skip
        obtain ⟨j9, f9, tk8, hm9, q0, q1, q2, q3, q4⟩ := pB.of hix e_275
        have tk9 : (sB S (t * 8 + h)).1.isSome = true := by rw [tk8]; rfl
        have hj9 : j9 < sN S := ((hI.2.2.2.1 _ hix).tk tk8).1
        have hwt : (f9 1 + f9 2) / 2 = bWet (sB S (t * 8 + h)) := by rw [q1, q2]; rfl
        rw [e_275]
        refine g_bipush (q := 321) (8) C dX5_isSame_319 (by decide) rfl ?_
        refine g_newI (q := 323) C qw_476 (N := 8) rfl (by decide) (by show 10 + (t * 8 + h) + 1 ≤ 60; omega) (by show 54 + 8 * (t * 8 + h) + 8 ≤ 400; omega) dX5_isSame_321 rfl (fun d e_d => ?_)
        have hm10 : ∀ e : va_E, hU M6 d e y_275 = some (true, aI Γ 5 f9) := fun e => (hk6.new e_d : hKp (fun _ => true) M0 (hU M6 d e)) _ _ _ hm9 rfl
        have hQn : ∀ e : va_E, smQ Γ (hU M6 d e) y S ha oa la ob rx bd := fun e => hQ.kp (hk6.new e_d : hKp (fun _ => true) M0 (hU M6 d e)) simK_all hn6 ho6
        refine g_dup (q := 324) C dX5_isSame_323 rfl rfl ?_
        refine g_iconst (q := 325) (0) C dX5_isSame_324 (by decide) rfl ?_
        refine g_aload (q := 327) C dX5_isSame_325 rfl (by first | exact hRef_r _ | exact hRef_o _ | exact hRef_n) rfl ?_
        refine g_iconst (q := 328) (0) C dX5_isSame_327 (by decide) rfl ?_
        refine g_iald (q := 329) C 0 rfl (by decide) (by decide) dX5_isSame_328 (hm10 _) rfl ?_
        refine g_iast (q := 330) C 0 rfl (by decide) (by decide) dX5_isSame_329 (hU_s _ _ _) rfl ?_
        rw [hU_2]
        refine g_dup (q := 331) C dX5_isSame_330 rfl rfl ?_
        refine g_iconst (q := 332) (1) C dX5_isSame_331 (by decide) rfl ?_
        refine g_aload (q := 334) C dX5_isSame_332 rfl (by first | exact hRef_r _ | exact hRef_o _ | exact hRef_n) rfl ?_
        refine g_iconst (q := 335) (1) C dX5_isSame_334 (by decide) rfl ?_
        refine g_iald (q := 336) C 1 rfl (by decide) (by decide) dX5_isSame_335 (hm10 _) rfl ?_
        refine g_iast (q := 337) C 1 rfl (by decide) (by decide) dX5_isSame_336 (hU_s _ _ _) rfl ?_
        rw [hU_2]
        refine g_dup (q := 338) C dX5_isSame_337 rfl rfl ?_
        refine g_iconst (q := 339) (2) C dX5_isSame_338 (by decide) rfl ?_
        refine g_aload (q := 341) C dX5_isSame_339 rfl (by first | exact hRef_r _ | exact hRef_o _ | exact hRef_n) rfl ?_
        refine g_iconst (q := 342) (2) C dX5_isSame_341 (by decide) rfl ?_
        refine g_iald (q := 343) C 2 rfl (by decide) (by decide) dX5_isSame_342 (hm10 _) rfl ?_
        refine g_iast (q := 344) C 2 rfl (by decide) (by decide) dX5_isSame_343 (hU_s _ _ _) rfl ?_
        rw [hU_2]
        refine g_dup (q := 345) C dX5_isSame_344 rfl rfl ?_
        refine g_iconst (q := 346) (3) C dX5_isSame_345 (by decide) rfl ?_
        refine g_aload (q := 348) C dX5_isSame_346 rfl (by first | exact hRef_r _ | exact hRef_o _ | exact hRef_n) rfl ?_
        refine g_callS1P (q := 351) C hy_X5_wet (c_X5_wet Γ l (hm10 _) (by decide) (by decide)) qw_473 ⟨Nat.le_of_ble_eq_true rfl, Nat.le_of_ble_eq_true rfl⟩ (Nat.le_of_ble_eq_true rfl) rfl dX5_isSame_348 ⟨rfl, rfl⟩ ⟨by show 10 + (t * 8 + h) + 1 ≤ 60; omega, by show 54 + 8 * (t * 8 + h) + 8 ≤ 400; omega⟩ rfl ?_
        refine g_iast (q := 352) C 3 rfl (by decide) (by decide) dX5_isSame_351 (hU_s _ _ _) rfl ?_
        rw [hU_2]
        refine g_dup (q := 353) C dX5_isSame_352 rfl rfl ?_
        refine g_iconst (q := 354) (4) C dX5_isSame_353 (by decide) rfl ?_
        refine g_aload (q := 356) C dX5_isSame_354 rfl (by first | exact hRef_r _ | exact hRef_o _ | exact hRef_n) rfl ?_
        refine g_iconst (q := 357) (3) C dX5_isSame_356 (by decide) rfl ?_
        refine g_iald (q := 358) C 3 rfl (by decide) (by decide) dX5_isSame_357 (hm10 _) rfl ?_
        refine g_iast (q := 359) C 4 rfl (by decide) (by decide) dX5_isSame_358 (hU_s _ _ _) rfl ?_
        rw [hU_2]
        refine g_dup (q := 360) C dX5_isSame_359 rfl rfl ?_
        refine g_iconst (q := 361) (5) C dX5_isSame_360 (by decide) rfl ?_
        refine g_aload (q := 363) C dX5_isSame_361 rfl (by first | exact hRef_r _ | exact hRef_o _ | exact hRef_n) rfl ?_
        refine g_iconst (q := 364) (4) C dX5_isSame_363 (by decide) rfl ?_
        refine g_iald (q := 365) C 4 rfl (by decide) (by decide) dX5_isSame_364 (hm10 _) rfl ?_
        refine g_iast (q := 366) C 5 rfl (by decide) (by decide) dX5_isSame_365 (hU_s _ _ _) rfl ?_
        rw [hU_2]
        refine g_dup (q := 367) C dX5_isSame_366 rfl rfl ?_
        refine g_bipush (q := 369) (6) C dX5_isSame_367 (by decide) rfl ?_
        refine g_aload_n (q := 370) C dX5_isSame_369 rfl (by first | exact hRef_r _ | exact hRef_o _ | exact hRef_n) rfl ?_
        refine g_iload (q := 372) C dX5_isSame_370 rfl rfl ?_
        refine g_iload (q := 374) C dX5_isSame_372 rfl rfl ?_
        refine g_iconst (q := 375) (0) C dX5_isSame_374 (by decide) rfl ?_
        refine g_callV3P (q := 378) C hy_X5_near (c_X5_near Γ l (t := t) (c := h) (w := 0) (hQn _).P hltt hlth (by decide) (fun q => absurd q (by decide))) qw_469 (by exact (hQn _).1) rfl ⟨Nat.le_of_ble_eq_true rfl, Nat.le_of_ble_eq_true rfl⟩ (Nat.le_of_ble_eq_true rfl) rfl dX5_isSame_375 ⟨rfl, rfl⟩ ⟨by show 10 + (t * 8 + h) + 1 ≤ 60; omega, by show 54 + 8 * (t * 8 + h) + 8 ≤ 400; omega⟩ rfl ?_
        refine g_iast (q := 379) C 6 rfl (by decide) (by decide) dX5_isSame_378 (hU_s _ _ _) rfl ?_
        rw [hU_2]
        refine g_dup (q := 380) C dX5_isSame_379 rfl rfl ?_
        refine g_bipush (q := 382) (7) C dX5_isSame_380 (by decide) rfl ?_
        refine g_aload_n (q := 383) C dX5_isSame_382 rfl (by first | exact hRef_r _ | exact hRef_o _ | exact hRef_n) rfl ?_
        refine g_iload (q := 385) C dX5_isSame_383 rfl rfl ?_
        refine g_iload (q := 387) C dX5_isSame_385 rfl rfl ?_
        refine g_iconst (q := 388) (1) C dX5_isSame_387 (by decide) rfl ?_
        refine g_callV3P (q := 391) C hy_X5_near (c_X5_near Γ l (t := t) (c := h) (w := 1) (hQn _).P hltt hlth (by decide) (fun _ => tk9)) qw_469 (by exact (hQn _).1) rfl ⟨Nat.le_of_ble_eq_true rfl, Nat.le_of_ble_eq_true rfl⟩ (Nat.le_of_ble_eq_true rfl) rfl dX5_isSame_388 ⟨rfl, rfl⟩ ⟨by show 10 + (t * 8 + h) + 1 ≤ 60; omega, by show 54 + 8 * (t * 8 + h) + 8 ≤ 400; omega⟩ rfl ?_
        refine g_iast (q := 392) C 7 rfl (by decide) (by decide) dX5_isSame_391 (hU_s _ _ _) rfl ?_
        rw [hU_2]
        obtain ⟨fd, hfd⟩ : ∃ f8, f8 = (upd (upd (upd (upd (upd (upd (upd (upd (fun _ => 0) 0 (f9 0)) 1 (f9 1)) 2 (f9 2)) 3 ((f9 1 + f9 2) / 2)) 4 (f9 3)) 5 (f9 4)) 6 (nrS 0 (sB S) (t * 8 + h) 2)) 7 (nrS 1 (sB S) (t * 8 + h) 2)) := ⟨_, rfl⟩
        rw [← hfd]
        have hd := due_s tk8 hfd q0 q1 q2 hwt q3 q4 (nrS_0 _ _) (nrS_1 _ _)
        have hs7 := hs6.new (e := aI Γ 8 fd) e_d
        have hk7 := hs7.1
        have hL7 := hLt.kp hk7 rfl rfl rfl rfl rfl rfl ⟨rfl, rfl⟩ rfl
        obtain ⟨_, _, _, _, _, _, _, _, _, _, _, _, _, hLq7⟩ := id hL7
        obtain ⟨M7, hM7⟩ : ∃ Mz, Mz = hU M6 d (aI Γ 8 fd) := ⟨_, rfl⟩
        refine g_eqw (M1 := M7) hM7.symm ?_
        have hd7 : M7 d = some (true, aI Γ 8 fd) := by rw [hM7]; exact hU_s _ _ _
        rw [← hM7] at hs7 hk7 hL7 hLq7
        refine g_astore10 (q := 394) C dX5_isSame_392 (by first | exact hRef_r _ | exact hRef_o _ | exact hRef_n) (by first | rfl | exact hNw_rf _) rfl ?_
        refine g_iconst (q := 395) (0) C dX5_isSame_394 (by decide) rfl ?_
        refine g_istore11 (q := 397) C dX5_isSame_395 (by first | rfl | exact hNw_rf _) rfl ?_
        refine h_loopU (P := fun w => hG Γ k9 (hA M0 (kS k9).heap.size) (hEnd Γ k9 M0 (hpI (fun a _ => a = 1)) rm_X5_isSame.cells rm_X5_isSame.slots) M7 (10 + (t * 8 + h) + 1) (54 + 8 * (t * 8 + h) + 8) 397 [some (.ref y), some (.ref x), some (.ref b1), o3, o4, some (.ref b3), some (.ref b4), some (.int (nI t)), some (.int (nI h)), some (va_rf (some y_275)), some (.ref d), some (.int (nI w))] []) (N := 8) (fun w hw ihw => ?_) 0 (Nat.zero_le _)
        refine g_iload (q := 399) C dX5_isSame_397 rfl rfl ?_
        refine g_bipush (q := 401) (8) C dX5_isSame_399 (by decide) rfl ?_
        refine g_icmp_ge (t := 430) (q := 404) C dX5_isSame_401 (by decide) rfl (fun c_401 => ?_) (fun c_401 => ?_)
        · skip
          have hNw := nI_ge_eq hw (by omega) c_401
          refine g_iconst (q := 431) (0) C dX5_isSame_430 (by decide) rfl ?_
          refine g_istore11 (q := 433) C dX5_isSame_431 (by first | rfl | exact hNw_rf _) rfl ?_
          refine h_loopU (P := fun o => ∀ (M8 : hM) (ff8 : Nat → Int32), isS Γ M0 M8 S b1 b3 b4 sf g ar F6 ff8 → (∀ o2, o2 < o → ff8 o2 = fFit (sB S) (some (sW S o2)) (sD S o2) (t * 8 + h) (ff6 o2)) → (∀ o2, o ≤ o2 → ff8 o2 = ff6 o2) → hG Γ k9 (hA M0 (kS k9).heap.size) (hEnd Γ k9 M0 (hpI (fun a _ => a = 1)) rm_X5_isSame.cells rm_X5_isSame.slots) M8 (10 + (t * 8 + h) + 1) (54 + 8 * (t * 8 + h) + 8) 433 [some (.ref y), some (.ref x), some (.ref b1), o3, o4, some (.ref b3), some (.ref b4), some (.int (nI t)), some (.int (nI h)), some (va_rf (some y_275)), some (.ref d), some (.int (nI o))] []) (N := sO S) (fun o ho iho => ?_) 0 (Nat.zero_le _) M7 ff6 hs7 (fun o2 h2 => absurd h2 (Nat.not_lt_zero _)) (fun _ _ => rfl)
          intro M8 ff8 hs8 hfa hfb
          obtain ⟨hk8, m2, m3, m4, m5, m6, m7, m8, m9, m10, m11⟩ := id hs8
          have hQ8 := hQ.kp hk8 simK_all hn6 ho6
          refine g_iload (q := 435) C dX5_isSame_433 rfl rfl ?_
          refine g_aload_n (q := 436) C dX5_isSame_435 rfl (by first | exact hRef_r _ | exact hRef_o _ | exact hRef_n) rfl ?_
          refine g_get (q := 439) C hcl_X5 4 (by decide) qw_642 rfl dX5_isSame_436 (by exact hk8 _ _ _ pX rfl) rfl rfl ?_
          refine g_alenR (q := 440) C dX5_isSame_439 (hk8 _ _ _ ga rfl) rfl ?_
          refine g_icmp_ge (t := 478) (q := 443) C dX5_isSame_440 (by decide) rfl (fun c_440 => ?_) (fun c_440 => ?_)
          · skip
            have hNo := nI_ge_eq ho (by omega) c_440
            rw [hNo] at hfa
            refine g_aload (q := 480) C dX5_isSame_478 rfl (by first | exact hRef_r _ | exact hRef_o _ | exact hRef_n) rfl ?_
            refine g_ifnonnullR (t := 486) C dX5_isSame_480 (by decide) ?_
            have hkr : ∀ f2 : Nat → Int32, hKp (fun _ => true) M0 (hU M8 (ar j9) (aI Γ 5 f2)) := fun f2 => (hs8.row hj9 f2).1
            have hmr : ∀ f2 : Nat → Int32, hU M8 (ar j9) (aI Γ 5 f2) y_275 = some (true, aI Γ 5 f9) := fun f2 => hkr f2 _ _ _ hm9 rfl
            refine g_aload (q := 488) C dX5_isSame_486 rfl (by first | exact hRef_r _ | exact hRef_o _ | exact hRef_n) rfl ?_
            refine g_aload (q := 490) C dX5_isSame_488 rfl (by first | exact hRef_r _ | exact hRef_o _ | exact hRef_n) rfl ?_
            refine g_iconst (q := 491) (0) C dX5_isSame_490 (by decide) rfl ?_
            refine g_iald (q := 492) C 0 rfl (by decide) (by decide) dX5_isSame_491 (hk8 _ _ _ hm9 rfl) rfl ?_
            refine g_aaldR (q := 493) C j9 q0 hj9 (by omega) dX5_isSame_492 (m3) (congrArg va_rf (m4 j9 hj9)) rfl ?_
            refine g_astore11 (q := 495) C dX5_isSame_493 (by first | exact hRef_r _ | exact hRef_o _ | exact hRef_n) (by first | rfl | exact hNw_rf _) rfl ?_
            refine g_aload (q := 497) C dX5_isSame_495 rfl (by first | exact hRef_r _ | exact hRef_o _ | exact hRef_n) rfl ?_
            refine g_iconst (q := 498) (2) C dX5_isSame_497 (by decide) rfl ?_
            refine g_dup2 (q := 499) C dX5_isSame_498 rfl rfl rfl ?_
            refine g_iald (q := 500) C 2 rfl (by decide) (by decide) dX5_isSame_499 (m5 j9 hj9) rfl ?_
            refine g_iconst (q := 501) (1) C dX5_isSame_500 (by decide) rfl ?_
            refine g_iadd (q := 502) C dX5_isSame_501 rfl ?_
            refine g_iast (q := 503) C 2 rfl (by decide) (by decide) dX5_isSame_502 (m5 j9 hj9) rfl ?_
            refine g_aload (q := 505) C dX5_isSame_503 rfl (by first | exact hRef_r _ | exact hRef_o _ | exact hRef_n) rfl ?_
            refine g_iconst (q := 506) (4) C dX5_isSame_505 (by decide) rfl ?_
            refine g_iald (q := 507) C 4 rfl (by decide) (by decide) dX5_isSame_506 (hmr _) rfl ?_
            refine g_if_le (t := 521) (q := 510) C dX5_isSame_507 (by decide) rfl (fun c_507 => ?_) (fun c_507 => ?_)
            · skip
              have hmd : ¬ 0 < (sB S (t * 8 + h)).2.2.2.2 := by rw [← q4]; exact Int32.not_lt.mpr c_507
              refine g_aload (q := 523) C dX5_isSame_521 rfl (by first | exact hRef_r _ | exact hRef_o _ | exact hRef_n) rfl ?_
              refine g_iconst (q := 524) (4) C dX5_isSame_523 (by decide) rfl ?_
              refine g_iald (q := 525) C 4 rfl (by decide) (by decide) dX5_isSame_524 (hU_s _ _ _) rfl ?_
              refine g_if_lt (t := 540) (q := 528) C dX5_isSame_525 (by decide) rfl (fun c_525 => ?_) (fun c_525 => ?_)
              · skip
                refine g_aload (q := 542) C dX5_isSame_540 rfl (by first | exact hRef_r _ | exact hRef_o _ | exact hRef_n) rfl ?_
                refine g_iconst (q := 543) (4) C dX5_isSame_542 (by decide) rfl ?_
                refine g_aload (q := 545) C dX5_isSame_543 rfl (by first | exact hRef_r _ | exact hRef_o _ | exact hRef_n) rfl ?_
                refine g_callS1P (q := 548) C hy_X5_wet (c_X5_wet Γ l (hmr _) (by decide) (by decide)) qw_473 ⟨Nat.le_of_ble_eq_true rfl, Nat.le_of_ble_eq_true rfl⟩ (Nat.le_of_ble_eq_true rfl) rfl dX5_isSame_545 ⟨rfl, rfl⟩ ⟨by show 10 + (t * 8 + h) + 1 ≤ 60; omega, by show 54 + 8 * (t * 8 + h) + 8 ≤ 400; omega⟩ rfl ?_
                refine g_iast (q := 549) C 4 rfl (by decide) (by decide) dX5_isSame_548 (hU_s _ _ _) rfl ?_
                rw [hU_2]
                refine g_iinc8 (q := 552) (1) C dX5_isSame_549 (by decide) (by first | rfl | exact hNw_rf _) rfl ?_
                refine g_goto (t := 254) C dX5_isSame_552 (by decide) ?_
                rw [nI_1]
                refine g_widen (n' := 10 + (t * 8 + (h + 1))) (z' := 54 + 8 * (t * 8 + (h + 1))) (by omega) (by omega) ?_
                refine ihh hlth _ _ _ _ _ _ (hs8.row hj9 _) (hv6.some tk8 hj9 (fun o ho => hfa o ho) ?_ ?_ ?_ ?_ ?_)
                · rw [pk_un (by decide), pk_un (by decide)]
                · rw [pk_un (by decide), pk_un (by decide)]
                · rw [pk_un (by decide), pk_us]
                · rw [pk_un (by decide), pk_un (by decide), if_neg hmd]
                · rw [pk_un (by decide)] at c_525
                  rw [pk_us, if_neg hmd, if_pos c_525, hwt]
              · skip
                refine g_aload (q := 530) C dX5_isSame_528 rfl (by first | exact hRef_r _ | exact hRef_o _ | exact hRef_n) rfl ?_
                refine g_callS1P (q := 533) C hy_X5_wet (c_X5_wet Γ l (hmr _) (by decide) (by decide)) qw_473 ⟨Nat.le_of_ble_eq_true rfl, Nat.le_of_ble_eq_true rfl⟩ (Nat.le_of_ble_eq_true rfl) rfl dX5_isSame_530 ⟨rfl, rfl⟩ ⟨by show 10 + (t * 8 + h) + 1 ≤ 60; omega, by show 54 + 8 * (t * 8 + h) + 8 ≤ 400; omega⟩ rfl ?_
                refine g_aload (q := 535) C dX5_isSame_533 rfl (by first | exact hRef_r _ | exact hRef_o _ | exact hRef_n) rfl ?_
                refine g_iconst (q := 536) (4) C dX5_isSame_535 (by decide) rfl ?_
                refine g_iald (q := 537) C 4 rfl (by decide) (by decide) dX5_isSame_536 (hU_s _ _ _) rfl ?_
                refine g_icmp_ge (t := 549) (q := 540) C dX5_isSame_537 (by decide) rfl (fun c_537 => ?_) (fun c_537 => ?_)
                · skip
                  refine g_iinc8 (q := 552) (1) C dX5_isSame_549 (by decide) (by first | rfl | exact hNw_rf _) rfl ?_
                  refine g_goto (t := 254) C dX5_isSame_552 (by decide) ?_
                  rw [nI_1]
                  refine g_widen (n' := 10 + (t * 8 + (h + 1))) (z' := 54 + 8 * (t * 8 + (h + 1))) (by omega) (by omega) ?_
                  refine ihh hlth _ _ _ _ _ _ (hs8.row hj9 _) (hv6.some tk8 hj9 (fun o ho => hfa o ho) ?_ ?_ ?_ ?_ ?_)
                  · rw [pk_un (by decide)]
                  · rw [pk_un (by decide)]
                  · rw [pk_us]
                  · rw [pk_un (by decide), if_neg hmd]
                  · rw [pk_un (by decide)] at c_525 c_537
                    rw [pk_un (by decide), if_neg hmd, if_neg (Int32.not_lt.mpr (Int32.not_lt.mp c_525)), if_pos (by rw [hwt] at c_537; exact c_537)]
                · skip
                  refine g_aload (q := 542) C dX5_isSame_540 rfl (by first | exact hRef_r _ | exact hRef_o _ | exact hRef_n) rfl ?_
                  refine g_iconst (q := 543) (4) C dX5_isSame_542 (by decide) rfl ?_
                  refine g_aload (q := 545) C dX5_isSame_543 rfl (by first | exact hRef_r _ | exact hRef_o _ | exact hRef_n) rfl ?_
                  refine g_callS1P (q := 548) C hy_X5_wet (c_X5_wet Γ l (hmr _) (by decide) (by decide)) qw_473 ⟨Nat.le_of_ble_eq_true rfl, Nat.le_of_ble_eq_true rfl⟩ (Nat.le_of_ble_eq_true rfl) rfl dX5_isSame_545 ⟨rfl, rfl⟩ ⟨by show 10 + (t * 8 + h) + 1 ≤ 60; omega, by show 54 + 8 * (t * 8 + h) + 8 ≤ 400; omega⟩ rfl ?_
                  refine g_iast (q := 549) C 4 rfl (by decide) (by decide) dX5_isSame_548 (hU_s _ _ _) rfl ?_
                  rw [hU_2]
                  refine g_iinc8 (q := 552) (1) C dX5_isSame_549 (by decide) (by first | rfl | exact hNw_rf _) rfl ?_
                  refine g_goto (t := 254) C dX5_isSame_552 (by decide) ?_
                  rw [nI_1]
                  refine g_widen (n' := 10 + (t * 8 + (h + 1))) (z' := 54 + 8 * (t * 8 + (h + 1))) (by omega) (by omega) ?_
                  refine ihh hlth _ _ _ _ _ _ (hs8.row hj9 _) (hv6.some tk8 hj9 (fun o ho => hfa o ho) ?_ ?_ ?_ ?_ ?_)
                  · rw [pk_un (by decide), pk_un (by decide)]
                  · rw [pk_un (by decide), pk_un (by decide)]
                  · rw [pk_un (by decide), pk_us]
                  · rw [pk_un (by decide), pk_un (by decide), if_neg hmd]
                  · rw [pk_un (by decide)] at c_525 c_537
                    rw [pk_us, if_neg hmd, if_neg c_525, if_neg (by rw [hwt] at c_537; exact c_537), hwt]
            · skip
              have hmd : 0 < (sB S (t * 8 + h)).2.2.2.2 := by rw [← q4]; exact Int32.not_le.mp c_507
              refine g_aload (q := 512) C dX5_isSame_510 rfl (by first | exact hRef_r _ | exact hRef_o _ | exact hRef_n) rfl ?_
              refine g_iconst (q := 513) (3) C dX5_isSame_512 (by decide) rfl ?_
              refine g_dup2 (q := 514) C dX5_isSame_513 rfl rfl rfl ?_
              refine g_iald (q := 515) C 3 rfl (by decide) (by decide) dX5_isSame_514 (hU_s _ _ _) rfl ?_
              refine g_iconst (q := 516) (1) C dX5_isSame_515 (by decide) rfl ?_
              refine g_iadd (q := 517) C dX5_isSame_516 rfl ?_
              refine g_iast (q := 518) C 3 rfl (by decide) (by decide) dX5_isSame_517 (hU_s _ _ _) rfl ?_
              rw [hU_2]
              refine g_goto (t := 549) C dX5_isSame_518 (by decide) ?_
              refine g_iinc8 (q := 552) (1) C dX5_isSame_549 (by decide) (by first | rfl | exact hNw_rf _) rfl ?_
              refine g_goto (t := 254) C dX5_isSame_552 (by decide) ?_
              rw [nI_1]
              refine g_widen (n' := 10 + (t * 8 + (h + 1))) (z' := 54 + 8 * (t * 8 + (h + 1))) (by omega) (by omega) ?_
              refine ihh hlth _ _ _ _ _ _ (hs8.row hj9 _) (hv6.some tk8 hj9 (fun o ho => hfa o ho) ?_ ?_ ?_ ?_ ?_)
              · rw [pk_un (by decide), pk_un (by decide)]
              · rw [pk_un (by decide), pk_un (by decide)]
              · rw [pk_un (by decide), pk_us]
              · rw [pk_us, pk_un (by decide), if_pos hmd]
              · rw [pk_un (by decide), pk_un (by decide), if_pos hmd]
          · skip
            have hlto := nI_nge_lt ho (by omega) c_440
            obtain ⟨z1, fo, z2, z3, z4, z5, z6⟩ := gb o hlto
            obtain ⟨fb, hfb1, hfb2⟩ := pB.ff hix
            have hfit := pB.fit hix hfb2 (fun j hj => by have := ((hI.2.2.2.1 _ hix).tk hj).1; omega) (show sW S o < 6 by have := (hI.2.2.2.2 o hlto).1; omega) (dr := fo 2) z3
            rw [z5] at hfit
            refine g_aload (q := 445) C dX5_isSame_443 rfl (by first | exact hRef_r _ | exact hRef_o _ | exact hRef_n) rfl ?_
            refine g_iload (q := 447) C dX5_isSame_445 rfl rfl ?_
            refine g_dup2 (q := 448) C dX5_isSame_447 rfl rfl rfl ?_
            refine g_iald (q := 449) C o rfl hlto (by omega) dX5_isSame_448 (m8) rfl ?_
            refine g_aload_n (q := 450) C dX5_isSame_449 rfl (by first | exact hRef_r _ | exact hRef_o _ | exact hRef_n) rfl ?_
            refine g_aload (q := 452) C dX5_isSame_450 rfl (by first | exact hRef_r _ | exact hRef_o _ | exact hRef_n) rfl ?_
            refine g_aload_n (q := 453) C dX5_isSame_452 rfl (by first | exact hRef_r _ | exact hRef_o _ | exact hRef_n) rfl ?_
            refine g_get (q := 456) C hcl_X5 4 (by decide) qw_642 rfl dX5_isSame_453 (by exact hk8 _ _ _ pX rfl) rfl rfl ?_
            refine g_iload (q := 458) C dX5_isSame_456 rfl rfl ?_
            refine g_aaldR (q := 459) C o rfl hlto (by omega) dX5_isSame_458 (hk8 _ _ _ ga rfl) (congrArg va_rf z1) rfl ?_
            refine g_callV2P (q := 462) C hy_X5_fits (c_X5_fits Γ l (x := y) (o := some y_275) (f := fb) (fun a q => hk8 _ _ _ (hfb1 a (e_275.trans q)) rfl) (hk8 _ _ _ z2 rfl)) qw_482 (by exact hk8 _ _ _ pX rfl) rfl ⟨Nat.le_of_ble_eq_true rfl, Nat.le_of_ble_eq_true rfl⟩ (Nat.le_of_ble_eq_true rfl) rfl dX5_isSame_459 ⟨rfl, rfl⟩ ⟨by show 10 + (t * 8 + h) + 1 ≤ 60; omega, by show 54 + 8 * (t * 8 + h) + 8 ≤ 400; omega⟩ rfl ?_
            rw [show ((some y_275 : Option Nat).isSome && (decide (fb 0 = fo 0) && (decide ((fb 1 + fb 2) / 2 ≤ fo 2) && decide (fb 4 = 0)))) = bFit (sB S (t * 8 + h)) (some (sW S o)) (sD S o) by rw [z5, ← e_275]; exact hfit]
            refine g_ifB_eq (t := 469) (q := 465) C dX5_isSame_462 (by decide) rfl (fun c_462 => ?_) (fun c_462 => ?_)
            · skip
              refine g_iconst (q := 470) (0) C dX5_isSame_469 (by decide) rfl ?_
              refine g_iadd (q := 471) C dX5_isSame_470 rfl ?_
              refine g_iast (q := 472) C o rfl hlto (by omega) dX5_isSame_471 (m8) rfl ?_
              refine g_iinc11 (q := 475) (1) C dX5_isSame_472 (by decide) (by first | rfl | exact hNw_rf _) rfl ?_
              refine g_goto (t := 433) C dX5_isSame_475 (by decide) ?_
              rw [nI_1]
              have hst : ff8 o + 0 = fFit (sB S) (some (sW S o)) (sD S o) (t * 8 + h) (ff6 o) := by
                rw [hfb o (Nat.le_refl o)]
                unfold fFit
                rw [c_462]
                exact Int32.add_zero _
              refine iho hlto _ _ (hs8.fit (upd ff8 o (ff8 o + 0))) (fun o2 h2 => ?_) (fun o2 h2 => ?_)
              · by_cases q : o2 = o
                · subst q; rw [pk_us]; exact hst
                · rw [pk_un q]; exact hfa o2 (by omega)
              · rw [pk_un (by omega)]; exact hfb o2 (by omega)
            · skip
              refine g_iconst (q := 466) (1) C dX5_isSame_465 (by decide) rfl ?_
              refine g_goto (t := 470) C dX5_isSame_466 (by decide) ?_
              refine g_iadd (q := 471) C dX5_isSame_470 rfl ?_
              refine g_iast (q := 472) C o rfl hlto (by omega) dX5_isSame_471 (m8) rfl ?_
              refine g_iinc11 (q := 475) (1) C dX5_isSame_472 (by decide) (by first | rfl | exact hNw_rf _) rfl ?_
              refine g_goto (t := 433) C dX5_isSame_475 (by decide) ?_
              rw [nI_1]
              have hst : ff8 o + 1 = fFit (sB S) (some (sW S o)) (sD S o) (t * 8 + h) (ff6 o) := by
                rw [hfb o (Nat.le_refl o)]
                unfold fFit
                rw [c_462]
                rfl
              refine iho hlto _ _ (hs8.fit (upd ff8 o (ff8 o + 1))) (fun o2 h2 => ?_) (fun o2 h2 => ?_)
              · by_cases q : o2 = o
                · subst q; rw [pk_us]; exact hst
                · rw [pk_un q]; exact hfa o2 (by omega)
              · rw [pk_un (by omega)]; exact hfb o2 (by omega)
        · skip
          have hltw := nI_nge_lt hw (by omega) c_401
          refine g_aload_n (q := 405) C dX5_isSame_404 rfl (by first | exact hRef_r _ | exact hRef_o _ | exact hRef_n) rfl ?_
          refine g_iload (q := 407) C dX5_isSame_405 rfl rfl ?_
          refine g_iload (q := 409) C dX5_isSame_407 rfl rfl ?_
          refine g_iload (q := 411) C dX5_isSame_409 rfl rfl ?_
          refine g_callV3P (q := 414) C hy_X4_told (c_X4_told_n Γ l (nI t) (nI h) (nI w) hL7 hI.inv (by rw [sTold_8 hltt hlth hltw])) qw_496 (by exact hLq7.1) rfl ⟨Nat.le_of_ble_eq_true rfl, Nat.le_of_ble_eq_true rfl⟩ (Nat.le_of_ble_eq_true rfl) rfl dX5_isSame_411 ⟨rfl, rfl⟩ ⟨by show 10 + (t * 8 + h) + 1 ≤ 60; omega, by show 54 + 8 * (t * 8 + h) + 8 ≤ 400; omega⟩ rfl ?_
          refine g_aload (q := 416) C dX5_isSame_414 rfl (by first | exact hRef_r _ | exact hRef_o _ | exact hRef_n) rfl ?_
          refine g_iload (q := 418) C dX5_isSame_416 rfl rfl ?_
          refine g_iald (q := 419) C w rfl hltw (by decide) dX5_isSame_418 (hd7) rfl ?_
          refine g_icmp_eq (t := 424) (q := 422) C dX5_isSame_419 (by decide) rfl (fun c_419 => ?_) (fun c_419 => ?_)
          · skip
            refine g_iinc11 (q := 427) (1) C dX5_isSame_424 (by decide) (by first | rfl | exact hNw_rf _) rfl ?_
            refine g_goto (t := 397) C dX5_isSame_427 (by decide) ?_
            rw [nI_1]
            exact ihw hltw
          · skip
            exact absurd (by rw [sTold_8 hltt hlth hltw]; exact (hd w hltw).symm) c_419
      · skip
        have hb9 : (sB S (t * 8 + h)).1 = none := pB.2.1 _ hix e_275
        rw [e_275]
        refine g_bipush (q := 280) (8) C dX5_isSame_278 (by decide) rfl ?_
        refine g_newI (q := 282) C qw_476 (N := 8) rfl (by decide) (by show 10 + (t * 8 + h) + 1 ≤ 60; omega) (by show 54 + 8 * (t * 8 + h) + 8 ≤ 400; omega) dX5_isSame_280 rfl (fun d e_d => ?_)
        refine g_dup (q := 283) C dX5_isSame_282 rfl rfl ?_
        refine g_iconst (q := 284) (0) C dX5_isSame_283 (by decide) rfl ?_
        refine g_iconst (q := 285) (-1) C dX5_isSame_284 (by decide) rfl ?_
        refine g_iast (q := 286) C 0 rfl (by decide) (by decide) dX5_isSame_285 (hU_s _ _ _) rfl ?_
        rw [hU_2]
        refine g_dup (q := 287) C dX5_isSame_286 rfl rfl ?_
        refine g_iconst (q := 288) (1) C dX5_isSame_287 (by decide) rfl ?_
        refine g_iconst (q := 289) (-1) C dX5_isSame_288 (by decide) rfl ?_
        refine g_iast (q := 290) C 1 rfl (by decide) (by decide) dX5_isSame_289 (hU_s _ _ _) rfl ?_
        rw [hU_2]
        refine g_dup (q := 291) C dX5_isSame_290 rfl rfl ?_
        refine g_iconst (q := 292) (2) C dX5_isSame_291 (by decide) rfl ?_
        refine g_iconst (q := 293) (-1) C dX5_isSame_292 (by decide) rfl ?_
        refine g_iast (q := 294) C 2 rfl (by decide) (by decide) dX5_isSame_293 (hU_s _ _ _) rfl ?_
        rw [hU_2]
        refine g_dup (q := 295) C dX5_isSame_294 rfl rfl ?_
        refine g_iconst (q := 296) (3) C dX5_isSame_295 (by decide) rfl ?_
        refine g_iconst (q := 297) (-1) C dX5_isSame_296 (by decide) rfl ?_
        refine g_iast (q := 298) C 3 rfl (by decide) (by decide) dX5_isSame_297 (hU_s _ _ _) rfl ?_
        rw [hU_2]
        refine g_dup (q := 299) C dX5_isSame_298 rfl rfl ?_
        refine g_iconst (q := 300) (4) C dX5_isSame_299 (by decide) rfl ?_
        refine g_iconst (q := 301) (-1) C dX5_isSame_300 (by decide) rfl ?_
        refine g_iast (q := 302) C 4 rfl (by decide) (by decide) dX5_isSame_301 (hU_s _ _ _) rfl ?_
        rw [hU_2]
        refine g_dup (q := 303) C dX5_isSame_302 rfl rfl ?_
        refine g_iconst (q := 304) (5) C dX5_isSame_303 (by decide) rfl ?_
        refine g_iconst (q := 305) (-1) C dX5_isSame_304 (by decide) rfl ?_
        refine g_iast (q := 306) C 5 rfl (by decide) (by decide) dX5_isSame_305 (hU_s _ _ _) rfl ?_
        rw [hU_2]
        refine g_dup (q := 307) C dX5_isSame_306 rfl rfl ?_
        refine g_bipush (q := 309) (6) C dX5_isSame_307 (by decide) rfl ?_
        refine g_iconst (q := 310) (-1) C dX5_isSame_309 (by decide) rfl ?_
        refine g_iast (q := 311) C 6 rfl (by decide) (by decide) dX5_isSame_310 (hU_s _ _ _) rfl ?_
        rw [hU_2]
        refine g_dup (q := 312) C dX5_isSame_311 rfl rfl ?_
        refine g_bipush (q := 314) (7) C dX5_isSame_312 (by decide) rfl ?_
        refine g_iconst (q := 315) (-1) C dX5_isSame_314 (by decide) rfl ?_
        refine g_iast (q := 316) C 7 rfl (by decide) (by decide) dX5_isSame_315 (hU_s _ _ _) rfl ?_
        rw [hU_2]
        refine g_goto (t := 392) C dX5_isSame_316 (by decide) ?_
        obtain ⟨fd, hfd⟩ : ∃ f8, f8 = (upd (upd (upd (upd (upd (upd (upd (upd (fun _ => 0) 0 (-1)) 1 (-1)) 2 (-1)) 3 (-1)) 4 (-1)) 5 (-1)) 6 (-1)) 7 (-1)) := ⟨_, rfl⟩
        rw [← hfd]
        have hd := due_n hb9 hfd
        have hs7 := hs6.new (e := aI Γ 8 fd) e_d
        have hk7 := hs7.1
        have hL7 := hLt.kp hk7 rfl rfl rfl rfl rfl rfl ⟨rfl, rfl⟩ rfl
        obtain ⟨_, _, _, _, _, _, _, _, _, _, _, _, _, hLq7⟩ := id hL7
        obtain ⟨M7, hM7⟩ : ∃ Mz, Mz = hU M6 d (aI Γ 8 fd) := ⟨_, rfl⟩
        refine g_eqw (M1 := M7) hM7.symm ?_
        have hd7 : M7 d = some (true, aI Γ 8 fd) := by rw [hM7]; exact hU_s _ _ _
        rw [← hM7] at hs7 hk7 hL7 hLq7
        refine g_astore10 (q := 394) C dX5_isSame_392 (by first | exact hRef_r _ | exact hRef_o _ | exact hRef_n) (by first | rfl | exact hNw_rf _) rfl ?_
        refine g_iconst (q := 395) (0) C dX5_isSame_394 (by decide) rfl ?_
        refine g_istore11 (q := 397) C dX5_isSame_395 (by first | rfl | exact hNw_rf _) rfl ?_
        refine h_loopU (P := fun w => hG Γ k9 (hA M0 (kS k9).heap.size) (hEnd Γ k9 M0 (hpI (fun a _ => a = 1)) rm_X5_isSame.cells rm_X5_isSame.slots) M7 (10 + (t * 8 + h) + 1) (54 + 8 * (t * 8 + h) + 8) 397 [some (.ref y), some (.ref x), some (.ref b1), o3, o4, some (.ref b3), some (.ref b4), some (.int (nI t)), some (.int (nI h)), some (va_rf none), some (.ref d), some (.int (nI w))] []) (N := 8) (fun w hw ihw => ?_) 0 (Nat.zero_le _)
        refine g_iload (q := 399) C dX5_isSame_397 rfl rfl ?_
        refine g_bipush (q := 401) (8) C dX5_isSame_399 (by decide) rfl ?_
        refine g_icmp_ge (t := 430) (q := 404) C dX5_isSame_401 (by decide) rfl (fun c_401 => ?_) (fun c_401 => ?_)
        · skip
          have hNw := nI_ge_eq hw (by omega) c_401
          refine g_iconst (q := 431) (0) C dX5_isSame_430 (by decide) rfl ?_
          refine g_istore11 (q := 433) C dX5_isSame_431 (by first | rfl | exact hNw_rf _) rfl ?_
          refine h_loopU (P := fun o => ∀ (M8 : hM) (ff8 : Nat → Int32), isS Γ M0 M8 S b1 b3 b4 sf g ar F6 ff8 → (∀ o2, o2 < o → ff8 o2 = fFit (sB S) (some (sW S o2)) (sD S o2) (t * 8 + h) (ff6 o2)) → (∀ o2, o ≤ o2 → ff8 o2 = ff6 o2) → hG Γ k9 (hA M0 (kS k9).heap.size) (hEnd Γ k9 M0 (hpI (fun a _ => a = 1)) rm_X5_isSame.cells rm_X5_isSame.slots) M8 (10 + (t * 8 + h) + 1) (54 + 8 * (t * 8 + h) + 8) 433 [some (.ref y), some (.ref x), some (.ref b1), o3, o4, some (.ref b3), some (.ref b4), some (.int (nI t)), some (.int (nI h)), some (va_rf none), some (.ref d), some (.int (nI o))] []) (N := sO S) (fun o ho iho => ?_) 0 (Nat.zero_le _) M7 ff6 hs7 (fun o2 h2 => absurd h2 (Nat.not_lt_zero _)) (fun _ _ => rfl)
          intro M8 ff8 hs8 hfa hfb
          obtain ⟨hk8, m2, m3, m4, m5, m6, m7, m8, m9, m10, m11⟩ := id hs8
          have hQ8 := hQ.kp hk8 simK_all hn6 ho6
          refine g_iload (q := 435) C dX5_isSame_433 rfl rfl ?_
          refine g_aload_n (q := 436) C dX5_isSame_435 rfl (by first | exact hRef_r _ | exact hRef_o _ | exact hRef_n) rfl ?_
          refine g_get (q := 439) C hcl_X5 4 (by decide) qw_642 rfl dX5_isSame_436 (by exact hk8 _ _ _ pX rfl) rfl rfl ?_
          refine g_alenR (q := 440) C dX5_isSame_439 (hk8 _ _ _ ga rfl) rfl ?_
          refine g_icmp_ge (t := 478) (q := 443) C dX5_isSame_440 (by decide) rfl (fun c_440 => ?_) (fun c_440 => ?_)
          · skip
            have hNo := nI_ge_eq ho (by omega) c_440
            rw [hNo] at hfa
            refine g_aload (q := 480) C dX5_isSame_478 rfl (by first | exact hRef_r _ | exact hRef_o _ | exact hRef_n) rfl ?_
            refine g_ifnonnullN (q := 483) C dX5_isSame_480 rfl ?_
            refine g_goto (t := 549) C dX5_isSame_483 (by decide) ?_
            refine g_iinc8 (q := 552) (1) C dX5_isSame_549 (by decide) (by first | rfl | exact hNw_rf _) rfl ?_
            refine g_goto (t := 254) C dX5_isSame_552 (by decide) ?_
            rw [nI_1]
            refine g_widen (n' := 10 + (t * 8 + (h + 1))) (z' := 54 + 8 * (t * 8 + (h + 1))) (by omega) (by omega) ?_
            exact ihh hlth _ _ _ _ _ _ hs8 (hv6.none hb9 (fun o ho => hfa o ho))
          · skip
            have hlto := nI_nge_lt ho (by omega) c_440
            obtain ⟨z1, fo, z2, z3, z4, z5, z6⟩ := gb o hlto
            obtain ⟨fb, hfb1, hfb2⟩ := pB.ff hix
            have hfit := pB.fit hix hfb2 (fun j hj => by have := ((hI.2.2.2.1 _ hix).tk hj).1; omega) (show sW S o < 6 by have := (hI.2.2.2.2 o hlto).1; omega) (dr := fo 2) z3
            rw [z5] at hfit
            refine g_aload (q := 445) C dX5_isSame_443 rfl (by first | exact hRef_r _ | exact hRef_o _ | exact hRef_n) rfl ?_
            refine g_iload (q := 447) C dX5_isSame_445 rfl rfl ?_
            refine g_dup2 (q := 448) C dX5_isSame_447 rfl rfl rfl ?_
            refine g_iald (q := 449) C o rfl hlto (by omega) dX5_isSame_448 (m8) rfl ?_
            refine g_aload_n (q := 450) C dX5_isSame_449 rfl (by first | exact hRef_r _ | exact hRef_o _ | exact hRef_n) rfl ?_
            refine g_aload (q := 452) C dX5_isSame_450 rfl (by first | exact hRef_r _ | exact hRef_o _ | exact hRef_n) rfl ?_
            refine g_aload_n (q := 453) C dX5_isSame_452 rfl (by first | exact hRef_r _ | exact hRef_o _ | exact hRef_n) rfl ?_
            refine g_get (q := 456) C hcl_X5 4 (by decide) qw_642 rfl dX5_isSame_453 (by exact hk8 _ _ _ pX rfl) rfl rfl ?_
            refine g_iload (q := 458) C dX5_isSame_456 rfl rfl ?_
            refine g_aaldR (q := 459) C o rfl hlto (by omega) dX5_isSame_458 (hk8 _ _ _ ga rfl) (congrArg va_rf z1) rfl ?_
            refine g_callV2P (q := 462) C hy_X5_fits (c_X5_fits Γ l (x := y) (o := none) (f := fb) (fun a q => hk8 _ _ _ (hfb1 a (e_275.trans q)) rfl) (hk8 _ _ _ z2 rfl)) qw_482 (by exact hk8 _ _ _ pX rfl) rfl ⟨Nat.le_of_ble_eq_true rfl, Nat.le_of_ble_eq_true rfl⟩ (Nat.le_of_ble_eq_true rfl) rfl dX5_isSame_459 ⟨rfl, rfl⟩ ⟨by show 10 + (t * 8 + h) + 1 ≤ 60; omega, by show 54 + 8 * (t * 8 + h) + 8 ≤ 400; omega⟩ rfl ?_
            rw [show ((none : Option Nat).isSome && (decide (fb 0 = fo 0) && (decide ((fb 1 + fb 2) / 2 ≤ fo 2) && decide (fb 4 = 0)))) = bFit (sB S (t * 8 + h)) (some (sW S o)) (sD S o) by rw [z5, ← e_275]; exact hfit]
            refine g_ifB_eq (t := 469) (q := 465) C dX5_isSame_462 (by decide) rfl (fun c_462 => ?_) (fun c_462 => ?_)
            · skip
              refine g_iconst (q := 470) (0) C dX5_isSame_469 (by decide) rfl ?_
              refine g_iadd (q := 471) C dX5_isSame_470 rfl ?_
              refine g_iast (q := 472) C o rfl hlto (by omega) dX5_isSame_471 (m8) rfl ?_
              refine g_iinc11 (q := 475) (1) C dX5_isSame_472 (by decide) (by first | rfl | exact hNw_rf _) rfl ?_
              refine g_goto (t := 433) C dX5_isSame_475 (by decide) ?_
              rw [nI_1]
              have hst : ff8 o + 0 = fFit (sB S) (some (sW S o)) (sD S o) (t * 8 + h) (ff6 o) := by
                rw [hfb o (Nat.le_refl o)]
                unfold fFit
                rw [c_462]
                exact Int32.add_zero _
              refine iho hlto _ _ (hs8.fit (upd ff8 o (ff8 o + 0))) (fun o2 h2 => ?_) (fun o2 h2 => ?_)
              · by_cases q : o2 = o
                · subst q; rw [pk_us]; exact hst
                · rw [pk_un q]; exact hfa o2 (by omega)
              · rw [pk_un (by omega)]; exact hfb o2 (by omega)
            · skip
              refine g_iconst (q := 466) (1) C dX5_isSame_465 (by decide) rfl ?_
              refine g_goto (t := 470) C dX5_isSame_466 (by decide) ?_
              refine g_iadd (q := 471) C dX5_isSame_470 rfl ?_
              refine g_iast (q := 472) C o rfl hlto (by omega) dX5_isSame_471 (m8) rfl ?_
              refine g_iinc11 (q := 475) (1) C dX5_isSame_472 (by decide) (by first | rfl | exact hNw_rf _) rfl ?_
              refine g_goto (t := 433) C dX5_isSame_475 (by decide) ?_
              rw [nI_1]
              have hst : ff8 o + 1 = fFit (sB S) (some (sW S o)) (sD S o) (t * 8 + h) (ff6 o) := by
                rw [hfb o (Nat.le_refl o)]
                unfold fFit
                rw [c_462]
                rfl
              refine iho hlto _ _ (hs8.fit (upd ff8 o (ff8 o + 1))) (fun o2 h2 => ?_) (fun o2 h2 => ?_)
              · by_cases q : o2 = o
                · subst q; rw [pk_us]; exact hst
                · rw [pk_un q]; exact hfa o2 (by omega)
              · rw [pk_un (by omega)]; exact hfb o2 (by omega)
        · skip
          have hltw := nI_nge_lt hw (by omega) c_401
          refine g_aload_n (q := 405) C dX5_isSame_404 rfl (by first | exact hRef_r _ | exact hRef_o _ | exact hRef_n) rfl ?_
          refine g_iload (q := 407) C dX5_isSame_405 rfl rfl ?_
          refine g_iload (q := 409) C dX5_isSame_407 rfl rfl ?_
          refine g_iload (q := 411) C dX5_isSame_409 rfl rfl ?_
          refine g_callV3P (q := 414) C hy_X4_told (c_X4_told_n Γ l (nI t) (nI h) (nI w) hL7 hI.inv (by rw [sTold_8 hltt hlth hltw])) qw_496 (by exact hLq7.1) rfl ⟨Nat.le_of_ble_eq_true rfl, Nat.le_of_ble_eq_true rfl⟩ (Nat.le_of_ble_eq_true rfl) rfl dX5_isSame_411 ⟨rfl, rfl⟩ ⟨by show 10 + (t * 8 + h) + 1 ≤ 60; omega, by show 54 + 8 * (t * 8 + h) + 8 ≤ 400; omega⟩ rfl ?_
          refine g_aload (q := 416) C dX5_isSame_414 rfl (by first | exact hRef_r _ | exact hRef_o _ | exact hRef_n) rfl ?_
          refine g_iload (q := 418) C dX5_isSame_416 rfl rfl ?_
          refine g_iald (q := 419) C w rfl hltw (by decide) dX5_isSame_418 (hd7) rfl ?_
          refine g_icmp_eq (t := 424) (q := 422) C dX5_isSame_419 (by decide) rfl (fun c_419 => ?_) (fun c_419 => ?_)
          · skip
            refine g_iinc11 (q := 427) (1) C dX5_isSame_424 (by decide) (by first | rfl | exact hNw_rf _) rfl ?_
            refine g_goto (t := 397) C dX5_isSame_427 (by decide) ?_
            rw [nI_1]
            exact ihw hltw
          · skip
            exact absurd (by rw [sTold_8 hltt hlth hltw]; exact (hd w hltw).symm) c_419
