/-! ===== HerbLoft$Hook ===== -/
abbrev hB : Type := Option Nat × Int32 × Int32 × Int32 × Int32
def bTak (v : hB) : Bool := v.1.isSome
def bWet (v : hB) : Int32 := (v.2.1 + v.2.2.1) / 2
def mx0 (x : Int32) : Int32 := if 0 < x then x else 0
/-- at y hangs the bundle v, or none -/
def hAt (M : hM) (y : Nat) (v : hB) : Prop := ∃ (w : Bool) (s : Int32) (b a : Option Nat) (fo bs : Int32), M y = some (w, oHook s b a v.1 v.2.1 v.2.2.1 v.2.2.2.1 v.2.2.2.2 fo bs)
set_option maxRecDepth 100000 in
set_option maxHeartbeats 4000000 in
theorem c_X1_init (Γ : hGam) (l : Launch) {M : hM} {x : Nat} (p : Int32) (h0 : M x = some (true, oHook 0 none none none 0 0 0 0 0 0)) : hMet Γ l yX1_init cX1_init 2 none rm_X1_init [.ref x, .int p] M (hpV (fun M1 => M1 = hU M x (oHook p none none none 0 0 0 0 0 0))) := by
  refine hMet_of (by decide +kernel) (Nat.le_of_ble_eq_true rfl) (hCat_cons rfl (hCat_cons rfl hCat_nil)) (fun k C => ?_)
  show hG _ _ _ _ _ _ _ _ [some (.ref x), some (.int p)] _
  refine g_aload_n (q := 1) C dX1_init_0 rfl (by first | exact hRef_r _ | exact hRef_o _ | exact hRef_n) rfl ?_
  refine g_objInit (q := 4) C qw_77 qw_37 qw_38 rfl dX1_init_1 (by decide) (by decide) rfl ?_
  refine g_aload_n (q := 5) C dX1_init_4 rfl (by first | exact hRef_r _ | exact hRef_o _ | exact hRef_n) rfl ?_
  refine g_iload_n (q := 6) C dX1_init_5 rfl rfl ?_
  refine g_putF (q := 9) C hcl_X1 0 (by decide) qw_78 rfl rfl rfl rfl rfl rfl dX1_init_6 (by exact h0) (Nat.le_of_ble_eq_true rfl) rfl ?_
  (try rw [hU_2])
  exact g_vret C dX1_init_9 (rfl) (Nat.zero_le _) (Nat.zero_le _)
set_option maxRecDepth 100000 in
set_option maxHeartbeats 4000000 in
theorem c_X1_isTaken (Γ : hGam) (l : Launch) {M : hM} {x : Nat} {w : Bool} {s : Int32} {b a h : Option Nat} {f bk wd mo fo bs : Int32} (h0 : M x = some (w, oHook s b a h f bk wd mo fo bs)) : hMet Γ l yX1_isTaken cX1_isTaken 1 (some .boolean) rm_X1_isTaken [.ref x] M (hpP M (bI h.isSome)) := by
  refine hMet_of (by decide +kernel) (Nat.le_of_ble_eq_true rfl) (hCat_cons rfl hCat_nil) (fun k C => ?_)
  show hG _ _ _ _ _ _ _ _ [some (.ref x)] _
  refine g_aload_n (q := 1) C dX1_isTaken_0 rfl (by first | exact hRef_r _ | exact hRef_o _ | exact hRef_n) rfl ?_
  refine g_get (q := 4) C hcl_X1 3 (by decide) qw_84 rfl dX1_isTaken_1 (by exact h0) rfl rfl ?_
  refine g_ifnull (t := 11) (q := 7) C dX1_isTaken_4 (by decide) rfl (fun e_4 => ?_) (fun y_4 e_4 => ?_)
  · subst e_4
    refine g_iconst (q := 12) (0) C dX1_isTaken_11 (by decide) rfl ?_
    exact g_zret C dX1_isTaken_12 (by first | rfl | exact hNarB _) (⟨rfl, rfl⟩) (Nat.zero_le _) (Nat.zero_le _)
  · subst e_4
    refine g_iconst (q := 8) (1) C dX1_isTaken_7 (by decide) rfl ?_
    refine g_goto (t := 12) C dX1_isTaken_8 (by decide) ?_
    exact g_zret C dX1_isTaken_12 (by first | rfl | exact hNarB _) (⟨rfl, rfl⟩) (Nat.zero_le _) (Nat.zero_le _)
set_option maxRecDepth 100000 in
set_option maxHeartbeats 4000000 in
theorem c_X1_isTakenBy (Γ : hGam) (l : Launch) {M : hM} {x : Nat} {w : Bool} {s : Int32} {b a h : Option Nat} {f bk wd mo fo bs : Int32} (o : Option Nat) (h0 : M x = some (w, oHook s b a h f bk wd mo fo bs)) : hMet Γ l yX1_isTakenBy cX1_isTakenBy 2 (some .boolean) rm_X1_isTakenBy [.ref x, va_rf o] M (hpP M (bI (h.isSome && decide (h = o)))) := by
  refine hMet_of (by decide +kernel) (Nat.le_of_ble_eq_true rfl) (hCat_cons rfl (hCat_cons (hRef_o _).cat hCat_nil)) (fun k C => ?_)
  show hG _ _ _ _ _ _ _ _ [some (.ref x), some (va_rf o)] _
  refine g_aload_n (q := 1) C dX1_isTakenBy_0 rfl (by first | exact hRef_r _ | exact hRef_o _ | exact hRef_n) rfl ?_
  refine g_get (q := 4) C hcl_X1 3 (by decide) qw_84 rfl dX1_isTakenBy_1 (by exact h0) rfl rfl ?_
  refine g_ifnull (t := 19) (q := 7) C dX1_isTakenBy_4 (by decide) rfl (fun e_4 => ?_) (fun y_4 e_4 => ?_)
  · subst e_4
    refine g_iconst (q := 20) (0) C dX1_isTakenBy_19 (by decide) rfl ?_
    exact g_zret C dX1_isTakenBy_20 (by first | rfl | exact hNarB _) (⟨by first | rfl | (simp [bI, *]; done) | (simp [bI, ← Int32.not_lt, *]; done) | (simp_all [bI]; done) | (simp_all [bI, ← Int32.not_lt]; done), rfl⟩) (Nat.zero_le _) (Nat.zero_le _)
  · subst e_4
    refine g_aload_n (q := 8) C dX1_isTakenBy_7 rfl (by first | exact hRef_r _ | exact hRef_o _ | exact hRef_n) rfl ?_
    refine g_get (q := 11) C hcl_X1 3 (by decide) qw_84 rfl dX1_isTakenBy_8 (by exact h0) rfl rfl ?_
    refine g_aload_n (q := 12) C dX1_isTakenBy_11 rfl (by first | exact hRef_r _ | exact hRef_o _ | exact hRef_n) rfl ?_
    refine g_acmp_ne (t := 19) (q := 15) C dX1_isTakenBy_12 rfl rfl (by decide) rfl (fun c_12 => ?_) (fun c_12 => ?_)
    · skip
      refine g_iconst (q := 20) (0) C dX1_isTakenBy_19 (by decide) rfl ?_
      exact g_zret C dX1_isTakenBy_20 (by first | rfl | exact hNarB _) (⟨by first | rfl | (simp [bI, *]; done) | (simp [bI, ← Int32.not_lt, *]; done) | (simp_all [bI]; done) | (simp_all [bI, ← Int32.not_lt]; done), rfl⟩) (Nat.zero_le _) (Nat.zero_le _)
    · (try subst c_12)
      refine g_iconst (q := 16) (1) C dX1_isTakenBy_15 (by decide) rfl ?_
      refine g_goto (t := 20) C dX1_isTakenBy_16 (by decide) ?_
      exact g_zret C dX1_isTakenBy_20 (by first | rfl | exact hNarB _) (⟨by first | rfl | (simp [bI, *]; done) | (simp [bI, ← Int32.not_lt, *]; done) | (simp_all [bI]; done) | (simp_all [bI, ← Int32.not_lt]; done), rfl⟩) (Nat.zero_le _) (Nat.zero_le _)
set_option maxRecDepth 100000 in
set_option maxHeartbeats 4000000 in
theorem c_X1_isMouldy (Γ : hGam) (l : Launch) {M : hM} {x : Nat} {w : Bool} {s : Int32} {b a h : Option Nat} {f bk wd mo fo bs : Int32} (h0 : M x = some (w, oHook s b a h f bk wd mo fo bs)) : hMet Γ l yX1_isMouldy cX1_isMouldy 1 (some .boolean) rm_X1_isMouldy [.ref x] M (hpP M (bI (h.isSome && decide (0 < mo)))) := by
  refine hMet_of (by decide +kernel) (Nat.le_of_ble_eq_true rfl) (hCat_cons rfl hCat_nil) (fun k C => ?_)
  show hG _ _ _ _ _ _ _ _ [some (.ref x)] _
  refine g_aload_n (q := 1) C dX1_isMouldy_0 rfl (by first | exact hRef_r _ | exact hRef_o _ | exact hRef_n) rfl ?_
  refine g_get (q := 4) C hcl_X1 3 (by decide) qw_84 rfl dX1_isMouldy_1 (by exact h0) rfl rfl ?_
  refine g_ifnull (t := 18) (q := 7) C dX1_isMouldy_4 (by decide) rfl (fun e_4 => ?_) (fun y_4 e_4 => ?_)
  · subst e_4
    refine g_iconst (q := 19) (0) C dX1_isMouldy_18 (by decide) rfl ?_
    exact g_zret C dX1_isMouldy_19 (by first | rfl | exact hNarB _) (⟨by first | rfl | (simp [bI, *]; done) | (simp [bI, ← Int32.not_lt, *]; done) | (simp_all [bI]; done) | (simp_all [bI, ← Int32.not_lt]; done), rfl⟩) (Nat.zero_le _) (Nat.zero_le _)
  · subst e_4
    refine g_aload_n (q := 8) C dX1_isMouldy_7 rfl (by first | exact hRef_r _ | exact hRef_o _ | exact hRef_n) rfl ?_
    refine g_get (q := 11) C hcl_X1 7 (by decide) qw_88 rfl dX1_isMouldy_8 (by exact h0) rfl rfl ?_
    refine g_if_le (t := 18) (q := 14) C dX1_isMouldy_11 (by decide) rfl (fun c_11 => ?_) (fun c_11 => ?_)
    · skip
      refine g_iconst (q := 19) (0) C dX1_isMouldy_18 (by decide) rfl ?_
      exact g_zret C dX1_isMouldy_19 (by first | rfl | exact hNarB _) (⟨by first | rfl | (simp [bI, *]; done) | (simp [bI, ← Int32.not_lt, *]; done) | (simp_all [bI]; done) | (simp_all [bI, ← Int32.not_lt]; done), rfl⟩) (Nat.zero_le _) (Nat.zero_le _)
    · skip
      refine g_iconst (q := 15) (1) C dX1_isMouldy_14 (by decide) rfl ?_
      refine g_goto (t := 19) C dX1_isMouldy_15 (by decide) ?_
      exact g_zret C dX1_isMouldy_19 (by first | rfl | exact hNarB _) (⟨by first | rfl | (simp [bI, *]; done) | (simp [bI, ← Int32.not_lt, *]; done) | (simp_all [bI]; done) | (simp_all [bI, ← Int32.not_lt]; done), rfl⟩) (Nat.zero_le _) (Nat.zero_le _)
set_option maxRecDepth 100000 in
set_option maxHeartbeats 4000000 in
theorem c_X1_wetness (Γ : hGam) (l : Launch) {M : hM} {x : Nat} {w : Bool} {s : Int32} {b a h : Option Nat} {f bk wd mo fo bs : Int32} (h0 : M x = some (w, oHook s b a h f bk wd mo fo bs)) : hMet Γ l yX1_wetness cX1_wetness 1 (some .int) rm_X1_wetness [.ref x] M (hpP M ((f + bk) / 2)) := by
  refine hMet_of (by decide +kernel) (Nat.le_of_ble_eq_true rfl) (hCat_cons rfl hCat_nil) (fun k C => ?_)
  show hG _ _ _ _ _ _ _ _ [some (.ref x)] _
  refine g_aload_n (q := 1) C dX1_wetness_0 rfl (by first | exact hRef_r _ | exact hRef_o _ | exact hRef_n) rfl ?_
  refine g_get (q := 4) C hcl_X1 4 (by decide) qw_85 rfl dX1_wetness_1 (by exact h0) rfl rfl ?_
  refine g_aload_n (q := 5) C dX1_wetness_4 rfl (by first | exact hRef_r _ | exact hRef_o _ | exact hRef_n) rfl ?_
  refine g_get (q := 8) C hcl_X1 5 (by decide) qw_86 rfl dX1_wetness_5 (by exact h0) rfl rfl ?_
  refine g_iadd (q := 9) C dX1_wetness_8 rfl ?_
  refine g_iconst (q := 10) (2) C dX1_wetness_9 (by decide) rfl ?_
  refine g_idiv (q := 11) C dX1_wetness_10 (by decide) rfl ?_
  exact g_iret C dX1_wetness_11 (⟨rfl, rfl⟩) (Nat.zero_le _) (Nat.zero_le _)
set_option maxRecDepth 100000 in
set_option maxHeartbeats 4000000 in
theorem c_X1_fits (Γ : hGam) (l : Launch) {M : hM} {x : Nat} {w : Bool} {s : Int32} {b a h : Option Nat} {f bk wd mo fo bs : Int32} {o : Nat} {w2 : Bool} {oh : Option Nat} {many wet got : Int32} (h0 : M x = some (w, oHook s b a h f bk wd mo fo bs)) (h1 : M o = some (w2, oOrder oh many wet got)) : hMet Γ l yX1_fits cX1_fits 2 (some .boolean) rm_X1_fits [.ref x, .ref o] M (hpP M (bI ((h.isSome && decide (h = oh)) && (decide ((f + bk) / 2 ≤ wet) && decide (mo = 0))))) := by
  refine hMet_of (by decide +kernel) (Nat.le_of_ble_eq_true rfl) (hCat_cons rfl (hCat_cons rfl hCat_nil)) (fun k C => ?_)
  show hG _ _ _ _ _ _ _ _ [some (.ref x), some (.ref o)] _
  refine g_aload_n (q := 1) C dX1_fits_0 rfl (by first | exact hRef_r _ | exact hRef_o _ | exact hRef_n) rfl ?_
  refine g_aload_n (q := 2) C dX1_fits_1 rfl (by first | exact hRef_r _ | exact hRef_o _ | exact hRef_n) rfl ?_
  refine g_get (q := 5) C hcl_X2 0 (by decide) qw_553 rfl dX1_fits_2 (by first | exact h0 | exact h1) rfl rfl ?_
  refine g_callV1P (q := 8) C hy_X1_isTakenBy (c_X1_isTakenBy Γ l oh h0) qw_303 (by exact h0) rfl ⟨Nat.le_of_ble_eq_true rfl, Nat.le_of_ble_eq_true rfl⟩ (Nat.le_of_ble_eq_true rfl) rfl dX1_fits_5 ⟨rfl, rfl⟩ ⟨Nat.zero_le _, Nat.zero_le _⟩ rfl ?_
  refine g_ifB_eq (t := 33) (q := 11) C dX1_fits_8 (by decide) rfl (fun c_8 => ?_) (fun c_8 => ?_)
  · skip
    refine g_iconst (q := 34) (0) C dX1_fits_33 (by decide) rfl ?_
    exact g_zret C dX1_fits_34 (by first | rfl | exact hNarB _) (⟨by first | rfl | (simp [bI, *]; done) | (simp [bI, ← Int32.not_lt, *]; done) | (simp_all [bI]; done) | (simp_all [bI, ← Int32.not_lt]; done), rfl⟩) (Nat.zero_le _) (Nat.zero_le _)
  · skip
    refine g_aload_n (q := 12) C dX1_fits_11 rfl (by first | exact hRef_r _ | exact hRef_o _ | exact hRef_n) rfl ?_
    refine g_callV0P (q := 15) C hy_X1_wetness (c_X1_wetness Γ l h0) qw_307 (by exact h0) rfl ⟨Nat.le_of_ble_eq_true rfl, Nat.le_of_ble_eq_true rfl⟩ (Nat.le_of_ble_eq_true rfl) rfl dX1_fits_12 ⟨rfl, rfl⟩ ⟨Nat.zero_le _, Nat.zero_le _⟩ rfl ?_
    refine g_aload_n (q := 16) C dX1_fits_15 rfl (by first | exact hRef_r _ | exact hRef_o _ | exact hRef_n) rfl ?_
    refine g_get (q := 19) C hcl_X2 2 (by decide) qw_558 rfl dX1_fits_16 (by first | exact h0 | exact h1) rfl rfl ?_
    refine g_icmp_gt (t := 33) (q := 22) C dX1_fits_19 (by decide) rfl (fun c_19 => ?_) (fun c_19 => ?_)
    · skip
      refine g_iconst (q := 34) (0) C dX1_fits_33 (by decide) rfl ?_
      exact g_zret C dX1_fits_34 (by first | rfl | exact hNarB _) (⟨by first | rfl | (simp [bI, *]; done) | (simp [bI, ← Int32.not_lt, *]; done) | (simp_all [bI]; done) | (simp_all [bI, ← Int32.not_lt]; done), rfl⟩) (Nat.zero_le _) (Nat.zero_le _)
    · skip
      refine g_aload_n (q := 23) C dX1_fits_22 rfl (by first | exact hRef_r _ | exact hRef_o _ | exact hRef_n) rfl ?_
      refine g_get (q := 26) C hcl_X1 7 (by decide) qw_88 rfl dX1_fits_23 (by first | exact h0 | exact h1) rfl rfl ?_
      refine g_if_ne (t := 33) (q := 29) C dX1_fits_26 (by decide) rfl (fun c_26 => ?_) (fun c_26 => ?_)
      · skip
        refine g_iconst (q := 34) (0) C dX1_fits_33 (by decide) rfl ?_
        exact g_zret C dX1_fits_34 (by first | rfl | exact hNarB _) (⟨by first | rfl | (simp [bI, *]; done) | (simp [bI, ← Int32.not_lt, *]; done) | (simp_all [bI]; done) | (simp_all [bI, ← Int32.not_lt]; done), rfl⟩) (Nat.zero_le _) (Nat.zero_le _)
      · skip
        refine g_iconst (q := 30) (1) C dX1_fits_29 (by decide) rfl ?_
        refine g_goto (t := 34) C dX1_fits_30 (by decide) ?_
        exact g_zret C dX1_fits_34 (by first | rfl | exact hNarB _) (⟨by first | rfl | (simp [bI, *]; done) | (simp [bI, ← Int32.not_lt, *]; done) | (simp_all [bI]; done) | (simp_all [bI, ← Int32.not_lt]; done), rfl⟩) (Nat.zero_le _) (Nat.zero_le _)
set_option maxRecDepth 100000 in
set_option maxHeartbeats 4000000 in
theorem c_X1_receiveNew (Γ : hGam) (l : Launch) {M : hM} {x : Nat} {s : Int32} {b a h : Option Nat} {f bk wd mo fo bs : Int32} (o : Option Nat) (p : Int32) (h0 : M x = some (true, oHook s b a h f bk wd mo fo bs)) : hMet Γ l yX1_receiveNew cX1_receiveNew 3 none rm_X1_receiveNew [.ref x, va_rf o, .int p] M (hpV (fun M1 => M1 = hU M x (oHook s b a o p p 0 0 fo bs))) := by
  refine hMet_of (by decide +kernel) (Nat.le_of_ble_eq_true rfl) (hCat_cons rfl (hCat_cons (hRef_o _).cat (hCat_cons rfl hCat_nil))) (fun k C => ?_)
  show hG _ _ _ _ _ _ _ _ [some (.ref x), some (va_rf o), some (.int p)] _
  refine g_aload_n (q := 1) C dX1_receiveNew_0 rfl (by first | exact hRef_r _ | exact hRef_o _ | exact hRef_n) rfl ?_
  refine g_aload_n (q := 2) C dX1_receiveNew_1 rfl (by first | exact hRef_r _ | exact hRef_o _ | exact hRef_n) rfl ?_
  refine g_put (q := 5) C hcl_X1 3 (by decide) qw_84 rfl rfl (by first | rfl | exact narO _) (by first | rfl | exact fitsB _ | exact fitsO _) dX1_receiveNew_2 (by first | exact h0 | exact hU_s _ _ _) (Nat.le_of_ble_eq_true rfl) rfl ?_
  (try rw [hU_2])
  refine g_aload_n (q := 6) C dX1_receiveNew_5 rfl (by first | exact hRef_r _ | exact hRef_o _ | exact hRef_n) rfl ?_
  refine g_iload_n (q := 7) C dX1_receiveNew_6 rfl rfl ?_
  refine g_put (q := 10) C hcl_X1 4 (by decide) qw_85 rfl rfl rfl rfl dX1_receiveNew_7 (by first | exact h0 | exact hU_s _ _ _) (Nat.le_of_ble_eq_true rfl) rfl ?_
  (try rw [hU_2])
  refine g_aload_n (q := 11) C dX1_receiveNew_10 rfl (by first | exact hRef_r _ | exact hRef_o _ | exact hRef_n) rfl ?_
  refine g_iload_n (q := 12) C dX1_receiveNew_11 rfl rfl ?_
  refine g_put (q := 15) C hcl_X1 5 (by decide) qw_86 rfl rfl rfl rfl dX1_receiveNew_12 (by first | exact h0 | exact hU_s _ _ _) (Nat.le_of_ble_eq_true rfl) rfl ?_
  (try rw [hU_2])
  refine g_aload_n (q := 16) C dX1_receiveNew_15 rfl (by first | exact hRef_r _ | exact hRef_o _ | exact hRef_n) rfl ?_
  refine g_iconst (q := 17) (0) C dX1_receiveNew_16 (by decide) rfl ?_
  refine g_put (q := 20) C hcl_X1 6 (by decide) qw_87 rfl rfl rfl rfl dX1_receiveNew_17 (by first | exact h0 | exact hU_s _ _ _) (Nat.le_of_ble_eq_true rfl) rfl ?_
  (try rw [hU_2])
  refine g_aload_n (q := 21) C dX1_receiveNew_20 rfl (by first | exact hRef_r _ | exact hRef_o _ | exact hRef_n) rfl ?_
  refine g_iconst (q := 22) (0) C dX1_receiveNew_21 (by decide) rfl ?_
  refine g_put (q := 25) C hcl_X1 7 (by decide) qw_88 rfl rfl rfl rfl dX1_receiveNew_22 (by first | exact h0 | exact hU_s _ _ _) (Nat.le_of_ble_eq_true rfl) rfl ?_
  (try rw [hU_2])
  exact g_vret C dX1_receiveNew_25 (rfl) (Nat.zero_le _) (Nat.zero_le _)
set_option maxRecDepth 100000 in
set_option maxHeartbeats 4000000 in
theorem c_X1_clear (Γ : hGam) (l : Launch) {M : hM} {x : Nat} {s : Int32} {b a h : Option Nat} {f bk wd mo fo bs : Int32} (h0 : M x = some (true, oHook s b a h f bk wd mo fo bs)) : hMet Γ l yX1_clear cX1_clear 1 none rm_X1_clear [.ref x] M (hpV (fun M1 => M1 = hU M x (oHook s b a none 0 0 0 0 fo bs))) := by
  refine hMet_of (by decide +kernel) (Nat.le_of_ble_eq_true rfl) (hCat_cons rfl hCat_nil) (fun k C => ?_)
  show hG _ _ _ _ _ _ _ _ [some (.ref x)] _
  refine g_aload_n (q := 1) C dX1_clear_0 rfl (by first | exact hRef_r _ | exact hRef_o _ | exact hRef_n) rfl ?_
  refine g_null (q := 2) C dX1_clear_1 rfl ?_
  refine g_iconst (q := 3) (0) C dX1_clear_2 (by decide) rfl ?_
  refine g_callV2V (q := 6) C hy_X1_receiveNew (c_X1_receiveNew Γ l none 0 h0) qw_243 (by exact h0) rfl ⟨Nat.le_of_ble_eq_true rfl, Nat.le_of_ble_eq_true rfl⟩ (Nat.le_of_ble_eq_true rfl) rfl dX1_clear_3 ⟨rfl, rfl⟩ ⟨Nat.zero_le _, Nat.zero_le _⟩ rfl (fun M_3 p_3 => ?_)
  exact g_vret C dX1_clear_6 (p_3) (Nat.zero_le _) (Nat.zero_le _)
set_option maxRecDepth 100000 in
set_option maxHeartbeats 4000000 in
theorem c_X1_copyBundleOf (Γ : hGam) (l : Launch) {M : hM} {x : Nat} {s : Int32} {b a h : Option Nat} {f bk wd mo fo bs : Int32} {y : Nat} {w2 : Bool} {s2 : Int32} {b2 a2 h2 : Option Nat} {f2 bk2 wd2 mo2 fo2 bs2 : Int32} (h0 : M x = some (true, oHook s b a h f bk wd mo fo bs)) (h1 : M y = some (w2, oHook s2 b2 a2 h2 f2 bk2 wd2 mo2 fo2 bs2)) (hne : y ≠ x) : hMet Γ l yX1_copyBundleOf cX1_copyBundleOf 2 none rm_X1_copyBundleOf [.ref x, .ref y] M (hpV (fun M1 => M1 = hU M x (oHook s b a h2 f2 bk2 wd2 mo2 fo bs))) := by
  refine hMet_of (by decide +kernel) (Nat.le_of_ble_eq_true rfl) (hCat_cons rfl (hCat_cons rfl hCat_nil)) (fun k C => ?_)
  show hG _ _ _ _ _ _ _ _ [some (.ref x), some (.ref y)] _
  refine g_aload_n (q := 1) C dX1_copyBundleOf_0 rfl (by first | exact hRef_r _ | exact hRef_o _ | exact hRef_n) rfl ?_
  refine g_aload_n (q := 2) C dX1_copyBundleOf_1 rfl (by first | exact hRef_r _ | exact hRef_o _ | exact hRef_n) rfl ?_
  refine g_get (q := 5) C hcl_X1 3 (by decide) qw_84 rfl dX1_copyBundleOf_2 (by first | exact h0 | exact h1 | exact hU_s _ _ _ | exact (hU_n hne).trans h1) rfl rfl ?_
  refine g_put (q := 8) C hcl_X1 3 (by decide) qw_84 rfl rfl (by first | rfl | exact narO _) (by first | rfl | exact fitsB _ | exact fitsO _) dX1_copyBundleOf_5 (by first | exact h0 | exact h1 | exact hU_s _ _ _ | exact (hU_n hne).trans h1) (Nat.le_of_ble_eq_true rfl) rfl ?_
  (try rw [hU_2])
  refine g_aload_n (q := 9) C dX1_copyBundleOf_8 rfl (by first | exact hRef_r _ | exact hRef_o _ | exact hRef_n) rfl ?_
  refine g_aload_n (q := 10) C dX1_copyBundleOf_9 rfl (by first | exact hRef_r _ | exact hRef_o _ | exact hRef_n) rfl ?_
  refine g_get (q := 13) C hcl_X1 4 (by decide) qw_85 rfl dX1_copyBundleOf_10 (by first | exact h0 | exact h1 | exact hU_s _ _ _ | exact (hU_n hne).trans h1) rfl rfl ?_
  refine g_put (q := 16) C hcl_X1 4 (by decide) qw_85 rfl rfl rfl rfl dX1_copyBundleOf_13 (by first | exact h0 | exact h1 | exact hU_s _ _ _ | exact (hU_n hne).trans h1) (Nat.le_of_ble_eq_true rfl) rfl ?_
  (try rw [hU_2])
  refine g_aload_n (q := 17) C dX1_copyBundleOf_16 rfl (by first | exact hRef_r _ | exact hRef_o _ | exact hRef_n) rfl ?_
  refine g_aload_n (q := 18) C dX1_copyBundleOf_17 rfl (by first | exact hRef_r _ | exact hRef_o _ | exact hRef_n) rfl ?_
  refine g_get (q := 21) C hcl_X1 5 (by decide) qw_86 rfl dX1_copyBundleOf_18 (by first | exact h0 | exact h1 | exact hU_s _ _ _ | exact (hU_n hne).trans h1) rfl rfl ?_
  refine g_put (q := 24) C hcl_X1 5 (by decide) qw_86 rfl rfl rfl rfl dX1_copyBundleOf_21 (by first | exact h0 | exact h1 | exact hU_s _ _ _ | exact (hU_n hne).trans h1) (Nat.le_of_ble_eq_true rfl) rfl ?_
  (try rw [hU_2])
  refine g_aload_n (q := 25) C dX1_copyBundleOf_24 rfl (by first | exact hRef_r _ | exact hRef_o _ | exact hRef_n) rfl ?_
  refine g_aload_n (q := 26) C dX1_copyBundleOf_25 rfl (by first | exact hRef_r _ | exact hRef_o _ | exact hRef_n) rfl ?_
  refine g_get (q := 29) C hcl_X1 6 (by decide) qw_87 rfl dX1_copyBundleOf_26 (by first | exact h0 | exact h1 | exact hU_s _ _ _ | exact (hU_n hne).trans h1) rfl rfl ?_
  refine g_put (q := 32) C hcl_X1 6 (by decide) qw_87 rfl rfl rfl rfl dX1_copyBundleOf_29 (by first | exact h0 | exact h1 | exact hU_s _ _ _ | exact (hU_n hne).trans h1) (Nat.le_of_ble_eq_true rfl) rfl ?_
  (try rw [hU_2])
  refine g_aload_n (q := 33) C dX1_copyBundleOf_32 rfl (by first | exact hRef_r _ | exact hRef_o _ | exact hRef_n) rfl ?_
  refine g_aload_n (q := 34) C dX1_copyBundleOf_33 rfl (by first | exact hRef_r _ | exact hRef_o _ | exact hRef_n) rfl ?_
  refine g_get (q := 37) C hcl_X1 7 (by decide) qw_88 rfl dX1_copyBundleOf_34 (by first | exact h0 | exact h1 | exact hU_s _ _ _ | exact (hU_n hne).trans h1) rfl rfl ?_
  refine g_put (q := 40) C hcl_X1 7 (by decide) qw_88 rfl rfl rfl rfl dX1_copyBundleOf_37 (by first | exact h0 | exact h1 | exact hU_s _ _ _ | exact (hU_n hne).trans h1) (Nat.le_of_ble_eq_true rfl) rfl ?_
  (try rw [hU_2])
  exact g_vret C dX1_copyBundleOf_40 (rfl) (Nat.zero_le _) (Nat.zero_le _)
set_option maxRecDepth 100000 in
set_option maxHeartbeats 4000000 in
theorem c_X1_exchangeSides (Γ : hGam) (l : Launch) {M : hM} {x : Nat} {s : Int32} {b a h : Option Nat} {f bk wd mo fo bs : Int32} (h0 : M x = some (true, oHook s b a h f bk wd mo fo bs)) : hMet Γ l yX1_exchangeSides cX1_exchangeSides 2 none rm_X1_exchangeSides [.ref x] M (hpV (fun M1 => M1 = hU M x (oHook s b a h bk f wd mo fo bs))) := by
  refine hMet_of (by decide +kernel) (Nat.le_of_ble_eq_true rfl) (hCat_cons rfl hCat_nil) (fun k C => ?_)
  show hG _ _ _ _ _ _ _ _ [some (.ref x), none] _
  refine g_aload_n (q := 1) C dX1_exchangeSides_0 rfl (by first | exact hRef_r _ | exact hRef_o _ | exact hRef_n) rfl ?_
  refine g_get (q := 4) C hcl_X1 4 (by decide) qw_85 rfl dX1_exchangeSides_1 (by first | exact h0 | exact hU_s _ _ _) rfl rfl ?_
  refine g_istore1 (q := 5) C dX1_exchangeSides_4 (by first | rfl | exact hNw_rf _) rfl ?_
  refine g_aload_n (q := 6) C dX1_exchangeSides_5 rfl (by first | exact hRef_r _ | exact hRef_o _ | exact hRef_n) rfl ?_
  refine g_aload_n (q := 7) C dX1_exchangeSides_6 rfl (by first | exact hRef_r _ | exact hRef_o _ | exact hRef_n) rfl ?_
  refine g_get (q := 10) C hcl_X1 5 (by decide) qw_86 rfl dX1_exchangeSides_7 (by first | exact h0 | exact hU_s _ _ _) rfl rfl ?_
  refine g_put (q := 13) C hcl_X1 4 (by decide) qw_85 rfl rfl rfl rfl dX1_exchangeSides_10 (by first | exact h0 | exact hU_s _ _ _) (Nat.le_of_ble_eq_true rfl) rfl ?_
  (try rw [hU_2])
  refine g_aload_n (q := 14) C dX1_exchangeSides_13 rfl (by first | exact hRef_r _ | exact hRef_o _ | exact hRef_n) rfl ?_
  refine g_iload_n (q := 15) C dX1_exchangeSides_14 rfl rfl ?_
  refine g_put (q := 18) C hcl_X1 5 (by decide) qw_86 rfl rfl rfl rfl dX1_exchangeSides_15 (by first | exact h0 | exact hU_s _ _ _) (Nat.le_of_ble_eq_true rfl) rfl ?_
  (try rw [hU_2])
  exact g_vret C dX1_exchangeSides_18 (rfl) (Nat.zero_le _) (Nat.zero_le _)
def nTak (o : Option Nat) (v : hB) : Bool := o.isSome && bTak v
def nWet (o : Option Nat) (v me : hB) : Bool := o.isSome && (bTak v && decide (bWet me < bWet v))
def nSpr (o : Option Nat) (v : hB) : Bool := o.isSome && (bTak v && decide (3 ≤ v.2.2.2.2))
set_option maxRecDepth 100000 in
set_option maxHeartbeats 4000000 in
theorem c_X1_isWetterThan (Γ : hGam) (l : Launch) {M : hM} {x : Nat} {w : Bool} {s : Int32} {b a h : Option Nat} {f bk wd mo fo bs : Int32} {y : Nat} {w2 : Bool} {s2 : Int32} {b2 a2 h2 : Option Nat} {f2 bk2 wd2 mo2 fo2 bs2 : Int32} (h0 : M x = some (w, oHook s b a h f bk wd mo fo bs)) (h1 : M y = some (w2, oHook s2 b2 a2 h2 f2 bk2 wd2 mo2 fo2 bs2)) : hMet Γ l yX1_isWetterThan cX1_isWetterThan 2 (some .boolean) rm_X1_isWetterThan [.ref x, .ref y] M (hpP M (bI (bTak (h, f, bk, wd, mo) && decide (bWet (h2, f2, bk2, wd2, mo2) < bWet (h, f, bk, wd, mo))))) := by
  refine hMet_of (by decide +kernel) (Nat.le_of_ble_eq_true rfl) (hCat_cons rfl (hCat_cons rfl hCat_nil)) (fun k C => ?_)
  show hG _ _ _ _ _ _ _ _ [some (.ref x), some (.ref y)] _
  refine g_aload_n (q := 1) C dX1_isWetterThan_0 rfl (by first | exact hRef_r _ | exact hRef_o _ | exact hRef_n) rfl ?_
  refine g_callV0P (q := 4) C hy_X1_isTaken (c_X1_isTaken Γ l h0) qw_251 (by exact h0) rfl ⟨Nat.le_of_ble_eq_true rfl, Nat.le_of_ble_eq_true rfl⟩ (Nat.le_of_ble_eq_true rfl) rfl dX1_isWetterThan_1 ⟨rfl, rfl⟩ ⟨Nat.zero_le _, Nat.zero_le _⟩ rfl ?_
  refine g_ifB_eq (t := 22) (q := 7) C dX1_isWetterThan_4 (by decide) rfl (fun c_4 => ?_) (fun c_4 => ?_)
  · skip
    refine g_iconst (q := 23) (0) C dX1_isWetterThan_22 (by decide) rfl ?_
    exact g_zret C dX1_isWetterThan_23 (by first | rfl | exact hNarB _) (⟨by first | rfl | (simp [bI, bTak, bWet, *]; done) | (simp [bI, bTak, bWet, ← Int32.not_lt, *]; done) | (simp_all [bI, bTak, bWet]; done) | (simp_all [bI, bTak, bWet, ← Int32.not_lt]; done), rfl⟩) (Nat.zero_le _) (Nat.zero_le _)
  · skip
    refine g_aload_n (q := 8) C dX1_isWetterThan_7 rfl (by first | exact hRef_r _ | exact hRef_o _ | exact hRef_n) rfl ?_
    refine g_callV0P (q := 11) C hy_X1_wetness (c_X1_wetness Γ l h0) qw_307 (by exact h0) rfl ⟨Nat.le_of_ble_eq_true rfl, Nat.le_of_ble_eq_true rfl⟩ (Nat.le_of_ble_eq_true rfl) rfl dX1_isWetterThan_8 ⟨rfl, rfl⟩ ⟨Nat.zero_le _, Nat.zero_le _⟩ rfl ?_
    refine g_aload_n (q := 12) C dX1_isWetterThan_11 rfl (by first | exact hRef_r _ | exact hRef_o _ | exact hRef_n) rfl ?_
    refine g_callV0P (q := 15) C hy_X1_wetness (c_X1_wetness Γ l h1) qw_307 (by exact h1) rfl ⟨Nat.le_of_ble_eq_true rfl, Nat.le_of_ble_eq_true rfl⟩ (Nat.le_of_ble_eq_true rfl) rfl dX1_isWetterThan_12 ⟨rfl, rfl⟩ ⟨Nat.zero_le _, Nat.zero_le _⟩ rfl ?_
    refine g_icmp_le (t := 22) (q := 18) C dX1_isWetterThan_15 (by decide) rfl (fun c_15 => ?_) (fun c_15 => ?_)
    · skip
      refine g_iconst (q := 23) (0) C dX1_isWetterThan_22 (by decide) rfl ?_
      exact g_zret C dX1_isWetterThan_23 (by first | rfl | exact hNarB _) (⟨by first | rfl | (simp [bI, bTak, bWet, *]; done) | (simp [bI, bTak, bWet, ← Int32.not_lt, *]; done) | (simp_all [bI, bTak, bWet]; done) | (simp_all [bI, bTak, bWet, ← Int32.not_lt]; done), rfl⟩) (Nat.zero_le _) (Nat.zero_le _)
    · skip
      refine g_iconst (q := 19) (1) C dX1_isWetterThan_18 (by decide) rfl ?_
      refine g_goto (t := 23) C dX1_isWetterThan_19 (by decide) ?_
      exact g_zret C dX1_isWetterThan_23 (by first | rfl | exact hNarB _) (⟨by first | rfl | (simp [bI, bTak, bWet, *]; done) | (simp [bI, bTak, bWet, ← Int32.not_lt, *]; done) | (simp_all [bI, bTak, bWet]; done) | (simp_all [bI, bTak, bWet, ← Int32.not_lt]; done), rfl⟩) (Nat.zero_le _) (Nat.zero_le _)
set_option maxRecDepth 100000 in
set_option maxHeartbeats 4000000 in
theorem c_X1_spreadsMould (Γ : hGam) (l : Launch) {M : hM} {x : Nat} {w : Bool} {s : Int32} {b a h : Option Nat} {f bk wd mo fo bs : Int32} (h0 : M x = some (w, oHook s b a h f bk wd mo fo bs)) : hMet Γ l yX1_spreadsMould cX1_spreadsMould 1 (some .boolean) rm_X1_spreadsMould [.ref x] M (hpP M (bI (bTak (h, f, bk, wd, mo) && decide (3 ≤ mo)))) := by
  refine hMet_of (by decide +kernel) (Nat.le_of_ble_eq_true rfl) (hCat_cons rfl hCat_nil) (fun k C => ?_)
  show hG _ _ _ _ _ _ _ _ [some (.ref x)] _
  refine g_aload_n (q := 1) C dX1_spreadsMould_0 rfl (by first | exact hRef_r _ | exact hRef_o _ | exact hRef_n) rfl ?_
  refine g_callV0P (q := 4) C hy_X1_isTaken (c_X1_isTaken Γ l h0) qw_251 (by exact h0) rfl ⟨Nat.le_of_ble_eq_true rfl, Nat.le_of_ble_eq_true rfl⟩ (Nat.le_of_ble_eq_true rfl) rfl dX1_spreadsMould_1 ⟨rfl, rfl⟩ ⟨Nat.zero_le _, Nat.zero_le _⟩ rfl ?_
  refine g_ifB_eq (t := 19) (q := 7) C dX1_spreadsMould_4 (by decide) rfl (fun c_4 => ?_) (fun c_4 => ?_)
  · skip
    refine g_iconst (q := 20) (0) C dX1_spreadsMould_19 (by decide) rfl ?_
    exact g_zret C dX1_spreadsMould_20 (by first | rfl | exact hNarB _) (⟨by first | rfl | (simp [bI, bTak, *]; done) | (simp [bI, bTak, ← Int32.not_lt, *]; done) | (simp_all [bI, bTak]; done) | (simp_all [bI, bTak, ← Int32.not_lt]; done), rfl⟩) (Nat.zero_le _) (Nat.zero_le _)
  · skip
    refine g_aload_n (q := 8) C dX1_spreadsMould_7 rfl (by first | exact hRef_r _ | exact hRef_o _ | exact hRef_n) rfl ?_
    refine g_get (q := 11) C hcl_X1 7 (by decide) qw_88 rfl dX1_spreadsMould_8 (by exact h0) rfl rfl ?_
    refine g_iconst (q := 12) (3) C dX1_spreadsMould_11 (by decide) rfl ?_
    refine g_icmp_lt (t := 19) (q := 15) C dX1_spreadsMould_12 (by decide) rfl (fun c_12 => ?_) (fun c_12 => ?_)
    · skip
      refine g_iconst (q := 20) (0) C dX1_spreadsMould_19 (by decide) rfl ?_
      exact g_zret C dX1_spreadsMould_20 (by first | rfl | exact hNarB _) (⟨by first | rfl | (simp [bI, bTak, *]; done) | (simp [bI, bTak, ← Int32.not_lt, *]; done) | (simp_all [bI, bTak]; done) | (simp_all [bI, bTak, ← Int32.not_lt]; done), rfl⟩) (Nat.zero_le _) (Nat.zero_le _)
    · skip
      refine g_iconst (q := 16) (1) C dX1_spreadsMould_15 (by decide) rfl ?_
      refine g_goto (t := 20) C dX1_spreadsMould_16 (by decide) ?_
      exact g_zret C dX1_spreadsMould_20 (by first | rfl | exact hNarB _) (⟨by first | rfl | (simp [bI, bTak, *]; done) | (simp [bI, bTak, ← Int32.not_lt, *]; done) | (simp_all [bI, bTak]; done) | (simp_all [bI, bTak, ← Int32.not_lt]; done), rfl⟩) (Nat.zero_le _) (Nat.zero_le _)
set_option maxRecDepth 100000 in
set_option maxHeartbeats 4000000 in
theorem c_X1_neighbours (Γ : hGam) (l : Launch) {M : hM} {x : Nat} {w : Bool} {s : Int32} {b a h : Option Nat} {f bk wd mo fo bs : Int32} {vb va : hB} (h0 : M x = some (w, oHook s b a h f bk wd mo fo bs)) (hb : ∀ y, b = some y → hAt M y vb) (ha : ∀ y, a = some y → hAt M y va) : hMet Γ l yX1_neighbours cX1_neighbours 2 (some .int) rm_X1_neighbours [.ref x] M (hpP M (bI (nTak b vb) + bI (nTak a va))) := by
  refine hMet_of (by decide +kernel) (Nat.le_of_ble_eq_true rfl) (hCat_cons rfl hCat_nil) (fun k C => ?_)
  show hG _ _ _ _ _ _ _ _ [some (.ref x), none] _
  refine g_iconst (q := 1) (0) C dX1_neighbours_0 (by decide) rfl ?_
  refine g_istore1 (q := 2) C dX1_neighbours_1 (by first | rfl | exact hNw_rf _) rfl ?_
  refine g_aload_n (q := 3) C dX1_neighbours_2 rfl (by first | exact hRef_r _ | exact hRef_o _ | exact hRef_n) rfl ?_
  refine g_get (q := 6) C hcl_X1 1 (by decide) qw_81 rfl dX1_neighbours_3 (by exact h0) rfl rfl ?_
  refine g_ifnull (t := 22) (q := 9) C dX1_neighbours_6 (by decide) rfl (fun e_6 => ?_) (fun y_6 e_6 => ?_)
  · subst e_6
    refine g_aload_n (q := 23) C dX1_neighbours_22 rfl (by first | exact hRef_r _ | exact hRef_o _ | exact hRef_n) rfl ?_
    refine g_get (q := 26) C hcl_X1 2 (by decide) qw_83 rfl dX1_neighbours_23 (by exact h0) rfl rfl ?_
    refine g_ifnull (t := 42) (q := 29) C dX1_neighbours_26 (by decide) rfl (fun e_26 => ?_) (fun y_26 e_26 => ?_)
    · subst e_26
      refine g_iload_n (q := 43) C dX1_neighbours_42 rfl rfl ?_
      exact g_iret C dX1_neighbours_43 (⟨by simp [bI, nTak, bTak, *], rfl⟩) (Nat.zero_le _) (Nat.zero_le _)
    · subst e_26
      obtain ⟨w_a, s_a, b_a, a_a, fo_a, bs_a, h_a⟩ := ha _ rfl
      refine g_aload_n (q := 30) C dX1_neighbours_29 rfl (by first | exact hRef_r _ | exact hRef_o _ | exact hRef_n) rfl ?_
      refine g_get (q := 33) C hcl_X1 2 (by decide) qw_83 rfl dX1_neighbours_30 (by exact h0) rfl rfl ?_
      refine g_callV0P (q := 36) C hy_X1_isTaken (c_X1_isTaken Γ l h_a) qw_251 (by exact h_a) rfl ⟨Nat.le_of_ble_eq_true rfl, Nat.le_of_ble_eq_true rfl⟩ (Nat.le_of_ble_eq_true rfl) rfl dX1_neighbours_33 ⟨rfl, rfl⟩ ⟨Nat.zero_le _, Nat.zero_le _⟩ rfl ?_
      refine g_ifB_eq (t := 42) (q := 39) C dX1_neighbours_36 (by decide) rfl (fun c_36 => ?_) (fun c_36 => ?_)
      · skip
        refine g_iload_n (q := 43) C dX1_neighbours_42 rfl rfl ?_
        exact g_iret C dX1_neighbours_43 (⟨by simp [bI, nTak, bTak, *], rfl⟩) (Nat.zero_le _) (Nat.zero_le _)
      · skip
        refine g_iinc1 (q := 42) (1) C dX1_neighbours_39 (by decide) (by first | rfl | exact hNw_rf _) rfl ?_
        refine g_iload_n (q := 43) C dX1_neighbours_42 rfl rfl ?_
        exact g_iret C dX1_neighbours_43 (⟨by simp [bI, nTak, bTak, *], rfl⟩) (Nat.zero_le _) (Nat.zero_le _)
  · subst e_6
    obtain ⟨w_b, s_b, b_b, a_b, fo_b, bs_b, h_b⟩ := hb _ rfl
    refine g_aload_n (q := 10) C dX1_neighbours_9 rfl (by first | exact hRef_r _ | exact hRef_o _ | exact hRef_n) rfl ?_
    refine g_get (q := 13) C hcl_X1 1 (by decide) qw_81 rfl dX1_neighbours_10 (by exact h0) rfl rfl ?_
    refine g_callV0P (q := 16) C hy_X1_isTaken (c_X1_isTaken Γ l h_b) qw_251 (by exact h_b) rfl ⟨Nat.le_of_ble_eq_true rfl, Nat.le_of_ble_eq_true rfl⟩ (Nat.le_of_ble_eq_true rfl) rfl dX1_neighbours_13 ⟨rfl, rfl⟩ ⟨Nat.zero_le _, Nat.zero_le _⟩ rfl ?_
    refine g_ifB_eq (t := 22) (q := 19) C dX1_neighbours_16 (by decide) rfl (fun c_16 => ?_) (fun c_16 => ?_)
    · skip
      refine g_aload_n (q := 23) C dX1_neighbours_22 rfl (by first | exact hRef_r _ | exact hRef_o _ | exact hRef_n) rfl ?_
      refine g_get (q := 26) C hcl_X1 2 (by decide) qw_83 rfl dX1_neighbours_23 (by exact h0) rfl rfl ?_
      refine g_ifnull (t := 42) (q := 29) C dX1_neighbours_26 (by decide) rfl (fun e_26 => ?_) (fun y_26 e_26 => ?_)
      · subst e_26
        refine g_iload_n (q := 43) C dX1_neighbours_42 rfl rfl ?_
        exact g_iret C dX1_neighbours_43 (⟨by simp [bI, nTak, bTak, *], rfl⟩) (Nat.zero_le _) (Nat.zero_le _)
      · subst e_26
        obtain ⟨w_a, s_a, b_a, a_a, fo_a, bs_a, h_a⟩ := ha _ rfl
        refine g_aload_n (q := 30) C dX1_neighbours_29 rfl (by first | exact hRef_r _ | exact hRef_o _ | exact hRef_n) rfl ?_
        refine g_get (q := 33) C hcl_X1 2 (by decide) qw_83 rfl dX1_neighbours_30 (by exact h0) rfl rfl ?_
        refine g_callV0P (q := 36) C hy_X1_isTaken (c_X1_isTaken Γ l h_a) qw_251 (by exact h_a) rfl ⟨Nat.le_of_ble_eq_true rfl, Nat.le_of_ble_eq_true rfl⟩ (Nat.le_of_ble_eq_true rfl) rfl dX1_neighbours_33 ⟨rfl, rfl⟩ ⟨Nat.zero_le _, Nat.zero_le _⟩ rfl ?_
        refine g_ifB_eq (t := 42) (q := 39) C dX1_neighbours_36 (by decide) rfl (fun c_36 => ?_) (fun c_36 => ?_)
        · skip
          refine g_iload_n (q := 43) C dX1_neighbours_42 rfl rfl ?_
          exact g_iret C dX1_neighbours_43 (⟨by simp [bI, nTak, bTak, *], rfl⟩) (Nat.zero_le _) (Nat.zero_le _)
        · skip
          refine g_iinc1 (q := 42) (1) C dX1_neighbours_39 (by decide) (by first | rfl | exact hNw_rf _) rfl ?_
          refine g_iload_n (q := 43) C dX1_neighbours_42 rfl rfl ?_
          exact g_iret C dX1_neighbours_43 (⟨by simp [bI, nTak, bTak, *], rfl⟩) (Nat.zero_le _) (Nat.zero_le _)
    · skip
      refine g_iinc1 (q := 22) (1) C dX1_neighbours_19 (by decide) (by first | rfl | exact hNw_rf _) rfl ?_
      refine g_aload_n (q := 23) C dX1_neighbours_22 rfl (by first | exact hRef_r _ | exact hRef_o _ | exact hRef_n) rfl ?_
      refine g_get (q := 26) C hcl_X1 2 (by decide) qw_83 rfl dX1_neighbours_23 (by exact h0) rfl rfl ?_
      refine g_ifnull (t := 42) (q := 29) C dX1_neighbours_26 (by decide) rfl (fun e_26 => ?_) (fun y_26 e_26 => ?_)
      · subst e_26
        refine g_iload_n (q := 43) C dX1_neighbours_42 rfl rfl ?_
        exact g_iret C dX1_neighbours_43 (⟨by simp [bI, nTak, bTak, *], rfl⟩) (Nat.zero_le _) (Nat.zero_le _)
      · subst e_26
        obtain ⟨w_a, s_a, b_a, a_a, fo_a, bs_a, h_a⟩ := ha _ rfl
        refine g_aload_n (q := 30) C dX1_neighbours_29 rfl (by first | exact hRef_r _ | exact hRef_o _ | exact hRef_n) rfl ?_
        refine g_get (q := 33) C hcl_X1 2 (by decide) qw_83 rfl dX1_neighbours_30 (by exact h0) rfl rfl ?_
        refine g_callV0P (q := 36) C hy_X1_isTaken (c_X1_isTaken Γ l h_a) qw_251 (by exact h_a) rfl ⟨Nat.le_of_ble_eq_true rfl, Nat.le_of_ble_eq_true rfl⟩ (Nat.le_of_ble_eq_true rfl) rfl dX1_neighbours_33 ⟨rfl, rfl⟩ ⟨Nat.zero_le _, Nat.zero_le _⟩ rfl ?_
        refine g_ifB_eq (t := 42) (q := 39) C dX1_neighbours_36 (by decide) rfl (fun c_36 => ?_) (fun c_36 => ?_)
        · skip
          refine g_iload_n (q := 43) C dX1_neighbours_42 rfl rfl ?_
          exact g_iret C dX1_neighbours_43 (⟨by simp [bI, nTak, bTak, *], rfl⟩) (Nat.zero_le _) (Nat.zero_le _)
        · skip
          refine g_iinc1 (q := 42) (1) C dX1_neighbours_39 (by decide) (by first | rfl | exact hNw_rf _) rfl ?_
          refine g_iload_n (q := 43) C dX1_neighbours_42 rfl rfl ?_
          exact g_iret C dX1_neighbours_43 (⟨by simp [bI, nTak, bTak, *], rfl⟩) (Nat.zero_le _) (Nat.zero_le _)
set_option maxRecDepth 100000 in
set_option maxHeartbeats 4000000 in
theorem c_X1_wetterNeighbours (Γ : hGam) (l : Launch) {M : hM} {x : Nat} {w : Bool} {s : Int32} {b a h : Option Nat} {f bk wd mo fo bs : Int32} {vb va : hB} (h0 : M x = some (w, oHook s b a h f bk wd mo fo bs)) (hb : ∀ y, b = some y → hAt M y vb) (ha : ∀ y, a = some y → hAt M y va) : hMet Γ l yX1_wetterNeighbours cX1_wetterNeighbours 2 (some .int) rm_X1_wetterNeighbours [.ref x] M (hpP M (bI (nWet b vb (h, f, bk, wd, mo)) + bI (nWet a va (h, f, bk, wd, mo)))) := by
  refine hMet_of (by decide +kernel) (Nat.le_of_ble_eq_true rfl) (hCat_cons rfl hCat_nil) (fun k C => ?_)
  show hG _ _ _ _ _ _ _ _ [some (.ref x), none] _
  refine g_iconst (q := 1) (0) C dX1_wetterNeighbours_0 (by decide) rfl ?_
  refine g_istore1 (q := 2) C dX1_wetterNeighbours_1 (by first | rfl | exact hNw_rf _) rfl ?_
  refine g_aload_n (q := 3) C dX1_wetterNeighbours_2 rfl (by first | exact hRef_r _ | exact hRef_o _ | exact hRef_n) rfl ?_
  refine g_get (q := 6) C hcl_X1 1 (by decide) qw_81 rfl dX1_wetterNeighbours_3 (by exact h0) rfl rfl ?_
  refine g_ifnull (t := 23) (q := 9) C dX1_wetterNeighbours_6 (by decide) rfl (fun e_6 => ?_) (fun y_6 e_6 => ?_)
  · subst e_6
    refine g_aload_n (q := 24) C dX1_wetterNeighbours_23 rfl (by first | exact hRef_r _ | exact hRef_o _ | exact hRef_n) rfl ?_
    refine g_get (q := 27) C hcl_X1 2 (by decide) qw_83 rfl dX1_wetterNeighbours_24 (by exact h0) rfl rfl ?_
    refine g_ifnull (t := 44) (q := 30) C dX1_wetterNeighbours_27 (by decide) rfl (fun e_27 => ?_) (fun y_27 e_27 => ?_)
    · subst e_27
      refine g_iload_n (q := 45) C dX1_wetterNeighbours_44 rfl rfl ?_
      exact g_iret C dX1_wetterNeighbours_45 (⟨by simp [bI, nWet], rfl⟩) (Nat.zero_le _) (Nat.zero_le _)
    · subst e_27
      obtain ⟨w_a, s_a, b_a, a_a, fo_a, bs_a, h_a⟩ := ha _ rfl
      refine g_aload_n (q := 31) C dX1_wetterNeighbours_30 rfl (by first | exact hRef_r _ | exact hRef_o _ | exact hRef_n) rfl ?_
      refine g_get (q := 34) C hcl_X1 2 (by decide) qw_83 rfl dX1_wetterNeighbours_31 (by exact h0) rfl rfl ?_
      refine g_aload_n (q := 35) C dX1_wetterNeighbours_34 rfl (by first | exact hRef_r _ | exact hRef_o _ | exact hRef_n) rfl ?_
      refine g_callV1P (q := 38) C hy_X1_isWetterThan (c_X1_isWetterThan Γ l h_a h0) qw_345 (by exact h_a) rfl ⟨Nat.le_of_ble_eq_true rfl, Nat.le_of_ble_eq_true rfl⟩ (Nat.le_of_ble_eq_true rfl) rfl dX1_wetterNeighbours_35 ⟨rfl, rfl⟩ ⟨Nat.zero_le _, Nat.zero_le _⟩ rfl ?_
      refine g_ifB_eq (t := 44) (q := 41) C dX1_wetterNeighbours_38 (by decide) rfl (fun c_38 => ?_) (fun c_38 => ?_)
      · skip
        refine g_iload_n (q := 45) C dX1_wetterNeighbours_44 rfl rfl ?_
        exact g_iret C dX1_wetterNeighbours_45 (⟨by simp [bI, nWet, c_38], rfl⟩) (Nat.zero_le _) (Nat.zero_le _)
      · skip
        refine g_iinc1 (q := 44) (1) C dX1_wetterNeighbours_41 (by decide) (by first | rfl | exact hNw_rf _) rfl ?_
        refine g_iload_n (q := 45) C dX1_wetterNeighbours_44 rfl rfl ?_
        exact g_iret C dX1_wetterNeighbours_45 (⟨by simp [bI, nWet, c_38], rfl⟩) (Nat.zero_le _) (Nat.zero_le _)
  · subst e_6
    obtain ⟨w_b, s_b, b_b, a_b, fo_b, bs_b, h_b⟩ := hb _ rfl
    refine g_aload_n (q := 10) C dX1_wetterNeighbours_9 rfl (by first | exact hRef_r _ | exact hRef_o _ | exact hRef_n) rfl ?_
    refine g_get (q := 13) C hcl_X1 1 (by decide) qw_81 rfl dX1_wetterNeighbours_10 (by exact h0) rfl rfl ?_
    refine g_aload_n (q := 14) C dX1_wetterNeighbours_13 rfl (by first | exact hRef_r _ | exact hRef_o _ | exact hRef_n) rfl ?_
    refine g_callV1P (q := 17) C hy_X1_isWetterThan (c_X1_isWetterThan Γ l h_b h0) qw_345 (by exact h_b) rfl ⟨Nat.le_of_ble_eq_true rfl, Nat.le_of_ble_eq_true rfl⟩ (Nat.le_of_ble_eq_true rfl) rfl dX1_wetterNeighbours_14 ⟨rfl, rfl⟩ ⟨Nat.zero_le _, Nat.zero_le _⟩ rfl ?_
    refine g_ifB_eq (t := 23) (q := 20) C dX1_wetterNeighbours_17 (by decide) rfl (fun c_17 => ?_) (fun c_17 => ?_)
    · skip
      refine g_aload_n (q := 24) C dX1_wetterNeighbours_23 rfl (by first | exact hRef_r _ | exact hRef_o _ | exact hRef_n) rfl ?_
      refine g_get (q := 27) C hcl_X1 2 (by decide) qw_83 rfl dX1_wetterNeighbours_24 (by exact h0) rfl rfl ?_
      refine g_ifnull (t := 44) (q := 30) C dX1_wetterNeighbours_27 (by decide) rfl (fun e_27 => ?_) (fun y_27 e_27 => ?_)
      · subst e_27
        refine g_iload_n (q := 45) C dX1_wetterNeighbours_44 rfl rfl ?_
        exact g_iret C dX1_wetterNeighbours_45 (⟨by simp [bI, nWet, c_17], rfl⟩) (Nat.zero_le _) (Nat.zero_le _)
      · subst e_27
        obtain ⟨w_a, s_a, b_a, a_a, fo_a, bs_a, h_a⟩ := ha _ rfl
        refine g_aload_n (q := 31) C dX1_wetterNeighbours_30 rfl (by first | exact hRef_r _ | exact hRef_o _ | exact hRef_n) rfl ?_
        refine g_get (q := 34) C hcl_X1 2 (by decide) qw_83 rfl dX1_wetterNeighbours_31 (by exact h0) rfl rfl ?_
        refine g_aload_n (q := 35) C dX1_wetterNeighbours_34 rfl (by first | exact hRef_r _ | exact hRef_o _ | exact hRef_n) rfl ?_
        refine g_callV1P (q := 38) C hy_X1_isWetterThan (c_X1_isWetterThan Γ l h_a h0) qw_345 (by exact h_a) rfl ⟨Nat.le_of_ble_eq_true rfl, Nat.le_of_ble_eq_true rfl⟩ (Nat.le_of_ble_eq_true rfl) rfl dX1_wetterNeighbours_35 ⟨rfl, rfl⟩ ⟨Nat.zero_le _, Nat.zero_le _⟩ rfl ?_
        refine g_ifB_eq (t := 44) (q := 41) C dX1_wetterNeighbours_38 (by decide) rfl (fun c_38 => ?_) (fun c_38 => ?_)
        · skip
          refine g_iload_n (q := 45) C dX1_wetterNeighbours_44 rfl rfl ?_
          exact g_iret C dX1_wetterNeighbours_45 (⟨by simp [bI, nWet, c_17, c_38], rfl⟩) (Nat.zero_le _) (Nat.zero_le _)
        · skip
          refine g_iinc1 (q := 44) (1) C dX1_wetterNeighbours_41 (by decide) (by first | rfl | exact hNw_rf _) rfl ?_
          refine g_iload_n (q := 45) C dX1_wetterNeighbours_44 rfl rfl ?_
          exact g_iret C dX1_wetterNeighbours_45 (⟨by simp [bI, nWet, c_17, c_38], rfl⟩) (Nat.zero_le _) (Nat.zero_le _)
    · skip
      refine g_iinc1 (q := 23) (1) C dX1_wetterNeighbours_20 (by decide) (by first | rfl | exact hNw_rf _) rfl ?_
      refine g_aload_n (q := 24) C dX1_wetterNeighbours_23 rfl (by first | exact hRef_r _ | exact hRef_o _ | exact hRef_n) rfl ?_
      refine g_get (q := 27) C hcl_X1 2 (by decide) qw_83 rfl dX1_wetterNeighbours_24 (by exact h0) rfl rfl ?_
      refine g_ifnull (t := 44) (q := 30) C dX1_wetterNeighbours_27 (by decide) rfl (fun e_27 => ?_) (fun y_27 e_27 => ?_)
      · subst e_27
        refine g_iload_n (q := 45) C dX1_wetterNeighbours_44 rfl rfl ?_
        exact g_iret C dX1_wetterNeighbours_45 (⟨by simp [bI, nWet, c_17], rfl⟩) (Nat.zero_le _) (Nat.zero_le _)
      · subst e_27
        obtain ⟨w_a, s_a, b_a, a_a, fo_a, bs_a, h_a⟩ := ha _ rfl
        refine g_aload_n (q := 31) C dX1_wetterNeighbours_30 rfl (by first | exact hRef_r _ | exact hRef_o _ | exact hRef_n) rfl ?_
        refine g_get (q := 34) C hcl_X1 2 (by decide) qw_83 rfl dX1_wetterNeighbours_31 (by exact h0) rfl rfl ?_
        refine g_aload_n (q := 35) C dX1_wetterNeighbours_34 rfl (by first | exact hRef_r _ | exact hRef_o _ | exact hRef_n) rfl ?_
        refine g_callV1P (q := 38) C hy_X1_isWetterThan (c_X1_isWetterThan Γ l h_a h0) qw_345 (by exact h_a) rfl ⟨Nat.le_of_ble_eq_true rfl, Nat.le_of_ble_eq_true rfl⟩ (Nat.le_of_ble_eq_true rfl) rfl dX1_wetterNeighbours_35 ⟨rfl, rfl⟩ ⟨Nat.zero_le _, Nat.zero_le _⟩ rfl ?_
        refine g_ifB_eq (t := 44) (q := 41) C dX1_wetterNeighbours_38 (by decide) rfl (fun c_38 => ?_) (fun c_38 => ?_)
        · skip
          refine g_iload_n (q := 45) C dX1_wetterNeighbours_44 rfl rfl ?_
          exact g_iret C dX1_wetterNeighbours_45 (⟨by simp [bI, nWet, c_17, c_38], rfl⟩) (Nat.zero_le _) (Nat.zero_le _)
        · skip
          refine g_iinc1 (q := 44) (1) C dX1_wetterNeighbours_41 (by decide) (by first | rfl | exact hNw_rf _) rfl ?_
          refine g_iload_n (q := 45) C dX1_wetterNeighbours_44 rfl rfl ?_
          exact g_iret C dX1_wetterNeighbours_45 (⟨by simp [bI, nWet, c_17, c_38], rfl⟩) (Nat.zero_le _) (Nat.zero_le _)
def bFrc (e s win dmp : Int32) (nb na : Bool) : Int32 := mx0 (e + s + 2 * win - dmp - (bI nb + bI na))
set_option maxRecDepth 100000 in
set_option maxHeartbeats 4000000 in
theorem c_X1_beginDay (Γ : hGam) (l : Launch) {M : hM} {x : Nat} {s : Int32} {b a h : Option Nat} {f bk wd mo fo bs : Int32} {vb va : hB} {e lm : Int32} (win dmp : Int32) (h0 : M x = some (true, oHook s b a h f bk wd mo fo bs)) (hb : ∀ y, b = some y → hAt M y vb) (ha : ∀ y, a = some y → hAt M y va) (hbx : ∀ y, b = some y → y ≠ x) (hax : ∀ y, a = some y → y ≠ x) (hh : ∀ y, h = some y → ∃ (w3 : Bool) (hn : Int32), M y = some (w3, oHerb hn e lm)) : hMet Γ l yX1_beginDay cX1_beginDay 3 none rm_X1_beginDay [.ref x, .int win, .int dmp] M (hpV (fun M1 => M1 = hU M x (oHook s b a h f bk wd mo (if h.isSome then bFrc e s win dmp (nWet b vb (h, f, bk, wd, mo)) (nWet a va (h, f, bk, wd, mo)) else fo) (if h.isSome then bI (nSpr b vb || nSpr a va) else bs)))) := by
  refine hMet_of (by decide +kernel) (Nat.le_of_ble_eq_true rfl) (hCat_cons rfl (hCat_cons rfl (hCat_cons rfl hCat_nil))) (fun k C => ?_)
  show hG _ _ _ _ _ _ _ _ [some (.ref x), some (.int win), some (.int dmp)] _
  refine g_aload_n (q := 1) C dX1_beginDay_0 rfl (by first | exact hRef_r _ | exact hRef_o _ | exact hRef_n) rfl ?_
  refine g_get (q := 4) C hcl_X1 3 (by decide) qw_84 rfl dX1_beginDay_1 (by first | exact h0 | exact hU_s _ _ _ | exact h_h | exact (hU_n hne_h).trans h_h) rfl rfl ?_
  refine g_ifnonnull (t := 8) (q := 7) C dX1_beginDay_4 (by decide) rfl (fun y_4 e_4 => ?_) (fun e_4 => ?_)
  · subst e_4
    obtain ⟨w_h, n_h, h_h⟩ := hh _ rfl
    refine g_aload_n (q := 9) C dX1_beginDay_8 rfl (by first | exact hRef_r _ | exact hRef_o _ | exact hRef_n) rfl ?_
    refine g_iconst (q := 10) (0) C dX1_beginDay_9 (by decide) rfl ?_
    refine g_aload_n (q := 11) C dX1_beginDay_10 rfl (by first | exact hRef_r _ | exact hRef_o _ | exact hRef_n) rfl ?_
    refine g_get (q := 14) C hcl_X1 3 (by decide) qw_84 rfl dX1_beginDay_11 (by first | exact h0 | exact hU_s _ _ _ | exact h_h | exact (hU_n hne_h).trans h_h) rfl rfl ?_
    refine g_get (q := 17) C hcl_X0 1 (by decide) qw_676 rfl dX1_beginDay_14 (by first | exact h0 | exact hU_s _ _ _ | exact h_h | exact (hU_n hne_h).trans h_h) rfl rfl ?_
    refine g_aload_n (q := 18) C dX1_beginDay_17 rfl (by first | exact hRef_r _ | exact hRef_o _ | exact hRef_n) rfl ?_
    refine g_get (q := 21) C hcl_X1 0 (by decide) qw_78 rfl dX1_beginDay_18 (by first | exact h0 | exact hU_s _ _ _ | exact h_h | exact (hU_n hne_h).trans h_h) rfl rfl ?_
    refine g_iadd (q := 22) C dX1_beginDay_21 rfl ?_
    refine g_iconst (q := 23) (2) C dX1_beginDay_22 (by decide) rfl ?_
    refine g_iload_n (q := 24) C dX1_beginDay_23 rfl rfl ?_
    refine g_imul (q := 25) C dX1_beginDay_24 rfl ?_
    refine g_iadd (q := 26) C dX1_beginDay_25 rfl ?_
    refine g_iload_n (q := 27) C dX1_beginDay_26 rfl rfl ?_
    refine g_isub (q := 28) C dX1_beginDay_27 rfl ?_
    refine g_aload_n (q := 29) C dX1_beginDay_28 rfl (by first | exact hRef_r _ | exact hRef_o _ | exact hRef_n) rfl ?_
    refine g_callV0P (q := 32) C hy_X1_wetterNeighbours (c_X1_wetterNeighbours Γ l h0 hb ha) qw_341 (by exact h0) rfl ⟨Nat.le_of_ble_eq_true rfl, Nat.le_of_ble_eq_true rfl⟩ (Nat.le_of_ble_eq_true rfl) rfl dX1_beginDay_29 ⟨rfl, rfl⟩ ⟨Nat.zero_le _, Nat.zero_le _⟩ rfl ?_
    refine g_isub (q := 33) C dX1_beginDay_32 rfl ?_
    refine g_max (q := 36) C qw_349 rfl dX1_beginDay_33 (by decide) (Nat.le_of_ble_eq_true rfl) (Nat.zero_le _) (Nat.zero_le _) rfl hw_max ?_
    refine g_put (q := 39) C hcl_X1 8 (by decide) qw_89 rfl rfl rfl rfl dX1_beginDay_36 (by first | exact h0 | exact hU_s _ _ _ | exact h_h | exact (hU_n hne_h).trans h_h) (Nat.le_of_ble_eq_true rfl) rfl ?_
    (try rw [hU_2])
    refine g_aload_n (q := 40) C dX1_beginDay_39 rfl (by first | exact hRef_r _ | exact hRef_o _ | exact hRef_n) rfl ?_
    refine g_aload_n (q := 41) C dX1_beginDay_40 rfl (by first | exact hRef_r _ | exact hRef_o _ | exact hRef_n) rfl ?_
    refine g_get (q := 44) C hcl_X1 1 (by decide) qw_81 rfl dX1_beginDay_41 (by first | exact h0 | exact hU_s _ _ _ | exact h_h | exact (hU_n hne_h).trans h_h) rfl rfl ?_
    refine g_ifnull (t := 57) (q := 47) C dX1_beginDay_44 (by decide) rfl (fun e_44 => ?_) (fun y_44 e_44 => ?_)
    · subst e_44
      refine g_aload_n (q := 58) C dX1_beginDay_57 rfl (by first | exact hRef_r _ | exact hRef_o _ | exact hRef_n) rfl ?_
      refine g_get (q := 61) C hcl_X1 2 (by decide) qw_83 rfl dX1_beginDay_58 (by first | exact h0 | exact hU_s _ _ _ | exact h_h | exact (hU_n hne_h).trans h_h) rfl rfl ?_
      refine g_ifnull (t := 78) (q := 64) C dX1_beginDay_61 (by decide) rfl (fun e_61 => ?_) (fun y_61 e_61 => ?_)
      · subst e_61
        refine g_iconst (q := 79) (0) C dX1_beginDay_78 (by decide) rfl ?_
        refine g_put (q := 82) C hcl_X1 9 (by decide) qw_90 rfl rfl (by first | rfl | exact hNarB _) (by first | rfl | exact fitsB _ | exact fitsO _) dX1_beginDay_79 (by first | exact h0 | exact hU_s _ _ _ | exact h_h | exact (hU_n hne_h).trans h_h) (Nat.le_of_ble_eq_true rfl) rfl ?_
        (try rw [hU_2])
        exact g_vret C dX1_beginDay_82 (congrArg (fun v => hU M x (oHook s _ _ _ f bk wd mo (bFrc e s win dmp (nWet _ vb _) (nWet _ va _)) v)) (by  simp only [nSpr, Option.isSome, Bool.true_and, Bool.false_and, Bool.true_or, Bool.false_or, Bool.or_false] <;> rfl)) (Nat.zero_le _) (Nat.zero_le _)
      · subst e_61
        obtain ⟨w_a, s_a, b_a, a_a, fo_a, bs_a, h_a⟩ := ha _ rfl
        have hne_a : _ ≠ x := hax _ rfl
        refine g_aload_n (q := 65) C dX1_beginDay_64 rfl (by first | exact hRef_r _ | exact hRef_o _ | exact hRef_n) rfl ?_
        refine g_get (q := 68) C hcl_X1 2 (by decide) qw_83 rfl dX1_beginDay_65 (by first | exact h0 | exact hU_s _ _ _ | exact h_h | exact (hU_n hne_h).trans h_h) rfl rfl ?_
        refine g_callV0P (q := 71) C hy_X1_spreadsMould (c_X1_spreadsMould Γ l ((hU_n hne_a).trans h_a)) qw_352 (by exact (hU_n hne_a).trans h_a) rfl ⟨Nat.le_of_ble_eq_true rfl, Nat.le_of_ble_eq_true rfl⟩ (Nat.le_of_ble_eq_true rfl) rfl dX1_beginDay_68 ⟨rfl, rfl⟩ ⟨Nat.zero_le _, Nat.zero_le _⟩ rfl ?_
        refine g_ifB_eq (t := 78) (q := 74) C dX1_beginDay_71 (by decide) rfl (fun c_71 => ?_) (fun c_71 => ?_)
        · skip
          refine g_iconst (q := 79) (0) C dX1_beginDay_78 (by decide) rfl ?_
          refine g_put (q := 82) C hcl_X1 9 (by decide) qw_90 rfl rfl (by first | rfl | exact hNarB _) (by first | rfl | exact fitsB _ | exact fitsO _) dX1_beginDay_79 (by first | exact h0 | exact hU_s _ _ _ | exact h_h | exact (hU_n hne_h).trans h_h) (Nat.le_of_ble_eq_true rfl) rfl ?_
          (try rw [hU_2])
          exact g_vret C dX1_beginDay_82 (congrArg (fun v => hU M x (oHook s _ _ _ f bk wd mo (bFrc e s win dmp (nWet _ vb _) (nWet _ va _)) v)) (by have c_71 : (bTak va && decide (3 ≤ va.2.2.2.2)) = false := c_71; simp only [nSpr, Option.isSome, Bool.true_and, Bool.false_and, Bool.true_or, Bool.false_or, Bool.or_false, c_71] <;> rfl)) (Nat.zero_le _) (Nat.zero_le _)
        · skip
          refine g_iconst (q := 75) (1) C dX1_beginDay_74 (by decide) rfl ?_
          refine g_goto (t := 79) C dX1_beginDay_75 (by decide) ?_
          refine g_put (q := 82) C hcl_X1 9 (by decide) qw_90 rfl rfl (by first | rfl | exact hNarB _) (by first | rfl | exact fitsB _ | exact fitsO _) dX1_beginDay_79 (by first | exact h0 | exact hU_s _ _ _ | exact h_h | exact (hU_n hne_h).trans h_h) (Nat.le_of_ble_eq_true rfl) rfl ?_
          (try rw [hU_2])
          exact g_vret C dX1_beginDay_82 (congrArg (fun v => hU M x (oHook s _ _ _ f bk wd mo (bFrc e s win dmp (nWet _ vb _) (nWet _ va _)) v)) (by have c_71 : (bTak va && decide (3 ≤ va.2.2.2.2)) = true := c_71; simp only [nSpr, Option.isSome, Bool.true_and, Bool.false_and, Bool.true_or, Bool.false_or, Bool.or_false, c_71] <;> rfl)) (Nat.zero_le _) (Nat.zero_le _)
    · subst e_44
      obtain ⟨w_b, s_b, b_b, a_b, fo_b, bs_b, h_b⟩ := hb _ rfl
      have hne_b : _ ≠ x := hbx _ rfl
      refine g_aload_n (q := 48) C dX1_beginDay_47 rfl (by first | exact hRef_r _ | exact hRef_o _ | exact hRef_n) rfl ?_
      refine g_get (q := 51) C hcl_X1 1 (by decide) qw_81 rfl dX1_beginDay_48 (by first | exact h0 | exact hU_s _ _ _ | exact h_h | exact (hU_n hne_h).trans h_h) rfl rfl ?_
      refine g_callV0P (q := 54) C hy_X1_spreadsMould (c_X1_spreadsMould Γ l ((hU_n hne_b).trans h_b)) qw_352 (by exact (hU_n hne_b).trans h_b) rfl ⟨Nat.le_of_ble_eq_true rfl, Nat.le_of_ble_eq_true rfl⟩ (Nat.le_of_ble_eq_true rfl) rfl dX1_beginDay_51 ⟨rfl, rfl⟩ ⟨Nat.zero_le _, Nat.zero_le _⟩ rfl ?_
      refine g_ifB_ne (t := 74) (q := 57) C dX1_beginDay_54 (by decide) rfl (fun c_54 => ?_) (fun c_54 => ?_)
      · skip
        refine g_iconst (q := 75) (1) C dX1_beginDay_74 (by decide) rfl ?_
        refine g_goto (t := 79) C dX1_beginDay_75 (by decide) ?_
        refine g_put (q := 82) C hcl_X1 9 (by decide) qw_90 rfl rfl (by first | rfl | exact hNarB _) (by first | rfl | exact fitsB _ | exact fitsO _) dX1_beginDay_79 (by first | exact h0 | exact hU_s _ _ _ | exact h_h | exact (hU_n hne_h).trans h_h) (Nat.le_of_ble_eq_true rfl) rfl ?_
        (try rw [hU_2])
        exact g_vret C dX1_beginDay_82 (congrArg (fun v => hU M x (oHook s _ _ _ f bk wd mo (bFrc e s win dmp (nWet _ vb _) (nWet _ va _)) v)) (by have c_54 : (bTak vb && decide (3 ≤ vb.2.2.2.2)) = true := c_54; simp only [nSpr, Option.isSome, Bool.true_and, Bool.false_and, Bool.true_or, Bool.false_or, Bool.or_false, c_54] <;> rfl)) (Nat.zero_le _) (Nat.zero_le _)
      · skip
        refine g_aload_n (q := 58) C dX1_beginDay_57 rfl (by first | exact hRef_r _ | exact hRef_o _ | exact hRef_n) rfl ?_
        refine g_get (q := 61) C hcl_X1 2 (by decide) qw_83 rfl dX1_beginDay_58 (by first | exact h0 | exact hU_s _ _ _ | exact h_h | exact (hU_n hne_h).trans h_h) rfl rfl ?_
        refine g_ifnull (t := 78) (q := 64) C dX1_beginDay_61 (by decide) rfl (fun e_61 => ?_) (fun y_61 e_61 => ?_)
        · subst e_61
          refine g_iconst (q := 79) (0) C dX1_beginDay_78 (by decide) rfl ?_
          refine g_put (q := 82) C hcl_X1 9 (by decide) qw_90 rfl rfl (by first | rfl | exact hNarB _) (by first | rfl | exact fitsB _ | exact fitsO _) dX1_beginDay_79 (by first | exact h0 | exact hU_s _ _ _ | exact h_h | exact (hU_n hne_h).trans h_h) (Nat.le_of_ble_eq_true rfl) rfl ?_
          (try rw [hU_2])
          exact g_vret C dX1_beginDay_82 (congrArg (fun v => hU M x (oHook s _ _ _ f bk wd mo (bFrc e s win dmp (nWet _ vb _) (nWet _ va _)) v)) (by have c_54 : (bTak vb && decide (3 ≤ vb.2.2.2.2)) = false := c_54; simp only [nSpr, Option.isSome, Bool.true_and, Bool.false_and, Bool.true_or, Bool.false_or, Bool.or_false, c_54] <;> rfl)) (Nat.zero_le _) (Nat.zero_le _)
        · subst e_61
          obtain ⟨w_a, s_a, b_a, a_a, fo_a, bs_a, h_a⟩ := ha _ rfl
          have hne_a : _ ≠ x := hax _ rfl
          refine g_aload_n (q := 65) C dX1_beginDay_64 rfl (by first | exact hRef_r _ | exact hRef_o _ | exact hRef_n) rfl ?_
          refine g_get (q := 68) C hcl_X1 2 (by decide) qw_83 rfl dX1_beginDay_65 (by first | exact h0 | exact hU_s _ _ _ | exact h_h | exact (hU_n hne_h).trans h_h) rfl rfl ?_
          refine g_callV0P (q := 71) C hy_X1_spreadsMould (c_X1_spreadsMould Γ l ((hU_n hne_a).trans h_a)) qw_352 (by exact (hU_n hne_a).trans h_a) rfl ⟨Nat.le_of_ble_eq_true rfl, Nat.le_of_ble_eq_true rfl⟩ (Nat.le_of_ble_eq_true rfl) rfl dX1_beginDay_68 ⟨rfl, rfl⟩ ⟨Nat.zero_le _, Nat.zero_le _⟩ rfl ?_
          refine g_ifB_eq (t := 78) (q := 74) C dX1_beginDay_71 (by decide) rfl (fun c_71 => ?_) (fun c_71 => ?_)
          · skip
            refine g_iconst (q := 79) (0) C dX1_beginDay_78 (by decide) rfl ?_
            refine g_put (q := 82) C hcl_X1 9 (by decide) qw_90 rfl rfl (by first | rfl | exact hNarB _) (by first | rfl | exact fitsB _ | exact fitsO _) dX1_beginDay_79 (by first | exact h0 | exact hU_s _ _ _ | exact h_h | exact (hU_n hne_h).trans h_h) (Nat.le_of_ble_eq_true rfl) rfl ?_
            (try rw [hU_2])
            exact g_vret C dX1_beginDay_82 (congrArg (fun v => hU M x (oHook s _ _ _ f bk wd mo (bFrc e s win dmp (nWet _ vb _) (nWet _ va _)) v)) (by have c_54 : (bTak vb && decide (3 ≤ vb.2.2.2.2)) = false := c_54; have c_71 : (bTak va && decide (3 ≤ va.2.2.2.2)) = false := c_71; simp only [nSpr, Option.isSome, Bool.true_and, Bool.false_and, Bool.true_or, Bool.false_or, Bool.or_false, c_54, c_71] <;> rfl)) (Nat.zero_le _) (Nat.zero_le _)
          · skip
            refine g_iconst (q := 75) (1) C dX1_beginDay_74 (by decide) rfl ?_
            refine g_goto (t := 79) C dX1_beginDay_75 (by decide) ?_
            refine g_put (q := 82) C hcl_X1 9 (by decide) qw_90 rfl rfl (by first | rfl | exact hNarB _) (by first | rfl | exact fitsB _ | exact fitsO _) dX1_beginDay_79 (by first | exact h0 | exact hU_s _ _ _ | exact h_h | exact (hU_n hne_h).trans h_h) (Nat.le_of_ble_eq_true rfl) rfl ?_
            (try rw [hU_2])
            exact g_vret C dX1_beginDay_82 (congrArg (fun v => hU M x (oHook s _ _ _ f bk wd mo (bFrc e s win dmp (nWet _ vb _) (nWet _ va _)) v)) (by have c_54 : (bTak vb && decide (3 ≤ vb.2.2.2.2)) = false := c_54; have c_71 : (bTak va && decide (3 ≤ va.2.2.2.2)) = true := c_71; simp only [nSpr, Option.isSome, Bool.true_and, Bool.false_and, Bool.true_or, Bool.false_or, Bool.or_false, c_54, c_71] <;> rfl)) (Nat.zero_le _) (Nat.zero_le _)
  · subst e_4
    exact g_vret C dX1_beginDay_7 ((hU_same h0).symm) (Nat.zero_le _) (Nat.zero_le _)
def dFr (f fo : Int32) : Int32 := mx0 (f - fo)
def dBk (bk fo : Int32) : Int32 := mx0 (bk - fo / 2)
def dWd (lm f bk wd : Int32) : Int32 := if lm < (f + bk) / 2 then wd + 1 else 0
def dM1 (wd mo : Int32) : Int32 := if 3 ≤ wd then (if mo + 1 < 9 then mo + 1 else 9) else mo
def dM2 (mo : Int32) (sp : Bool) : Int32 := if mo = 0 ∧ sp = true then 1 else mo
theorem if_lt9 {α : Sort _} {x y : Int32} {p q : α} (h : ¬ y ≤ x) : (if x < y then p else q) = p := if_pos (Int32.not_le.mp h)
theorem if_nlt9 {α : Sort _} {x y : Int32} {p q : α} (h : y ≤ x) : (if x < y then p else q) = q := if_neg (Int32.not_lt.mpr h)
theorem endDay_eq {M : hM} {x : Nat} {s : Int32} {b a h : Option Nat} {F B wd mo fo bs lm W O : Int32} {sp : Bool} (h1 : W = dWd lm F B wd) (h2 : O = dM2 (dM1 W mo) sp) : hU M x (oHook s b a h F B W O fo bs) = hU M x (oHook s b a h F B (dWd lm F B wd) (dM2 (dM1 (dWd lm F B wd) mo) sp) fo bs) := by
  subst h1
  subst h2
  rfl
set_option maxRecDepth 100000 in
set_option maxHeartbeats 4000000 in
theorem c_X1_endDay (Γ : hGam) (l : Launch) {M : hM} {x : Nat} {s : Int32} {b a h : Option Nat} {f bk wd mo fo : Int32} {sp : Bool} {e lm : Int32} (h0 : M x = some (true, oHook s b a h f bk wd mo fo (bI sp))) (hh : ∀ y, h = some y → ∃ (w3 : Bool) (hn : Int32), M y = some (w3, oHerb hn e lm)) (hhx : ∀ y, h = some y → y ≠ x) : hMet Γ l yX1_endDay cX1_endDay 1 none rm_X1_endDay [.ref x] M (hpV (fun M1 => M1 = hU M x (if h.isSome then oHook s b a h (dFr f fo) (dBk bk fo) (dWd lm (dFr f fo) (dBk bk fo) wd) (dM2 (dM1 (dWd lm (dFr f fo) (dBk bk fo) wd) mo) sp) fo (bI sp) else oHook s b a h f bk wd mo fo (bI sp)))) := by
  refine hMet_of (by decide +kernel) (Nat.le_of_ble_eq_true rfl) (hCat_cons rfl hCat_nil) (fun k C => ?_)
  show hG _ _ _ _ _ _ _ _ [some (.ref x)] _
  refine g_aload_n (q := 1) C dX1_endDay_0 rfl (by first | exact hRef_r _ | exact hRef_o _ | exact hRef_n) rfl ?_
  refine g_get (q := 4) C hcl_X1 3 (by decide) qw_84 rfl dX1_endDay_1 (by first | exact h0 | exact hU_s _ _ _ | exact h_h | exact (hU_n hne_h).trans h_h) rfl rfl ?_
  refine g_ifnonnull (t := 8) (q := 7) C dX1_endDay_4 (by decide) rfl (fun y_4 e_4 => ?_) (fun e_4 => ?_)
  · subst e_4
    obtain ⟨w_h, n_h, h_h⟩ := hh _ rfl
    have hne_h := hhx _ rfl
    refine g_aload_n (q := 9) C dX1_endDay_8 rfl (by first | exact hRef_r _ | exact hRef_o _ | exact hRef_n) rfl ?_
    refine g_iconst (q := 10) (0) C dX1_endDay_9 (by decide) rfl ?_
    refine g_aload_n (q := 11) C dX1_endDay_10 rfl (by first | exact hRef_r _ | exact hRef_o _ | exact hRef_n) rfl ?_
    refine g_get (q := 14) C hcl_X1 4 (by decide) qw_85 rfl dX1_endDay_11 (by first | exact h0 | exact hU_s _ _ _ | exact h_h | exact (hU_n hne_h).trans h_h) rfl rfl ?_
    refine g_aload_n (q := 15) C dX1_endDay_14 rfl (by first | exact hRef_r _ | exact hRef_o _ | exact hRef_n) rfl ?_
    refine g_get (q := 18) C hcl_X1 8 (by decide) qw_89 rfl dX1_endDay_15 (by first | exact h0 | exact hU_s _ _ _ | exact h_h | exact (hU_n hne_h).trans h_h) rfl rfl ?_
    refine g_isub (q := 19) C dX1_endDay_18 rfl ?_
    refine g_max (q := 22) C qw_349 rfl dX1_endDay_19 (by decide) (Nat.le_of_ble_eq_true rfl) (Nat.zero_le _) (Nat.zero_le _) rfl hw_max ?_
    refine g_put (q := 25) C hcl_X1 4 (by decide) qw_85 rfl rfl rfl rfl dX1_endDay_22 (by first | exact h0 | exact hU_s _ _ _ | exact h_h | exact (hU_n hne_h).trans h_h) (Nat.le_of_ble_eq_true rfl) rfl ?_
    (try rw [hU_2])
    refine g_aload_n (q := 26) C dX1_endDay_25 rfl (by first | exact hRef_r _ | exact hRef_o _ | exact hRef_n) rfl ?_
    refine g_iconst (q := 27) (0) C dX1_endDay_26 (by decide) rfl ?_
    refine g_aload_n (q := 28) C dX1_endDay_27 rfl (by first | exact hRef_r _ | exact hRef_o _ | exact hRef_n) rfl ?_
    refine g_get (q := 31) C hcl_X1 5 (by decide) qw_86 rfl dX1_endDay_28 (by first | exact h0 | exact hU_s _ _ _ | exact h_h | exact (hU_n hne_h).trans h_h) rfl rfl ?_
    refine g_aload_n (q := 32) C dX1_endDay_31 rfl (by first | exact hRef_r _ | exact hRef_o _ | exact hRef_n) rfl ?_
    refine g_get (q := 35) C hcl_X1 8 (by decide) qw_89 rfl dX1_endDay_32 (by first | exact h0 | exact hU_s _ _ _ | exact h_h | exact (hU_n hne_h).trans h_h) rfl rfl ?_
    refine g_iconst (q := 36) (2) C dX1_endDay_35 (by decide) rfl ?_
    refine g_idiv (q := 37) C dX1_endDay_36 (by decide) rfl ?_
    refine g_isub (q := 38) C dX1_endDay_37 rfl ?_
    refine g_max (q := 41) C qw_349 rfl dX1_endDay_38 (by decide) (Nat.le_of_ble_eq_true rfl) (Nat.zero_le _) (Nat.zero_le _) rfl hw_max ?_
    refine g_put (q := 44) C hcl_X1 5 (by decide) qw_86 rfl rfl rfl rfl dX1_endDay_41 (by first | exact h0 | exact hU_s _ _ _ | exact h_h | exact (hU_n hne_h).trans h_h) (Nat.le_of_ble_eq_true rfl) rfl ?_
    (try rw [hU_2])
    refine g_aload_n (q := 45) C dX1_endDay_44 rfl (by first | exact hRef_r _ | exact hRef_o _ | exact hRef_n) rfl ?_
    refine g_aload_n (q := 46) C dX1_endDay_45 rfl (by first | exact hRef_r _ | exact hRef_o _ | exact hRef_n) rfl ?_
    refine g_callV0P (q := 49) C hy_X1_wetness (c_X1_wetness Γ l (hU_s _ _ _)) qw_307 (by exact hU_s _ _ _) rfl ⟨Nat.le_of_ble_eq_true rfl, Nat.le_of_ble_eq_true rfl⟩ (Nat.le_of_ble_eq_true rfl) rfl dX1_endDay_46 ⟨rfl, rfl⟩ ⟨Nat.zero_le _, Nat.zero_le _⟩ rfl ?_
    refine g_aload_n (q := 50) C dX1_endDay_49 rfl (by first | exact hRef_r _ | exact hRef_o _ | exact hRef_n) rfl ?_
    refine g_get (q := 53) C hcl_X1 3 (by decide) qw_84 rfl dX1_endDay_50 (by first | exact h0 | exact hU_s _ _ _ | exact h_h | exact (hU_n hne_h).trans h_h) rfl rfl ?_
    refine g_get (q := 56) C hcl_X0 2 (by decide) qw_679 rfl dX1_endDay_53 (by first | exact h0 | exact hU_s _ _ _ | exact h_h | exact (hU_n hne_h).trans h_h) rfl rfl ?_
    refine g_icmp_le (t := 68) (q := 59) C dX1_endDay_56 (by decide) rfl (fun c_56 => ?_) (fun c_56 => ?_)
    · skip
      refine g_iconst (q := 69) (0) C dX1_endDay_68 (by decide) rfl ?_
      refine g_put (q := 72) C hcl_X1 6 (by decide) qw_87 rfl rfl rfl rfl dX1_endDay_69 (by first | exact h0 | exact hU_s _ _ _ | exact h_h | exact (hU_n hne_h).trans h_h) (Nat.le_of_ble_eq_true rfl) rfl ?_
      (try rw [hU_2])
      refine g_aload_n (q := 73) C dX1_endDay_72 rfl (by first | exact hRef_r _ | exact hRef_o _ | exact hRef_n) rfl ?_
      refine g_get (q := 76) C hcl_X1 6 (by decide) qw_87 rfl dX1_endDay_73 (by first | exact h0 | exact hU_s _ _ _ | exact h_h | exact (hU_n hne_h).trans h_h) rfl rfl ?_
      refine g_iconst (q := 77) (3) C dX1_endDay_76 (by decide) rfl ?_
      refine g_icmp_lt (t := 95) (q := 80) C dX1_endDay_77 (by decide) rfl (fun c_77 => ?_) (fun c_77 => ?_)
      · skip
        refine g_aload_n (q := 96) C dX1_endDay_95 rfl (by first | exact hRef_r _ | exact hRef_o _ | exact hRef_n) rfl ?_
        refine g_get (q := 99) C hcl_X1 7 (by decide) qw_88 rfl dX1_endDay_96 (by first | exact h0 | exact hU_s _ _ _ | exact h_h | exact (hU_n hne_h).trans h_h) rfl rfl ?_
        refine g_if_ne (t := 114) (q := 102) C dX1_endDay_99 (by decide) rfl (fun c_99 => ?_) (fun c_99 => ?_)
        · skip
          exact g_vret C dX1_endDay_114 (endDay_eq (by first | exact (if_lt9 c_56).symm | exact (if_nlt9 c_56).symm) (by first | exact absurd (by decide) c_77 | (simp only [dM1, dM2, ← Int32.not_lt, c_56, c_77, c_99, if_true, if_false, not_true, not_false_eq_true, and_true, true_and, and_false, false_and, and_self] <;> rfl))) (Nat.zero_le _) (Nat.zero_le _)
        · skip
          refine g_aload_n (q := 103) C dX1_endDay_102 rfl (by first | exact hRef_r _ | exact hRef_o _ | exact hRef_n) rfl ?_
          refine g_get (q := 106) C hcl_X1 9 (by decide) qw_90 rfl dX1_endDay_103 (by first | exact h0 | exact hU_s _ _ _ | exact h_h | exact (hU_n hne_h).trans h_h) rfl rfl ?_
          refine g_ifB_eq (t := 114) (q := 109) C dX1_endDay_106 (by decide) rfl (fun c_106 => ?_) (fun c_106 => ?_)
          · skip
            exact g_vret C dX1_endDay_114 (endDay_eq (by first | exact (if_lt9 c_56).symm | exact (if_nlt9 c_56).symm) (by first | exact absurd (by decide) c_77 | (simp only [dM1, dM2, ← Int32.not_lt, c_56, c_77, c_99, c_106, if_true, if_false, not_true, not_false_eq_true, and_true, true_and, and_false, false_and, and_self] <;> rfl))) (Nat.zero_le _) (Nat.zero_le _)
          · skip
            refine g_aload_n (q := 110) C dX1_endDay_109 rfl (by first | exact hRef_r _ | exact hRef_o _ | exact hRef_n) rfl ?_
            refine g_iconst (q := 111) (1) C dX1_endDay_110 (by decide) rfl ?_
            refine g_put (q := 114) C hcl_X1 7 (by decide) qw_88 rfl rfl rfl rfl dX1_endDay_111 (by first | exact h0 | exact hU_s _ _ _ | exact h_h | exact (hU_n hne_h).trans h_h) (Nat.le_of_ble_eq_true rfl) rfl ?_
            (try rw [hU_2])
            exact g_vret C dX1_endDay_114 (endDay_eq (by first | exact (if_lt9 c_56).symm | exact (if_nlt9 c_56).symm) (by first | exact absurd (by decide) c_77 | (simp only [dM1, dM2, ← Int32.not_lt, c_56, c_77, c_99, c_106, if_true, if_false, not_true, not_false_eq_true, and_true, true_and, and_false, false_and, and_self] <;> rfl))) (Nat.zero_le _) (Nat.zero_le _)
      · skip
        refine g_aload_n (q := 81) C dX1_endDay_80 rfl (by first | exact hRef_r _ | exact hRef_o _ | exact hRef_n) rfl ?_
        refine g_bipush (q := 83) (9) C dX1_endDay_81 (by decide) rfl ?_
        refine g_aload_n (q := 84) C dX1_endDay_83 rfl (by first | exact hRef_r _ | exact hRef_o _ | exact hRef_n) rfl ?_
        refine g_get (q := 87) C hcl_X1 7 (by decide) qw_88 rfl dX1_endDay_84 (by first | exact h0 | exact hU_s _ _ _ | exact h_h | exact (hU_n hne_h).trans h_h) rfl rfl ?_
        refine g_iconst (q := 88) (1) C dX1_endDay_87 (by decide) rfl ?_
        refine g_iadd (q := 89) C dX1_endDay_88 rfl ?_
        refine g_min (q := 92) C qw_360 rfl dX1_endDay_89 (by decide) (Nat.le_of_ble_eq_true rfl) (Nat.zero_le _) (Nat.zero_le _) rfl hw_min ?_
        refine g_put (q := 95) C hcl_X1 7 (by decide) qw_88 rfl rfl rfl rfl dX1_endDay_92 (by first | exact h0 | exact hU_s _ _ _ | exact h_h | exact (hU_n hne_h).trans h_h) (Nat.le_of_ble_eq_true rfl) rfl ?_
        (try rw [hU_2])
        refine g_aload_n (q := 96) C dX1_endDay_95 rfl (by first | exact hRef_r _ | exact hRef_o _ | exact hRef_n) rfl ?_
        refine g_get (q := 99) C hcl_X1 7 (by decide) qw_88 rfl dX1_endDay_96 (by first | exact h0 | exact hU_s _ _ _ | exact h_h | exact (hU_n hne_h).trans h_h) rfl rfl ?_
        refine g_if_ne (t := 114) (q := 102) C dX1_endDay_99 (by decide) rfl (fun c_99 => ?_) (fun c_99 => ?_)
        · skip
          exact g_vret C dX1_endDay_114 (endDay_eq (by first | exact (if_lt9 c_56).symm | exact (if_nlt9 c_56).symm) (by first | exact absurd (by decide) c_77 | (simp only [dM1, dM2, ← Int32.not_lt, c_56, c_77, c_99, if_true, if_false, not_true, not_false_eq_true, and_true, true_and, and_false, false_and, and_self] <;> rfl))) (Nat.zero_le _) (Nat.zero_le _)
        · skip
          refine g_aload_n (q := 103) C dX1_endDay_102 rfl (by first | exact hRef_r _ | exact hRef_o _ | exact hRef_n) rfl ?_
          refine g_get (q := 106) C hcl_X1 9 (by decide) qw_90 rfl dX1_endDay_103 (by first | exact h0 | exact hU_s _ _ _ | exact h_h | exact (hU_n hne_h).trans h_h) rfl rfl ?_
          refine g_ifB_eq (t := 114) (q := 109) C dX1_endDay_106 (by decide) rfl (fun c_106 => ?_) (fun c_106 => ?_)
          · skip
            exact g_vret C dX1_endDay_114 (endDay_eq (by first | exact (if_lt9 c_56).symm | exact (if_nlt9 c_56).symm) (by first | exact absurd (by decide) c_77 | (simp only [dM1, dM2, ← Int32.not_lt, c_56, c_77, c_99, c_106, if_true, if_false, not_true, not_false_eq_true, and_true, true_and, and_false, false_and, and_self] <;> rfl))) (Nat.zero_le _) (Nat.zero_le _)
          · skip
            refine g_aload_n (q := 110) C dX1_endDay_109 rfl (by first | exact hRef_r _ | exact hRef_o _ | exact hRef_n) rfl ?_
            refine g_iconst (q := 111) (1) C dX1_endDay_110 (by decide) rfl ?_
            refine g_put (q := 114) C hcl_X1 7 (by decide) qw_88 rfl rfl rfl rfl dX1_endDay_111 (by first | exact h0 | exact hU_s _ _ _ | exact h_h | exact (hU_n hne_h).trans h_h) (Nat.le_of_ble_eq_true rfl) rfl ?_
            (try rw [hU_2])
            exact g_vret C dX1_endDay_114 (endDay_eq (by first | exact (if_lt9 c_56).symm | exact (if_nlt9 c_56).symm) (by first | exact absurd (by decide) c_77 | (simp only [dM1, dM2, ← Int32.not_lt, c_56, c_77, c_99, c_106, if_true, if_false, not_true, not_false_eq_true, and_true, true_and, and_false, false_and, and_self] <;> rfl))) (Nat.zero_le _) (Nat.zero_le _)
    · skip
      refine g_aload_n (q := 60) C dX1_endDay_59 rfl (by first | exact hRef_r _ | exact hRef_o _ | exact hRef_n) rfl ?_
      refine g_get (q := 63) C hcl_X1 6 (by decide) qw_87 rfl dX1_endDay_60 (by first | exact h0 | exact hU_s _ _ _ | exact h_h | exact (hU_n hne_h).trans h_h) rfl rfl ?_
      refine g_iconst (q := 64) (1) C dX1_endDay_63 (by decide) rfl ?_
      refine g_iadd (q := 65) C dX1_endDay_64 rfl ?_
      refine g_goto (t := 69) C dX1_endDay_65 (by decide) ?_
      refine g_put (q := 72) C hcl_X1 6 (by decide) qw_87 rfl rfl rfl rfl dX1_endDay_69 (by first | exact h0 | exact hU_s _ _ _ | exact h_h | exact (hU_n hne_h).trans h_h) (Nat.le_of_ble_eq_true rfl) rfl ?_
      (try rw [hU_2])
      refine g_aload_n (q := 73) C dX1_endDay_72 rfl (by first | exact hRef_r _ | exact hRef_o _ | exact hRef_n) rfl ?_
      refine g_get (q := 76) C hcl_X1 6 (by decide) qw_87 rfl dX1_endDay_73 (by first | exact h0 | exact hU_s _ _ _ | exact h_h | exact (hU_n hne_h).trans h_h) rfl rfl ?_
      refine g_iconst (q := 77) (3) C dX1_endDay_76 (by decide) rfl ?_
      refine g_icmp_lt (t := 95) (q := 80) C dX1_endDay_77 (by decide) rfl (fun c_77 => ?_) (fun c_77 => ?_)
      · skip
        refine g_aload_n (q := 96) C dX1_endDay_95 rfl (by first | exact hRef_r _ | exact hRef_o _ | exact hRef_n) rfl ?_
        refine g_get (q := 99) C hcl_X1 7 (by decide) qw_88 rfl dX1_endDay_96 (by first | exact h0 | exact hU_s _ _ _ | exact h_h | exact (hU_n hne_h).trans h_h) rfl rfl ?_
        refine g_if_ne (t := 114) (q := 102) C dX1_endDay_99 (by decide) rfl (fun c_99 => ?_) (fun c_99 => ?_)
        · skip
          exact g_vret C dX1_endDay_114 (endDay_eq (by first | exact (if_lt9 c_56).symm | exact (if_nlt9 c_56).symm) (by first | exact absurd (by decide) c_77 | (simp only [dM1, dM2, ← Int32.not_lt, c_56, c_77, c_99, if_true, if_false, not_true, not_false_eq_true, and_true, true_and, and_false, false_and, and_self] <;> rfl))) (Nat.zero_le _) (Nat.zero_le _)
        · skip
          refine g_aload_n (q := 103) C dX1_endDay_102 rfl (by first | exact hRef_r _ | exact hRef_o _ | exact hRef_n) rfl ?_
          refine g_get (q := 106) C hcl_X1 9 (by decide) qw_90 rfl dX1_endDay_103 (by first | exact h0 | exact hU_s _ _ _ | exact h_h | exact (hU_n hne_h).trans h_h) rfl rfl ?_
          refine g_ifB_eq (t := 114) (q := 109) C dX1_endDay_106 (by decide) rfl (fun c_106 => ?_) (fun c_106 => ?_)
          · skip
            exact g_vret C dX1_endDay_114 (endDay_eq (by first | exact (if_lt9 c_56).symm | exact (if_nlt9 c_56).symm) (by first | exact absurd (by decide) c_77 | (simp only [dM1, dM2, ← Int32.not_lt, c_56, c_77, c_99, c_106, if_true, if_false, not_true, not_false_eq_true, and_true, true_and, and_false, false_and, and_self] <;> rfl))) (Nat.zero_le _) (Nat.zero_le _)
          · skip
            refine g_aload_n (q := 110) C dX1_endDay_109 rfl (by first | exact hRef_r _ | exact hRef_o _ | exact hRef_n) rfl ?_
            refine g_iconst (q := 111) (1) C dX1_endDay_110 (by decide) rfl ?_
            refine g_put (q := 114) C hcl_X1 7 (by decide) qw_88 rfl rfl rfl rfl dX1_endDay_111 (by first | exact h0 | exact hU_s _ _ _ | exact h_h | exact (hU_n hne_h).trans h_h) (Nat.le_of_ble_eq_true rfl) rfl ?_
            (try rw [hU_2])
            exact g_vret C dX1_endDay_114 (endDay_eq (by first | exact (if_lt9 c_56).symm | exact (if_nlt9 c_56).symm) (by first | exact absurd (by decide) c_77 | (simp only [dM1, dM2, ← Int32.not_lt, c_56, c_77, c_99, c_106, if_true, if_false, not_true, not_false_eq_true, and_true, true_and, and_false, false_and, and_self] <;> rfl))) (Nat.zero_le _) (Nat.zero_le _)
      · skip
        refine g_aload_n (q := 81) C dX1_endDay_80 rfl (by first | exact hRef_r _ | exact hRef_o _ | exact hRef_n) rfl ?_
        refine g_bipush (q := 83) (9) C dX1_endDay_81 (by decide) rfl ?_
        refine g_aload_n (q := 84) C dX1_endDay_83 rfl (by first | exact hRef_r _ | exact hRef_o _ | exact hRef_n) rfl ?_
        refine g_get (q := 87) C hcl_X1 7 (by decide) qw_88 rfl dX1_endDay_84 (by first | exact h0 | exact hU_s _ _ _ | exact h_h | exact (hU_n hne_h).trans h_h) rfl rfl ?_
        refine g_iconst (q := 88) (1) C dX1_endDay_87 (by decide) rfl ?_
        refine g_iadd (q := 89) C dX1_endDay_88 rfl ?_
        refine g_min (q := 92) C qw_360 rfl dX1_endDay_89 (by decide) (Nat.le_of_ble_eq_true rfl) (Nat.zero_le _) (Nat.zero_le _) rfl hw_min ?_
        refine g_put (q := 95) C hcl_X1 7 (by decide) qw_88 rfl rfl rfl rfl dX1_endDay_92 (by first | exact h0 | exact hU_s _ _ _ | exact h_h | exact (hU_n hne_h).trans h_h) (Nat.le_of_ble_eq_true rfl) rfl ?_
        (try rw [hU_2])
        refine g_aload_n (q := 96) C dX1_endDay_95 rfl (by first | exact hRef_r _ | exact hRef_o _ | exact hRef_n) rfl ?_
        refine g_get (q := 99) C hcl_X1 7 (by decide) qw_88 rfl dX1_endDay_96 (by first | exact h0 | exact hU_s _ _ _ | exact h_h | exact (hU_n hne_h).trans h_h) rfl rfl ?_
        refine g_if_ne (t := 114) (q := 102) C dX1_endDay_99 (by decide) rfl (fun c_99 => ?_) (fun c_99 => ?_)
        · skip
          exact g_vret C dX1_endDay_114 (endDay_eq (by first | exact (if_lt9 c_56).symm | exact (if_nlt9 c_56).symm) (by first | exact absurd (by decide) c_77 | (simp only [dM1, dM2, ← Int32.not_lt, c_56, c_77, c_99, if_true, if_false, not_true, not_false_eq_true, and_true, true_and, and_false, false_and, and_self] <;> rfl))) (Nat.zero_le _) (Nat.zero_le _)
        · skip
          refine g_aload_n (q := 103) C dX1_endDay_102 rfl (by first | exact hRef_r _ | exact hRef_o _ | exact hRef_n) rfl ?_
          refine g_get (q := 106) C hcl_X1 9 (by decide) qw_90 rfl dX1_endDay_103 (by first | exact h0 | exact hU_s _ _ _ | exact h_h | exact (hU_n hne_h).trans h_h) rfl rfl ?_
          refine g_ifB_eq (t := 114) (q := 109) C dX1_endDay_106 (by decide) rfl (fun c_106 => ?_) (fun c_106 => ?_)
          · skip
            exact g_vret C dX1_endDay_114 (endDay_eq (by first | exact (if_lt9 c_56).symm | exact (if_nlt9 c_56).symm) (by first | exact absurd (by decide) c_77 | (simp only [dM1, dM2, ← Int32.not_lt, c_56, c_77, c_99, c_106, if_true, if_false, not_true, not_false_eq_true, and_true, true_and, and_false, false_and, and_self] <;> rfl))) (Nat.zero_le _) (Nat.zero_le _)
          · skip
            refine g_aload_n (q := 110) C dX1_endDay_109 rfl (by first | exact hRef_r _ | exact hRef_o _ | exact hRef_n) rfl ?_
            refine g_iconst (q := 111) (1) C dX1_endDay_110 (by decide) rfl ?_
            refine g_put (q := 114) C hcl_X1 7 (by decide) qw_88 rfl rfl rfl rfl dX1_endDay_111 (by first | exact h0 | exact hU_s _ _ _ | exact h_h | exact (hU_n hne_h).trans h_h) (Nat.le_of_ble_eq_true rfl) rfl ?_
            (try rw [hU_2])
            exact g_vret C dX1_endDay_114 (endDay_eq (by first | exact (if_lt9 c_56).symm | exact (if_nlt9 c_56).symm) (by first | exact absurd (by decide) c_77 | (simp only [dM1, dM2, ← Int32.not_lt, c_56, c_77, c_99, c_106, if_true, if_false, not_true, not_false_eq_true, and_true, true_and, and_false, false_and, and_self] <;> rfl))) (Nat.zero_le _) (Nat.zero_le _)
  · subst e_4
    exact g_vret C dX1_endDay_7 ((hU_same h0).symm) (Nat.zero_le _) (Nat.zero_le _)
def bTel (hn : Int32) (v : hB) (nb ne : Int32) (what : Int32) : Int32 :=
  if v.1.isSome then (if what = 0 then hn else if what = 1 then v.2.1 else if what = 2 then v.2.2.1 else if what = 3 then bWet v else if what = 4 then v.2.2.2.1 else if what = 5 then v.2.2.2.2 else if what = 6 then nb else ne) else -1
set_option maxRecDepth 100000 in
set_option maxHeartbeats 4000000 in
theorem c_X1_tells (Γ : hGam) (l : Launch) {M : hM} {x : Nat} {w : Bool} {s : Int32} {b a h : Option Nat} {f bk wd mo fo bs : Int32} {vb va : hB} {hn : Int32} (what : Int32) (h0 : M x = some (w, oHook s b a h f bk wd mo fo bs)) (hb : ∀ y, b = some y → hAt M y vb) (ha : ∀ y, a = some y → hAt M y va) (hh : ∀ y, h = some y → ∃ (w3 : Bool) (e lm : Int32), M y = some (w3, oHerb hn e lm)) : hMet Γ l yX1_tells cX1_tells 2 (some .int) rm_X1_tells [.ref x, .int what] M (hpP M (bTel hn (h, f, bk, wd, mo) (bI (nTak b vb) + bI (nTak a va)) (bI (nWet b vb (h, f, bk, wd, mo)) + bI (nWet a va (h, f, bk, wd, mo))) what)) := by
  refine hMet_of (by decide +kernel) (Nat.le_of_ble_eq_true rfl) (hCat_cons rfl (hCat_cons rfl hCat_nil)) (fun k C => ?_)
  show hG _ _ _ _ _ _ _ _ [some (.ref x), some (.int what)] _
  refine g_aload_n (q := 1) C dX1_tells_0 rfl (by first | exact hRef_r _ | exact hRef_o _ | exact hRef_n) rfl ?_
  refine g_get (q := 4) C hcl_X1 3 (by decide) qw_84 rfl dX1_tells_1 (by first | exact h0 | exact h_h) rfl rfl ?_
  refine g_ifnonnull (t := 9) (q := 7) C dX1_tells_4 (by decide) rfl (fun y_4 e_4 => ?_) (fun e_4 => ?_)
  · subst e_4
    obtain ⟨w_h, e_h, l_h, h_h⟩ := hh _ rfl
    refine g_iload_n (q := 10) C dX1_tells_9 rfl rfl ?_
    by_cases s_0 : what = 0
    · skip
      refine g_tswI (t := 52) 0 C dX1_tells_10 (by rw [s_0]; rfl) (by decide) (by decide) rfl (by decide) ?_
      refine g_aload_n (q := 53) C dX1_tells_52 rfl (by first | exact hRef_r _ | exact hRef_o _ | exact hRef_n) rfl ?_
      refine g_get (q := 56) C hcl_X1 3 (by decide) qw_84 rfl dX1_tells_53 (by first | exact h0 | exact h_h) rfl rfl ?_
      refine g_get (q := 59) C hcl_X0 0 (by decide) qw_673 rfl dX1_tells_56 (by first | exact h0 | exact h_h) rfl rfl ?_
      exact g_iret C dX1_tells_59 (⟨by simp [bTel, bWet, *], rfl⟩) (Nat.zero_le _) (Nat.zero_le _)
    by_cases s_1 : what = 1
    · skip
      refine g_tswI (t := 60) 1 C dX1_tells_10 (by rw [s_1]; rfl) (by decide) (by decide) rfl (by decide) ?_
      refine g_aload_n (q := 61) C dX1_tells_60 rfl (by first | exact hRef_r _ | exact hRef_o _ | exact hRef_n) rfl ?_
      refine g_get (q := 64) C hcl_X1 4 (by decide) qw_85 rfl dX1_tells_61 (by first | exact h0 | exact h_h) rfl rfl ?_
      exact g_iret C dX1_tells_64 (⟨by simp [bTel, bWet, *], rfl⟩) (Nat.zero_le _) (Nat.zero_le _)
    by_cases s_2 : what = 2
    · skip
      refine g_tswI (t := 65) 2 C dX1_tells_10 (by rw [s_2]; rfl) (by decide) (by decide) rfl (by decide) ?_
      refine g_aload_n (q := 66) C dX1_tells_65 rfl (by first | exact hRef_r _ | exact hRef_o _ | exact hRef_n) rfl ?_
      refine g_get (q := 69) C hcl_X1 5 (by decide) qw_86 rfl dX1_tells_66 (by first | exact h0 | exact h_h) rfl rfl ?_
      exact g_iret C dX1_tells_69 (⟨by simp [bTel, bWet, *], rfl⟩) (Nat.zero_le _) (Nat.zero_le _)
    by_cases s_3 : what = 3
    · skip
      refine g_tswI (t := 70) 3 C dX1_tells_10 (by rw [s_3]; rfl) (by decide) (by decide) rfl (by decide) ?_
      refine g_aload_n (q := 71) C dX1_tells_70 rfl (by first | exact hRef_r _ | exact hRef_o _ | exact hRef_n) rfl ?_
      refine g_callV0P (q := 74) C hy_X1_wetness (c_X1_wetness Γ l h0) qw_307 (by exact h0) rfl ⟨Nat.le_of_ble_eq_true rfl, Nat.le_of_ble_eq_true rfl⟩ (Nat.le_of_ble_eq_true rfl) rfl dX1_tells_71 ⟨rfl, rfl⟩ ⟨Nat.zero_le _, Nat.zero_le _⟩ rfl ?_
      exact g_iret C dX1_tells_74 (⟨by simp [bTel, bWet, *], rfl⟩) (Nat.zero_le _) (Nat.zero_le _)
    by_cases s_4 : what = 4
    · skip
      refine g_tswI (t := 75) 4 C dX1_tells_10 (by rw [s_4]; rfl) (by decide) (by decide) rfl (by decide) ?_
      refine g_aload_n (q := 76) C dX1_tells_75 rfl (by first | exact hRef_r _ | exact hRef_o _ | exact hRef_n) rfl ?_
      refine g_get (q := 79) C hcl_X1 6 (by decide) qw_87 rfl dX1_tells_76 (by first | exact h0 | exact h_h) rfl rfl ?_
      exact g_iret C dX1_tells_79 (⟨by simp [bTel, bWet, *], rfl⟩) (Nat.zero_le _) (Nat.zero_le _)
    by_cases s_5 : what = 5
    · skip
      refine g_tswI (t := 80) 5 C dX1_tells_10 (by rw [s_5]; rfl) (by decide) (by decide) rfl (by decide) ?_
      refine g_aload_n (q := 81) C dX1_tells_80 rfl (by first | exact hRef_r _ | exact hRef_o _ | exact hRef_n) rfl ?_
      refine g_get (q := 84) C hcl_X1 7 (by decide) qw_88 rfl dX1_tells_81 (by first | exact h0 | exact h_h) rfl rfl ?_
      exact g_iret C dX1_tells_84 (⟨by simp [bTel, bWet, *], rfl⟩) (Nat.zero_le _) (Nat.zero_le _)
    by_cases s_6 : what = 6
    · skip
      refine g_tswI (t := 85) 6 C dX1_tells_10 (by rw [s_6]; rfl) (by decide) (by decide) rfl (by decide) ?_
      refine g_aload_n (q := 86) C dX1_tells_85 rfl (by first | exact hRef_r _ | exact hRef_o _ | exact hRef_n) rfl ?_
      refine g_callV0P (q := 89) C hy_X1_neighbours (c_X1_neighbours Γ l h0 hb ha) qw_380 (by exact h0) rfl ⟨Nat.le_of_ble_eq_true rfl, Nat.le_of_ble_eq_true rfl⟩ (Nat.le_of_ble_eq_true rfl) rfl dX1_tells_86 ⟨rfl, rfl⟩ ⟨Nat.zero_le _, Nat.zero_le _⟩ rfl ?_
      exact g_iret C dX1_tells_89 (⟨by simp [bTel, bWet, *], rfl⟩) (Nat.zero_le _) (Nat.zero_le _)
    refine g_tswO (t := 90) C dX1_tells_10 (by have n_0 := hNeI s_0 (m := 0) rfl; have n_1 := hNeI s_1 (m := 1) rfl; have n_2 := hNeI s_2 (m := 2) rfl; have n_3 := hNeI s_3 (m := 3) rfl; have n_4 := hNeI s_4 (m := 4) rfl; have n_5 := hNeI s_5 (m := 5) rfl; have n_6 := hNeI s_6 (m := 6) rfl; omega) (by decide) ?_
    refine g_aload_n (q := 91) C dX1_tells_90 rfl (by first | exact hRef_r _ | exact hRef_o _ | exact hRef_n) rfl ?_
    refine g_callV0P (q := 94) C hy_X1_wetterNeighbours (c_X1_wetterNeighbours Γ l h0 hb ha) qw_341 (by exact h0) rfl ⟨Nat.le_of_ble_eq_true rfl, Nat.le_of_ble_eq_true rfl⟩ (Nat.le_of_ble_eq_true rfl) rfl dX1_tells_91 ⟨rfl, rfl⟩ ⟨Nat.zero_le _, Nat.zero_le _⟩ rfl ?_
    exact g_iret C dX1_tells_94 (⟨by simp [bTel, bWet, *], rfl⟩) (Nat.zero_le _) (Nat.zero_le _)
  · subst e_4
    refine g_iconst (q := 8) (-1) C dX1_tells_7 (by decide) rfl ?_
    exact g_iret C dX1_tells_8 (⟨by simp [bTel, bWet, *], rfl⟩) (Nat.zero_le _) (Nat.zero_le _)
