/-! ===== the cells by name ===== -/
abbrev oHerb (n e lm : Int32) : va_E := .inr (1, [.int n, .int e, .int lm])
abbrev oHook (s : Int32) (b a h : Option Nat) (f bk wd mo fo bs : Int32) : va_E := .inr (2, [.int s, va_rf b, va_rf a, va_rf h, .int f, .int bk, .int wd, .int mo, .int fo, .int bs])
abbrev oOrder (h : Option Nat) (many wet got : Int32) : va_E := .inr (3, [va_rf h, .int many, .int wet, .int got])
abbrev oRack (a : Option Nat) : va_E := .inr (4, [va_rf a])
abbrev oLoft (hs os rk tr : Option Nat) (win day : Int32) : va_E := .inr (5, [va_rf hs, va_rf os, va_rf rk, va_rf tr, .int win, .int day])
abbrev oSim (d w g : Int32) (h o lf : Option Nat) : va_E := .inr (6, [.int d, .int w, .int g, va_rf h, va_rf o, va_rf lf])
abbrev oList (mod : Int32) (ed : Option Nat) (size : Int32) : va_E := .inr (0, [.int mod, va_rf ed, .int size])
theorem fitsB (b : Bool) : fits .boolean (.int (bI b)) = true := by cases b <;> rfl
theorem narO {nm : String} (o : Option Nat) : narrow (.object nm) (va_rf o) = va_rf o := by cases o <;> rfl
theorem fitsO {nm : String} (o : Option Nat) : fits (.object nm) (va_rf o) = true := by cases o <;> rfl
theorem hNeI {x v : Int32} {m : Int} (h : ¬ x = v) (hm : v.toInt = m) : x.toInt ≠ m := fun e => h (Int32.toInt_inj.mp (by rw [hm]; exact e))
theorem hNw_rf (o : Option Nat) : hNw (some (va_rf o)) = true := by cases o <;> rfl
theorem bI_t : bI true = 1 := rfl
theorem bI_f : bI false = 0 := rfl
theorem hcl_X0 : hCls 1 RX0 TX0 3 tyX0 := ⟨hinX0, tyX0_ok, nmX0, rfl⟩
theorem hcl_X1 : hCls 2 RX1 TX1 10 tyX1 := ⟨hinX1, tyX1_ok, nmX1, rfl⟩
theorem hcl_X2 : hCls 3 RX2 TX2 4 tyX2 := ⟨hinX2, tyX2_ok, nmX2, rfl⟩
theorem hcl_X3 : hCls 4 RX3 TX3 1 tyX3 := ⟨hinX3, tyX3_ok, nmX3, rfl⟩
theorem hcl_X4 : hCls 5 RX4 TX4 6 tyX4 := ⟨hinX4, tyX4_ok, nmX4, rfl⟩
theorem hcl_X5 : hCls 6 RX5 TX5 6 tyX5 := ⟨hinX5, tyX5_ok, nmX5, rfl⟩
theorem hcl_Jx4a65c : hCls 0 RJx4a65c TJx4a65c 3 tyJx4a65c := ⟨hinJx4a65c, tyJx4a65c_ok, nmJx4a65c, rfl⟩
theorem hfs_X0 : ∀ j, j < 3 → defaultValue (tyX0 j) = vp_V [.int 0, .int 0, .int 0] j := by
  intro j hj
  match j, hj with
  | 0, _ => rfl
  | 1, _ => rfl
  | 2, _ => rfl
  | n + 3, h => omega
theorem hfs_X1 : ∀ j, j < 10 → defaultValue (tyX1 j) = vp_V [.int 0, .null, .null, .null, .int 0, .int 0, .int 0, .int 0, .int 0, .int 0] j := by
  intro j hj
  match j, hj with
  | 0, _ => rfl
  | 1, _ => rfl
  | 2, _ => rfl
  | 3, _ => rfl
  | 4, _ => rfl
  | 5, _ => rfl
  | 6, _ => rfl
  | 7, _ => rfl
  | 8, _ => rfl
  | 9, _ => rfl
  | n + 10, h => omega
theorem hfs_X2 : ∀ j, j < 4 → defaultValue (tyX2 j) = vp_V [.null, .int 0, .int 0, .int 0] j := by
  intro j hj
  match j, hj with
  | 0, _ => rfl
  | 1, _ => rfl
  | 2, _ => rfl
  | 3, _ => rfl
  | n + 4, h => omega
theorem hfs_X3 : ∀ j, j < 1 → defaultValue (tyX3 j) = vp_V [.null] j := by
  intro j hj
  match j, hj with
  | 0, _ => rfl
  | n + 1, h => omega
theorem hfs_X4 : ∀ j, j < 6 → defaultValue (tyX4 j) = vp_V [.null, .null, .null, .null, .int 0, .int 0] j := by
  intro j hj
  match j, hj with
  | 0, _ => rfl
  | 1, _ => rfl
  | 2, _ => rfl
  | 3, _ => rfl
  | 4, _ => rfl
  | 5, _ => rfl
  | n + 6, h => omega
theorem hfs_X5 : ∀ j, j < 6 → defaultValue (tyX5 j) = vp_V [.int 0, .int 0, .int 0, .null, .null, .null] j := by
  intro j hj
  match j, hj with
  | 0, _ => rfl
  | 1, _ => rfl
  | 2, _ => rfl
  | 3, _ => rfl
  | 4, _ => rfl
  | 5, _ => rfl
  | n + 6, h => omega
theorem hfs_Jx4a65c : ∀ j, j < 3 → defaultValue (tyJx4a65c j) = vp_V [.int 0, .null, .int 0] j := by
  intro j hj
  match j, hj with
  | 0, _ => rfl
  | 1, _ => rfl
  | 2, _ => rfl
  | n + 3, h => omega
theorem hw_max : Cond.static Lib.Math.max.name ∈ hTbl ∧ Cond.initialized "java/lang/Math" ∈ hTbl ∧ Cond.code Lib.Math.max.name Lib.Math.max.code 2 (some .int) ∈ hTbl := ⟨qw_350, qw_24, qw_351⟩
theorem hw_min : Cond.static Lib.Math.min.name ∈ hTbl ∧ Cond.initialized "java/lang/Math" ∈ hTbl ∧ Cond.code Lib.Math.min.name Lib.Math.min.code 2 (some .int) ∈ hTbl := ⟨qw_361, qw_24, qw_362⟩
theorem hw_copy : Cond.native arraycopyName ∈ hTbl ∧ Cond.static arraycopyName ∈ hTbl ∧ Cond.initialized "java/lang/System" ∈ hTbl := ⟨qw_622, qw_621, qw_26⟩
abbrev rm_X4_init : Room := { frames := 4, cells := 86, slots := 888, locals := 80 }
theorem hy_X4_init : hYI yX4_init cX4_init 1 0 := ⟨⟨qw_35, qw_10, by decide, by decide +kernel⟩, qw_34, rfl⟩
abbrev rm_Jx4a65c_init_da8c8 : Room := { frames := 3, cells := 0, slots := 0, locals := 60 }
theorem hy_Jx4a65c_init_da8c8 : hYI yJx4a65c_init_da8c8 cJx4a65c_init_da8c8 1 0 := ⟨⟨qw_43, qw_13, by decide, by decide +kernel⟩, qw_42, rfl⟩
abbrev rm_Jxc12de_init_da8c8 : Room := { frames := 2, cells := 0, slots := 0, locals := 40 }
theorem hy_Jxc12de_init_da8c8 : hYI yJxc12de_init_da8c8 cJxc12de_init_da8c8 1 0 := ⟨⟨qw_46, qw_12, by decide, by decide +kernel⟩, qw_45, rfl⟩
abbrev rm_Jxa1e45_init_da8c8 : Room := { frames := 1, cells := 0, slots := 0, locals := 20 }
theorem hy_Jxa1e45_init_da8c8 : hYI yJxa1e45_init_da8c8 cJxa1e45_init_da8c8 1 0 := ⟨⟨qw_49, qw_11, by decide, by decide +kernel⟩, qw_48, rfl⟩
abbrev rm_X3_init : Room := { frames := 2, cells := 41, slots := 440, locals := 41 }
theorem hy_X3_init : hYI yX3_init cX3_init 5 0 := ⟨⟨qw_69, qw_14, by decide, by decide +kernel⟩, qw_68, rfl⟩
abbrev rm_X1_init : Room := { frames := 1, cells := 0, slots := 0, locals := 20 }
theorem hy_X1_init : hYI yX1_init cX1_init 2 1 := ⟨⟨qw_76, qw_15, by decide, by decide +kernel⟩, qw_75, rfl⟩
abbrev rm_X4_move : Room := { frames := 6, cells := 1, slots := 6, locals := 90 }
theorem hy_X4_move : hYV yX4_move cX4_move 7 (some .int) 4 := ⟨⟨qw_138, qw_10, by decide, by decide +kernel⟩, qw_136, qw_137⟩
abbrev rm_X3_hookAt : Room := { frames := 1, cells := 0, slots := 0, locals := 22 }
theorem hy_X3_hookAt : hYV yX3_hookAt cX3_hookAt 3 (some (.object RX1)) 2 := ⟨⟨qw_142, qw_14, by decide, by decide +kernel⟩, qw_140, qw_141⟩
abbrev rm_X4_isWithin : Room := { frames := 0, cells := 0, slots := 0, locals := 0 }
theorem hy_X4_isWithin : hYS yX4_isWithin cX4_isWithin 3 (some .boolean) 3 := ⟨⟨qw_145, qw_10, by decide, by decide +kernel⟩, qw_144⟩
abbrev rm_X1_isTaken : Room := { frames := 0, cells := 0, slots := 0, locals := 0 }
theorem hy_X1_isTaken : hYV yX1_isTaken cX1_isTaken 1 (some .boolean) 0 := ⟨⟨qw_217, qw_15, by decide, by decide +kernel⟩, qw_215, qw_216⟩
abbrev rm_X1_copyBundleOf : Room := { frames := 0, cells := 0, slots := 0, locals := 0 }
theorem hy_X1_copyBundleOf : hYV yX1_copyBundleOf cX1_copyBundleOf 2 none 1 := ⟨⟨qw_238, qw_15, by decide, by decide +kernel⟩, qw_236, qw_237⟩
abbrev rm_X1_clear : Room := { frames := 1, cells := 0, slots := 0, locals := 22 }
theorem hy_X1_clear : hYV yX1_clear cX1_clear 1 none 0 := ⟨⟨qw_242, qw_15, by decide, by decide +kernel⟩, qw_240, qw_241⟩
abbrev rm_X1_receiveNew : Room := { frames := 0, cells := 0, slots := 0, locals := 0 }
theorem hy_X1_receiveNew : hYV yX1_receiveNew cX1_receiveNew 3 none 2 := ⟨⟨qw_246, qw_15, by decide, by decide +kernel⟩, qw_244, qw_245⟩
abbrev rm_X1_neighbours : Room := { frames := 1, cells := 0, slots := 0, locals := 20 }
theorem hy_X1_neighbours : hYV yX1_neighbours cX1_neighbours 2 (some .int) 0 := ⟨⟨qw_250, qw_15, by decide, by decide +kernel⟩, qw_248, qw_249⟩
abbrev rm_X4_turn : Room := { frames := 6, cells := 1, slots := 6, locals := 90 }
theorem hy_X4_turn : hYV yX4_turn cX4_turn 2 (some .int) 1 := ⟨⟨qw_255, qw_10, by decide, by decide +kernel⟩, qw_253, qw_254⟩
abbrev rm_X3_turnAllOn : Room := { frames := 1, cells := 0, slots := 0, locals := 21 }
theorem hy_X3_turnAllOn : hYV yX3_turnAllOn cX3_turnAllOn 7 (some .int) 1 := ⟨⟨qw_261, qw_14, by decide, by decide +kernel⟩, qw_259, qw_260⟩
abbrev rm_X1_exchangeSides : Room := { frames := 0, cells := 0, slots := 0, locals := 0 }
theorem hy_X1_exchangeSides : hYV yX1_exchangeSides cX1_exchangeSides 2 none 0 := ⟨⟨qw_266, qw_15, by decide, by decide +kernel⟩, qw_264, qw_265⟩
abbrev rm_X4_fill : Room := { frames := 3, cells := 0, slots := 0, locals := 69 }
theorem hy_X4_fill : hYV yX4_fill cX4_fill 3 (some .int) 0 := ⟨⟨qw_270, qw_10, by decide, by decide +kernel⟩, qw_268, qw_269⟩
abbrev rm_Jx4a65c_size_8abf5 : Room := { frames := 0, cells := 0, slots := 0, locals := 0 }
theorem hy_Jx4a65c_size_8abf5 : hYV yJx4a65c_size_8abf5 cJx4a65c_size_8abf5 1 (some .int) 0 := ⟨⟨qw_274, qw_13, by decide, by decide +kernel⟩, qw_272, qw_273⟩
abbrev rm_Jx4a65c_get_915e3 : Room := { frames := 2, cells := 0, slots := 0, locals := 43 }
theorem hy_Jx4a65c_get_915e3 : hYV yJx4a65c_get_915e3 cJx4a65c_get_915e3 2 (some (.object "java/lang/Object")) 1 := ⟨⟨qw_278, qw_13, by decide, by decide +kernel⟩, qw_276, qw_277⟩
abbrev rm_J15_checkIndex_7cf53 : Room := { frames := 1, cells := 0, slots := 0, locals := 22 }
theorem hy_J15_checkIndex_7cf53 : hYS yJ15_checkIndex_7cf53 cJ15_checkIndex_7cf53 2 (some .int) 2 := ⟨⟨qw_281, qw_28, by decide, by decide +kernel⟩, qw_280⟩
abbrev rm_J3_checkIndex_8e157 : Room := { frames := 0, cells := 0, slots := 0, locals := 0 }
theorem hy_J3_checkIndex_8e157 : hYS yJ3_checkIndex_8e157 cJ3_checkIndex_8e157 3 (some .int) 3 := ⟨⟨qw_284, qw_29, by decide, by decide +kernel⟩, qw_283⟩
abbrev rm_Jx4a65c_elementData_915e3 : Room := { frames := 0, cells := 0, slots := 0, locals := 0 }
theorem hy_Jx4a65c_elementData_915e3 : hYV yJx4a65c_elementData_915e3 cJx4a65c_elementData_915e3 2 (some (.object "java/lang/Object")) 1 := ⟨⟨qw_288, qw_13, by decide, by decide +kernel⟩, qw_286, qw_287⟩
abbrev rm_X3_giveTo : Room := { frames := 2, cells := 0, slots := 0, locals := 44 }
theorem hy_X3_giveTo : hYV yX3_giveTo cX3_giveTo 6 (some .int) 1 := ⟨⟨qw_293, qw_14, by decide, by decide +kernel⟩, qw_291, qw_292⟩
abbrev rm_X2_needsSome : Room := { frames := 0, cells := 0, slots := 0, locals := 0 }
theorem hy_X2_needsSome : hYV yX2_needsSome cX2_needsSome 1 (some .boolean) 0 := ⟨⟨qw_298, qw_30, by decide, by decide +kernel⟩, qw_296, qw_297⟩
abbrev rm_X1_fits : Room := { frames := 1, cells := 0, slots := 0, locals := 21 }
theorem hy_X1_fits : hYV yX1_fits cX1_fits 2 (some .boolean) 1 := ⟨⟨qw_302, qw_15, by decide, by decide +kernel⟩, qw_300, qw_301⟩
abbrev rm_X1_isTakenBy : Room := { frames := 0, cells := 0, slots := 0, locals := 0 }
theorem hy_X1_isTakenBy : hYV yX1_isTakenBy cX1_isTakenBy 2 (some .boolean) 1 := ⟨⟨qw_306, qw_15, by decide, by decide +kernel⟩, qw_304, qw_305⟩
abbrev rm_X1_wetness : Room := { frames := 0, cells := 0, slots := 0, locals := 0 }
theorem hy_X1_wetness : hYV yX1_wetness cX1_wetness 1 (some .int) 0 := ⟨⟨qw_310, qw_15, by decide, by decide +kernel⟩, qw_308, qw_309⟩
abbrev rm_X4_pass : Room := { frames := 6, cells := 1, slots := 6, locals := 112 }
theorem hy_X4_pass : hYV yX4_pass cX4_pass 3 (some .int) 2 := ⟨⟨qw_315, qw_10, by decide, by decide +kernel⟩, qw_313, qw_314⟩
abbrev rm_X3_letDaysGo : Room := { frames := 4, cells := 0, slots := 0, locals := 84 }
theorem hy_X3_letDaysGo : hYV yX3_letDaysGo cX3_letDaysGo 9 none 3 := ⟨⟨qw_336, qw_14, by decide, by decide +kernel⟩, qw_334, qw_335⟩
abbrev rm_X1_beginDay : Room := { frames := 3, cells := 0, slots := 0, locals := 62 }
theorem hy_X1_beginDay : hYV yX1_beginDay cX1_beginDay 3 none 2 := ⟨⟨qw_340, qw_15, by decide, by decide +kernel⟩, qw_338, qw_339⟩
abbrev rm_X1_wetterNeighbours : Room := { frames := 2, cells := 0, slots := 0, locals := 41 }
theorem hy_X1_wetterNeighbours : hYV yX1_wetterNeighbours cX1_wetterNeighbours 2 (some .int) 0 := ⟨⟨qw_344, qw_15, by decide, by decide +kernel⟩, qw_342, qw_343⟩
abbrev rm_X1_isWetterThan : Room := { frames := 1, cells := 0, slots := 0, locals := 20 }
theorem hy_X1_isWetterThan : hYV yX1_isWetterThan cX1_isWetterThan 2 (some .boolean) 1 := ⟨⟨qw_348, qw_15, by decide, by decide +kernel⟩, qw_347, qw_1⟩
abbrev rm_X1_spreadsMould : Room := { frames := 1, cells := 0, slots := 0, locals := 20 }
theorem hy_X1_spreadsMould : hYV yX1_spreadsMould cX1_spreadsMould 1 (some .boolean) 0 := ⟨⟨qw_355, qw_15, by decide, by decide +kernel⟩, qw_354, qw_2⟩
abbrev rm_X1_endDay : Room := { frames := 1, cells := 0, slots := 0, locals := 21 }
theorem hy_X1_endDay : hYV yX1_endDay cX1_endDay 1 none 0 := ⟨⟨qw_359, qw_15, by decide, by decide +kernel⟩, qw_357, qw_358⟩
abbrev rm_X3_mouldyBundles : Room := { frames := 1, cells := 0, slots := 0, locals := 20 }
theorem hy_X3_mouldyBundles : hYV yX3_mouldyBundles cX3_mouldyBundles 6 (some .int) 0 := ⟨⟨qw_366, qw_14, by decide, by decide +kernel⟩, qw_364, qw_365⟩
abbrev rm_X1_isMouldy : Room := { frames := 0, cells := 0, slots := 0, locals := 0 }
theorem hy_X1_isMouldy : hYV yX1_isMouldy cX1_isMouldy 1 (some .boolean) 0 := ⟨⟨qw_370, qw_15, by decide, by decide +kernel⟩, qw_368, qw_369⟩
abbrev rm_X4_told : Room := { frames := 6, cells := 1, slots := 6, locals := 90 }
theorem hy_X4_told : hYV yX4_told cX4_told 5 (some .int) 3 := ⟨⟨qw_374, qw_10, by decide, by decide +kernel⟩, qw_372, qw_373⟩
abbrev rm_X1_tells : Room := { frames := 3, cells := 0, slots := 0, locals := 62 }
theorem hy_X1_tells : hYV yX1_tells cX1_tells 2 (some .int) 1 := ⟨⟨qw_379, qw_15, by decide, by decide +kernel⟩, qw_377, qw_378⟩
abbrev rm_X4_about : Room := { frames := 6, cells := 1, slots := 6, locals := 90 }
theorem hy_X4_about : hYV yX4_about cX4_about 4 (some .int) 2 := ⟨⟨qw_384, qw_10, by decide, by decide +kernel⟩, qw_382, qw_383⟩
abbrev rm_X4_herbNumbered : Room := { frames := 3, cells := 0, slots := 0, locals := 64 }
theorem hy_X4_herbNumbered : hYV yX4_herbNumbered cX4_herbNumbered 2 (some (.object RX0)) 1 := ⟨⟨qw_388, qw_10, by decide, by decide +kernel⟩, qw_387, qw_3⟩
abbrev rm_X3_bundlesOf : Room := { frames := 1, cells := 0, slots := 0, locals := 21 }
theorem hy_X3_bundlesOf : hYV yX3_bundlesOf cX3_bundlesOf 7 (some .int) 1 := ⟨⟨qw_394, qw_14, by decide, by decide +kernel⟩, qw_392, qw_393⟩
abbrev rm_X3_mouldyBundlesOf : Room := { frames := 1, cells := 0, slots := 0, locals := 21 }
theorem hy_X3_mouldyBundlesOf : hYV yX3_mouldyBundlesOf cX3_mouldyBundlesOf 7 (some .int) 1 := ⟨⟨qw_399, qw_14, by decide, by decide +kernel⟩, qw_397, qw_398⟩
abbrev rm_X3_leastCleanWetnessOf : Room := { frames := 1, cells := 0, slots := 0, locals := 21 }
theorem hy_X3_leastCleanWetnessOf : hYV yX3_leastCleanWetnessOf cX3_leastCleanWetnessOf 7 (some .int) 1 := ⟨⟨qw_403, qw_14, by decide, by decide +kernel⟩, qw_401, qw_402⟩
abbrev rm_X4_asked : Room := { frames := 6, cells := 1, slots := 6, locals := 90 }
theorem hy_X4_asked : hYV yX4_asked cX4_asked 4 (some .int) 2 := ⟨⟨qw_409, qw_10, by decide, by decide +kernel⟩, qw_407, qw_408⟩
abbrev rm_X3_bundlesThatFit : Room := { frames := 2, cells := 0, slots := 0, locals := 42 }
theorem hy_X3_bundlesThatFit : hYV yX3_bundlesThatFit cX3_bundlesThatFit 7 (some .int) 1 := ⟨⟨qw_414, qw_14, by decide, by decide +kernel⟩, qw_412, qw_413⟩
abbrev rm_X4_count : Room := { frames := 6, cells := 1, slots := 6, locals := 90 }
theorem hy_X4_count : hYV yX4_count cX4_count 2 (some .int) 1 := ⟨⟨qw_418, qw_10, by decide, by decide +kernel⟩, qw_416, qw_417⟩
abbrev rm_X3_bundles : Room := { frames := 1, cells := 0, slots := 0, locals := 20 }
theorem hy_X3_bundles : hYV yX3_bundles cX3_bundles 6 (some .int) 0 := ⟨⟨qw_422, qw_14, by decide, by decide +kernel⟩, qw_420, qw_421⟩
abbrev rm_X4_ordersThatGotAll : Room := { frames := 3, cells := 0, slots := 0, locals := 64 }
theorem hy_X4_ordersThatGotAll : hYV yX4_ordersThatGotAll cX4_ordersThatGotAll 3 (some .int) 0 := ⟨⟨qw_426, qw_10, by decide, by decide +kernel⟩, qw_425, qw_4⟩
abbrev rm_X4_bundlesGiven : Room := { frames := 3, cells := 0, slots := 0, locals := 64 }
theorem hy_X4_bundlesGiven : hYV yX4_bundlesGiven cX4_bundlesGiven 3 (some .int) 0 := ⟨⟨qw_431, qw_10, by decide, by decide +kernel⟩, qw_430, qw_5⟩
abbrev rm_X3_sumOfWetness : Room := { frames := 1, cells := 0, slots := 0, locals := 20 }
theorem hy_X3_sumOfWetness : hYV yX3_sumOfWetness cX3_sumOfWetness 6 (some .int) 0 := ⟨⟨qw_435, qw_14, by decide, by decide +kernel⟩, qw_433, qw_434⟩
abbrev rm_X4_foresee : Room := { frames := 6, cells := 1, slots := 6, locals := 112 }
theorem hy_X4_foresee : hYV yX4_foresee cX4_foresee 4 (some .int) 3 := ⟨⟨qw_440, qw_10, by decide, by decide +kernel⟩, qw_438, qw_439⟩
abbrev rm_X3_copyAllOf : Room := { frames := 1, cells := 0, slots := 0, locals := 21 }
theorem hy_X3_copyAllOf : hYV yX3_copyAllOf cX3_copyAllOf 3 none 1 := ⟨⟨qw_445, qw_14, by decide, by decide +kernel⟩, qw_443, qw_444⟩
abbrev rm_X4_mean : Room := { frames := 2, cells := 0, slots := 0, locals := 45 }
theorem hy_X4_mean : hYV yX4_mean cX4_mean 2 (some .double) 0 := ⟨⟨qw_450, qw_10, by decide, by decide +kernel⟩, qw_448, qw_449⟩
abbrev rm_X4_digest : Room := { frames := 7, cells := 0, slots := 0, locals := 114 }
theorem hy_X4_digest : hYV yX4_digest cX4_digest 6 (some .long) 0 := ⟨⟨qw_454, qw_10, by decide, by decide +kernel⟩, qw_452, qw_453⟩
abbrev rm_X5_go : Room := { frames := 2, cells := 12, slots := 90, locals := 45 }
theorem hy_X5_go : hYV yX5_go cX5_go 8 none 1 := ⟨⟨qw_464, qw_16, by decide, by decide +kernel⟩, qw_462, qw_463⟩
abbrev rm_X5_near : Room := { frames := 1, cells := 0, slots := 0, locals := 20 }
theorem hy_X5_near : hYV yX5_near cX5_near 6 (some .int) 3 := ⟨⟨qw_472, qw_16, by decide, by decide +kernel⟩, qw_470, qw_471⟩
abbrev rm_X5_wet : Room := { frames := 0, cells := 0, slots := 0, locals := 0 }
theorem hy_X5_wet : hYS yX5_wet cX5_wet 1 (some .int) 1 := ⟨⟨qw_475, qw_16, by decide, by decide +kernel⟩, qw_474⟩
abbrev rm_X5_fill : Room := { frames := 2, cells := 0, slots := 0, locals := 42 }
theorem hy_X5_fill : hYV yX5_fill cX5_fill 9 (some .int) 0 := ⟨⟨qw_481, qw_16, by decide, by decide +kernel⟩, qw_479, qw_480⟩
abbrev rm_X5_fits : Room := { frames := 1, cells := 0, slots := 0, locals := 20 }
theorem hy_X5_fits : hYV yX5_fits cX5_fits 3 (some .boolean) 2 := ⟨⟨qw_485, qw_16, by decide, by decide +kernel⟩, qw_483, qw_484⟩
abbrev rm_X5_isSame : Room := { frames := 7, cells := 60, slots := 400, locals := 114 }
theorem hy_X5_isSame : hYV yX5_isSame cX5_isSame 12 (some .boolean) 1 := ⟨⟨qw_489, qw_16, by decide, by decide +kernel⟩, qw_487, qw_488⟩
abbrev rm_X5_sums : Room := { frames := 1, cells := 1, slots := 3, locals := 20 }
theorem hy_X5_sums : hYV yX5_sums cX5_sums 10 (some (.array .int)) 0 := ⟨⟨qw_493, qw_16, by decide, by decide +kernel⟩, qw_491, qw_492⟩
abbrev rm_L_below : Room := { frames := 0, cells := 0, slots := 0, locals := 0 }
theorem hy_L_below : hYS yL_below cL_below 2 (some .int) 2 := ⟨⟨qw_502, qw_9, by decide, by decide +kernel⟩, qw_501⟩
abbrev rm_L_cell : Room := { frames := 0, cells := 0, slots := 0, locals := 0 }
theorem hy_L_cell : hYS yL_cell cL_cell 2 (some .int) 2 := ⟨⟨qw_506, qw_9, by decide, by decide +kernel⟩, qw_505⟩
abbrev rm_X4_hang : Room := { frames := 6, cells := 1, slots := 6, locals := 90 }
theorem hy_X4_hang : hYV yX4_hang cX4_hang 7 (some .int) 4 := ⟨⟨qw_516, qw_10, by decide, by decide +kernel⟩, qw_514, qw_515⟩
abbrev rm_X4_take : Room := { frames := 6, cells := 1, slots := 6, locals := 90 }
theorem hy_X4_take : hYV yX4_take cX4_take 5 (some .int) 2 := ⟨⟨qw_524, qw_10, by decide, by decide +kernel⟩, qw_522, qw_523⟩
abbrev rm_X5_turn : Room := { frames := 0, cells := 0, slots := 0, locals := 0 }
theorem hy_X5_turn : hYV yX5_turn cX5_turn 7 none 1 := ⟨⟨qw_531, qw_16, by decide, by decide +kernel⟩, qw_529, qw_530⟩
abbrev rm_X4_setWindow : Room := { frames := 6, cells := 1, slots := 6, locals := 90 }
theorem hy_X4_setWindow : hYV yX4_setWindow cX4_setWindow 3 (some .int) 1 := ⟨⟨qw_535, qw_10, by decide, by decide +kernel⟩, qw_533, qw_534⟩
abbrev rm_X5_more : Room := { frames := 0, cells := 1, slots := 7, locals := 0 }
theorem hy_X5_more : hYS yX5_more cX5_more 4 (some (.array (.array .int))) 2 := ⟨⟨qw_539, qw_16, by decide, by decide +kernel⟩, qw_538⟩
abbrev rm_X4_order : Room := { frames := 6, cells := 2, slots := 14, locals := 108 }
theorem hy_X4_order : hYV yX4_order cX4_order 6 (some .int) 3 := ⟨⟨qw_543, qw_10, by decide, by decide +kernel⟩, qw_541, qw_542⟩
abbrev rm_X2_init : Room := { frames := 1, cells := 0, slots := 0, locals := 20 }
theorem hy_X2_init : hYI yX2_init cX2_init 4 3 := ⟨⟨qw_550, qw_30, by decide, by decide +kernel⟩, qw_549, rfl⟩
abbrev rm_Jx4a65c_add_9ea2d : Room := { frames := 4, cells := 1, slots := 10, locals := 87 }
theorem hy_Jx4a65c_add_9ea2d : hYV yJx4a65c_add_9ea2d cJx4a65c_add_9ea2d 2 (some .boolean) 1 := ⟨⟨qw_575, qw_13, by decide, by decide +kernel⟩, qw_573, qw_574⟩
abbrev rm_Jx4a65c_add_72be8 : Room := { frames := 3, cells := 1, slots := 10, locals := 64 }
theorem hy_Jx4a65c_add_72be8 : hYV yJx4a65c_add_72be8 cJx4a65c_add_72be8 4 none 3 := ⟨⟨qw_579, qw_13, by decide, by decide +kernel⟩, qw_578, qw_6⟩
abbrev rm_Jx4a65c_grow_d5877 : Room := { frames := 2, cells := 1, slots := 10, locals := 44 }
theorem hy_Jx4a65c_grow_d5877 : hYV yJx4a65c_grow_d5877 cJx4a65c_grow_d5877 1 (some (.array (.object "java/lang/Object"))) 0 := ⟨⟨qw_583, qw_13, by decide, by decide +kernel⟩, qw_582, qw_7⟩
abbrev rm_Jx4a65c_grow_92f84 : Room := { frames := 1, cells := 1, slots := 10, locals := 21 }
theorem hy_Jx4a65c_grow_92f84 : hYV yJx4a65c_grow_92f84 cJx4a65c_grow_92f84 4 (some (.array (.object "java/lang/Object"))) 1 := ⟨⟨qw_587, qw_13, by decide, by decide +kernel⟩, qw_586, qw_8⟩
abbrev rm_J8_newLength_cabcc : Room := { frames := 1, cells := 0, slots := 0, locals := 22 }
theorem hy_J8_newLength_cabcc : hYS yJ8_newLength_cabcc cJ8_newLength_cabcc 4 (some .int) 3 := ⟨⟨qw_590, qw_23, by decide, by decide +kernel⟩, qw_589⟩
abbrev rm_J8_hugeLength_7cf53 : Room := { frames := 0, cells := 0, slots := 0, locals := 0 }
theorem hy_J8_hugeLength_7cf53 : hYS yJ8_hugeLength_7cf53 cJ8_hugeLength_7cf53 3 (some .int) 2 := ⟨⟨qw_595, qw_23, by decide, by decide +kernel⟩, qw_594⟩
abbrev rm_J7_copyOf_1904c : Room := { frames := 6, cells := 0, slots := 0, locals := 90 }
theorem hy_J7_copyOf_1904c : hYS yJ7_copyOf_1904c cJ7_copyOf_1904c 2 (some (.array (.object "java/lang/Object"))) 2 := ⟨⟨qw_598, qw_25, by decide, by decide +kernel⟩, qw_597⟩
abbrev rm_J7_copyOf_6403c : Room := { frames := 1, cells := 0, slots := 0, locals := 40 }
theorem hy_J7_copyOf_6403c : hYS yJ7_copyOf_6403c cJ7_copyOf_6403c 4 (some (.array (.object "java/lang/Object"))) 3 := ⟨⟨qw_615, qw_25, by decide, by decide +kernel⟩, qw_614⟩
abbrev rm_L_build : Room := { frames := 7, cells := 200, slots := 1000, locals := 131 }
theorem hy_L_build : hYS yL_build cL_build 11 (some (.object RX5)) 2 := ⟨⟨qw_627, qw_9, by decide, by decide +kernel⟩, qw_626⟩
abbrev rm_X5_init : Room := { frames := 1, cells := 8, slots := 45, locals := 20 }
theorem hy_X5_init : hYI yX5_init cX5_init 1 0 := ⟨⟨qw_632, qw_16, by decide, by decide +kernel⟩, qw_631, rfl⟩
abbrev rm_X4_herb : Room := { frames := 6, cells := 2, slots := 13, locals := 108 }
theorem hy_X4_herb : hYV yX4_herb cX4_herb 4 (some .int) 2 := ⟨⟨qw_662, qw_10, by decide, by decide +kernel⟩, qw_660, qw_661⟩
abbrev rm_X0_init : Room := { frames := 1, cells := 0, slots := 0, locals := 20 }
theorem hy_X0_init : hYI yX0_init cX0_init 4 3 := ⟨⟨qw_669, qw_22, by decide, by decide +kernel⟩, qw_668, rfl⟩
theorem hs_73 : (RX4, 73, "there is no such string or hook") ∈ hStrs := by decide +kernel
theorem hs_107 : (RX4, 107, "no bundle hangs on the first hook") ∈ hStrs := by decide +kernel
theorem hs_109 : (RX4, 109, "a bundle hangs on the second hook") ∈ hStrs := by decide +kernel
theorem hs_118 : (RX4, 118, "there is no such string") ∈ hStrs := by decide +kernel
theorem hs_145 : (RX4, 145, "days is not 1 to 60") ∈ hStrs := by decide +kernel
theorem hs_147 : (RX4, 147, "damp is not 0 to 9") ∈ hStrs := by decide +kernel
theorem hs_155 : (RX4, 155, "what is not 0 to 7") ∈ hStrs := by decide +kernel
theorem hs_80 : (RX4, 80, "there is no such herb") ∈ hStrs := by decide +kernel
theorem hs_176 : (RX4, 176, "what is not 0 to 4") ∈ hStrs := by decide +kernel
theorem hs_178 : (RX4, 178, "there is no such order") ∈ hStrs := by decide +kernel
theorem hs_208 : (RX4, 208, "what is not 0 to 8") ∈ hStrs := by decide +kernel
theorem hs_214 : (RX4, 214, "what is not 3 or 8") ∈ hStrs := by decide +kernel
theorem hs_82 : (RX4, 82, "wet is not 0 to 100") ∈ hStrs := by decide +kernel
theorem hs_90 : (RX4, 90, "a bundle hangs there") ∈ hStrs := by decide +kernel
theorem hs_99 : (RX4, 99, "no bundle hangs there") ∈ hStrs := by decide +kernel
theorem hs_124 : (RX4, 124, "open is not 0 to 3") ∈ hStrs := by decide +kernel
theorem hs_126 : (RX4, 126, "many is not 1 to 9") ∈ hStrs := by decide +kernel
theorem hs_128 : (RX4, 128, "wet is not 0 to 60") ∈ hStrs := by decide +kernel
theorem hs_130 : (RX4, 130, "there are 6 orders") ∈ hStrs := by decide +kernel
theorem hs_42 : (RX4, 42, "the ease is not 1 to 9") ∈ hStrs := by decide +kernel
theorem hs_47 : (RX4, 47, "the limit is not 20 to 90") ∈ hStrs := by decide +kernel
theorem hs_55 : (RX4, 55, "there are 6 herbs") ∈ hStrs := by decide +kernel
