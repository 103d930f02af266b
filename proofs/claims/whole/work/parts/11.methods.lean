/-! ===== the cells by name ===== -/
abbrev oHerb (n e lm : Int32) : va_E := .inr (1, [.int n, .int e, .int lm])
abbrev oHook (s : Int32) (b a h : Option Nat) (f bk wd mo fo bs : Int32) : va_E := .inr (2, [.int s, va_rf b, va_rf a, va_rf h, .int f, .int bk, .int wd, .int mo, .int fo, .int bs])
abbrev oOrder (h : Option Nat) (many wet got : Int32) : va_E := .inr (3, [va_rf h, .int many, .int wet, .int got])
abbrev oRack (a : Option Nat) : va_E := .inr (4, [va_rf a])
abbrev oLoft (hs os rk tr : Option Nat) (win day : Int32) : va_E := .inr (5, [va_rf hs, va_rf os, va_rf rk, va_rf tr, .int win, .int day])
abbrev oState (day : Int32) (h f b w m : Option Nat) : va_E := .inr (6, [.int day, va_rf h, va_rf f, va_rf b, va_rf w, va_rf m])
abbrev oModel (th wi hs : Int32) (ea li : Option Nat) (os : Int32) (wa ma dr go : Option Nat) (gi : Int32) (s a o : Option Nat) : va_E := .inr (7, [.int th, .int wi, .int hs, va_rf ea, va_rf li, .int os, va_rf wa, va_rf ma, va_rf dr, va_rf go, .int gi, va_rf s, va_rf a, va_rf o])
abbrev oList (mod : Int32) (ed : Option Nat) (size : Int32) : va_E := .inr (0, [.int mod, va_rf ed, .int size])
theorem fitsB (b : Bool) : fits .boolean (.int (bI b)) = true := by cases b <;> rfl
theorem narO {nm : String} (o : Option Nat) : narrow (.object nm) (va_rf o) = va_rf o := by cases o <;> rfl
theorem fitsO {nm : String} (o : Option Nat) : fits (.object nm) (va_rf o) = true := by cases o <;> rfl
theorem hNeI {x v : Int32} {m : Int} (h : ¬ x = v) (hm : v.toInt = m) : x.toInt ≠ m := fun e => h (Int32.toInt_inj.mp (by rw [hm]; exact e))
theorem hNw_rf (o : Option Nat) : hNw (some (va_rf o)) = true := by cases o <;> rfl
theorem bI_t : bI true = 1 := rfl
theorem bI_f : bI false = 0 := rfl
theorem hcl_X0 : hCls 1 RX0 TX0 3 tyX0 := ⟨hinX0, tyX0_ok, nmX0, rfl⟩
theorem hcl_X1 : hCls 2 RX1 TX1 10 tyX1 := ⟨hinX1, tyX1_ok, nmX1, rfl⟩
theorem hcl_X2 : hCls 3 RX2 TX2 4 tyX2 := ⟨hinX2, tyX2_ok, nmX2, rfl⟩
theorem hcl_X3 : hCls 4 RX3 TX3 1 tyX3 := ⟨hinX3, tyX3_ok, nmX3, rfl⟩
theorem hcl_X4 : hCls 5 RX4 TX4 6 tyX4 := ⟨hinX4, tyX4_ok, nmX4, rfl⟩
theorem hcl_X5 : hCls 6 RX5 TX5 6 tyX5 := ⟨hinX5, tyX5_ok, nmX5, rfl⟩
theorem hcl_X6 : hCls 7 RX6 TX6 14 tyX6 := ⟨hinX6, tyX6_ok, nmX6, rfl⟩
theorem hcl_Jx4a65c : hCls 0 RJx4a65c TJx4a65c 3 tyJx4a65c := ⟨hinJx4a65c, tyJx4a65c_ok, nmJx4a65c, rfl⟩
theorem hfs_X0 : ∀ j, j < 3 → defaultValue (tyX0 j) = vp_V [.int 0, .int 0, .int 0] j := by
  intro j hj
  match j, hj with
  | 0, _ => rfl
  | 1, _ => rfl
  | 2, _ => rfl
  | n + 3, h => omega
theorem hfs_X1 : ∀ j, j < 10 → defaultValue (tyX1 j) = vp_V [.int 0, .null, .null, .null, .int 0, .int 0, .int 0, .int 0, .int 0, .int 0] j := by
  intro j hj
  match j, hj with
  | 0, _ => rfl
  | 1, _ => rfl
  | 2, _ => rfl
  | 3, _ => rfl
  | 4, _ => rfl
  | 5, _ => rfl
  | 6, _ => rfl
  | 7, _ => rfl
  | 8, _ => rfl
  | 9, _ => rfl
  | n + 10, h => omega
theorem hfs_X2 : ∀ j, j < 4 → defaultValue (tyX2 j) = vp_V [.null, .int 0, .int 0, .int 0] j := by
  intro j hj
  match j, hj with
  | 0, _ => rfl
  | 1, _ => rfl
  | 2, _ => rfl
  | 3, _ => rfl
  | n + 4, h => omega
theorem hfs_X3 : ∀ j, j < 1 → defaultValue (tyX3 j) = vp_V [.null] j := by
  intro j hj
  match j, hj with
  | 0, _ => rfl
  | n + 1, h => omega
theorem hfs_X4 : ∀ j, j < 6 → defaultValue (tyX4 j) = vp_V [.null, .null, .null, .null, .int 0, .int 0] j := by
  intro j hj
  match j, hj with
  | 0, _ => rfl
  | 1, _ => rfl
  | 2, _ => rfl
  | 3, _ => rfl
  | 4, _ => rfl
  | 5, _ => rfl
  | n + 6, h => omega
theorem hfs_X5 : ∀ j, j < 6 → defaultValue (tyX5 j) = vp_V [.int 0, .null, .null, .null, .null, .null] j := by
  intro j hj
  match j, hj with
  | 0, _ => rfl
  | 1, _ => rfl
  | 2, _ => rfl
  | 3, _ => rfl
  | 4, _ => rfl
  | 5, _ => rfl
  | n + 6, h => omega
theorem hfs_X6 : ∀ j, j < 14 → defaultValue (tyX6 j) = vp_V [.int 0, .int 0, .int 0, .null, .null, .int 0, .null, .null, .null, .null, .int 0, .null, .null, .null] j := by
  intro j hj
  match j, hj with
  | 0, _ => rfl
  | 1, _ => rfl
  | 2, _ => rfl
  | 3, _ => rfl
  | 4, _ => rfl
  | 5, _ => rfl
  | 6, _ => rfl
  | 7, _ => rfl
  | 8, _ => rfl
  | 9, _ => rfl
  | 10, _ => rfl
  | 11, _ => rfl
  | 12, _ => rfl
  | 13, _ => rfl
  | n + 14, h => omega
theorem hfs_Jx4a65c : ∀ j, j < 3 → defaultValue (tyJx4a65c j) = vp_V [.int 0, .null, .int 0] j := by
  intro j hj
  match j, hj with
  | 0, _ => rfl
  | 1, _ => rfl
  | 2, _ => rfl
  | n + 3, h => omega
theorem hw_max : Cond.static Lib.Math.max.name ∈ hTbl ∧ Cond.initialized "java/lang/Math" ∈ hTbl ∧ Cond.code Lib.Math.max.name Lib.Math.max.code 2 (some .int) ∈ hTbl := ⟨qw_463, qw_41, qw_464⟩
theorem hw_min : Cond.static Lib.Math.min.name ∈ hTbl ∧ Cond.initialized "java/lang/Math" ∈ hTbl ∧ Cond.code Lib.Math.min.name Lib.Math.min.code 2 (some .int) ∈ hTbl := ⟨qw_494, qw_41, qw_495⟩
theorem hw_copy : Cond.native arraycopyName ∈ hTbl ∧ Cond.static arraycopyName ∈ hTbl ∧ Cond.initialized "java/lang/System" ∈ hTbl := ⟨qw_498, qw_497, qw_43⟩
abbrev rm_X4_init : Room := { frames := 4, cells := 86, slots := 888, locals := 80 }
theorem hy_X4_init : hYI yX4_init cX4_init 1 0 := ⟨⟨qw_52, qw_26, by decide, by decide +kernel⟩, qw_51, rfl⟩
abbrev rm_Jx4a65c_init_da8c8 : Room := { frames := 3, cells := 0, slots := 0, locals := 60 }
theorem hy_Jx4a65c_init_da8c8 : hYI yJx4a65c_init_da8c8 cJx4a65c_init_da8c8 1 0 := ⟨⟨qw_60, qw_29, by decide, by decide +kernel⟩, qw_59, rfl⟩
abbrev rm_Jxc12de_init_da8c8 : Room := { frames := 2, cells := 0, slots := 0, locals := 40 }
theorem hy_Jxc12de_init_da8c8 : hYI yJxc12de_init_da8c8 cJxc12de_init_da8c8 1 0 := ⟨⟨qw_63, qw_28, by decide, by decide +kernel⟩, qw_62, rfl⟩
abbrev rm_Jxa1e45_init_da8c8 : Room := { frames := 1, cells := 0, slots := 0, locals := 20 }
theorem hy_Jxa1e45_init_da8c8 : hYI yJxa1e45_init_da8c8 cJxa1e45_init_da8c8 1 0 := ⟨⟨qw_66, qw_27, by decide, by decide +kernel⟩, qw_65, rfl⟩
abbrev rm_X3_init : Room := { frames := 2, cells := 41, slots := 440, locals := 41 }
theorem hy_X3_init : hYI yX3_init cX3_init 5 0 := ⟨⟨qw_86, qw_30, by decide, by decide +kernel⟩, qw_85, rfl⟩
abbrev rm_X1_init : Room := { frames := 1, cells := 0, slots := 0, locals := 20 }
theorem hy_X1_init : hYI yX1_init cX1_init 2 1 := ⟨⟨qw_93, qw_31, by decide, by decide +kernel⟩, qw_92, rfl⟩
abbrev rm_X4_fill : Room := { frames := 3, cells := 0, slots := 0, locals := 69 }
theorem hy_X4_fill : hYV yX4_fill cX4_fill 3 (some .int) 0 := ⟨⟨qw_155, qw_26, by decide, by decide +kernel⟩, qw_153, qw_154⟩
abbrev rm_Jx4a65c_size_8abf5 : Room := { frames := 0, cells := 0, slots := 0, locals := 0 }
theorem hy_Jx4a65c_size_8abf5 : hYV yJx4a65c_size_8abf5 cJx4a65c_size_8abf5 1 (some .int) 0 := ⟨⟨qw_159, qw_29, by decide, by decide +kernel⟩, qw_157, qw_158⟩
abbrev rm_Jx4a65c_get_915e3 : Room := { frames := 2, cells := 0, slots := 0, locals := 43 }
theorem hy_Jx4a65c_get_915e3 : hYV yJx4a65c_get_915e3 cJx4a65c_get_915e3 2 (some (.object "java/lang/Object")) 1 := ⟨⟨qw_163, qw_29, by decide, by decide +kernel⟩, qw_161, qw_162⟩
abbrev rm_J15_checkIndex_7cf53 : Room := { frames := 1, cells := 0, slots := 0, locals := 22 }
theorem hy_J15_checkIndex_7cf53 : hYS yJ15_checkIndex_7cf53 cJ15_checkIndex_7cf53 2 (some .int) 2 := ⟨⟨qw_166, qw_45, by decide, by decide +kernel⟩, qw_165⟩
abbrev rm_J3_checkIndex_8e157 : Room := { frames := 0, cells := 0, slots := 0, locals := 0 }
theorem hy_J3_checkIndex_8e157 : hYS yJ3_checkIndex_8e157 cJ3_checkIndex_8e157 3 (some .int) 3 := ⟨⟨qw_169, qw_46, by decide, by decide +kernel⟩, qw_168⟩
abbrev rm_Jx4a65c_elementData_915e3 : Room := { frames := 0, cells := 0, slots := 0, locals := 0 }
theorem hy_Jx4a65c_elementData_915e3 : hYV yJx4a65c_elementData_915e3 cJx4a65c_elementData_915e3 2 (some (.object "java/lang/Object")) 1 := ⟨⟨qw_173, qw_29, by decide, by decide +kernel⟩, qw_171, qw_172⟩
abbrev rm_X3_giveTo : Room := { frames := 2, cells := 0, slots := 0, locals := 44 }
theorem hy_X3_giveTo : hYV yX3_giveTo cX3_giveTo 6 (some .int) 1 := ⟨⟨qw_178, qw_30, by decide, by decide +kernel⟩, qw_176, qw_177⟩
abbrev rm_X3_hookAt : Room := { frames := 1, cells := 0, slots := 0, locals := 22 }
theorem hy_X3_hookAt : hYV yX3_hookAt cX3_hookAt 3 (some (.object RX1)) 2 := ⟨⟨qw_182, qw_30, by decide, by decide +kernel⟩, qw_180, qw_181⟩
abbrev rm_X4_isWithin : Room := { frames := 0, cells := 0, slots := 0, locals := 0 }
theorem hy_X4_isWithin : hYS yX4_isWithin cX4_isWithin 3 (some .boolean) 3 := ⟨⟨qw_185, qw_26, by decide, by decide +kernel⟩, qw_184⟩
abbrev rm_X2_needsSome : Room := { frames := 0, cells := 0, slots := 0, locals := 0 }
theorem hy_X2_needsSome : hYV yX2_needsSome cX2_needsSome 1 (some .boolean) 0 := ⟨⟨qw_189, qw_47, by decide, by decide +kernel⟩, qw_187, qw_188⟩
abbrev rm_X1_fits : Room := { frames := 1, cells := 0, slots := 0, locals := 21 }
theorem hy_X1_fits : hYV yX1_fits cX1_fits 2 (some .boolean) 1 := ⟨⟨qw_193, qw_31, by decide, by decide +kernel⟩, qw_191, qw_192⟩
abbrev rm_X1_isTakenBy : Room := { frames := 0, cells := 0, slots := 0, locals := 0 }
theorem hy_X1_isTakenBy : hYV yX1_isTakenBy cX1_isTakenBy 2 (some .boolean) 1 := ⟨⟨qw_197, qw_31, by decide, by decide +kernel⟩, qw_195, qw_196⟩
abbrev rm_X1_wetness : Room := { frames := 0, cells := 0, slots := 0, locals := 0 }
theorem hy_X1_wetness : hYV yX1_wetness cX1_wetness 1 (some .int) 0 := ⟨⟨qw_201, qw_31, by decide, by decide +kernel⟩, qw_199, qw_200⟩
abbrev rm_X1_clear : Room := { frames := 1, cells := 0, slots := 0, locals := 22 }
theorem hy_X1_clear : hYV yX1_clear cX1_clear 1 none 0 := ⟨⟨qw_205, qw_31, by decide, by decide +kernel⟩, qw_203, qw_204⟩
abbrev rm_X1_receiveNew : Room := { frames := 0, cells := 0, slots := 0, locals := 0 }
theorem hy_X1_receiveNew : hYV yX1_receiveNew cX1_receiveNew 3 none 2 := ⟨⟨qw_209, qw_31, by decide, by decide +kernel⟩, qw_207, qw_208⟩
abbrev rm_X4_mean : Room := { frames := 2, cells := 0, slots := 0, locals := 45 }
theorem hy_X4_mean : hYV yX4_mean cX4_mean 2 (some .double) 0 := ⟨⟨qw_213, qw_26, by decide, by decide +kernel⟩, qw_211, qw_212⟩
abbrev rm_X3_bundles : Room := { frames := 1, cells := 0, slots := 0, locals := 20 }
theorem hy_X3_bundles : hYV yX3_bundles cX3_bundles 6 (some .int) 0 := ⟨⟨qw_217, qw_30, by decide, by decide +kernel⟩, qw_215, qw_216⟩
abbrev rm_X1_isTaken : Room := { frames := 0, cells := 0, slots := 0, locals := 0 }
theorem hy_X1_isTaken : hYV yX1_isTaken cX1_isTaken 1 (some .boolean) 0 := ⟨⟨qw_221, qw_31, by decide, by decide +kernel⟩, qw_219, qw_220⟩
abbrev rm_X3_sumOfWetness : Room := { frames := 1, cells := 0, slots := 0, locals := 20 }
theorem hy_X3_sumOfWetness : hYV yX3_sumOfWetness cX3_sumOfWetness 6 (some .int) 0 := ⟨⟨qw_225, qw_30, by decide, by decide +kernel⟩, qw_223, qw_224⟩
abbrev rm_X4_digest : Room := { frames := 7, cells := 0, slots := 0, locals := 114 }
theorem hy_X4_digest : hYV yX4_digest cX4_digest 6 (some .long) 0 := ⟨⟨qw_230, qw_26, by decide, by decide +kernel⟩, qw_228, qw_229⟩
abbrev rm_X4_count : Room := { frames := 6, cells := 1, slots := 6, locals := 90 }
theorem hy_X4_count : hYV yX4_count cX4_count 2 (some .int) 1 := ⟨⟨qw_236, qw_26, by decide, by decide +kernel⟩, qw_234, qw_235⟩
abbrev rm_X3_mouldyBundles : Room := { frames := 1, cells := 0, slots := 0, locals := 20 }
theorem hy_X3_mouldyBundles : hYV yX3_mouldyBundles cX3_mouldyBundles 6 (some .int) 0 := ⟨⟨qw_240, qw_30, by decide, by decide +kernel⟩, qw_238, qw_239⟩
abbrev rm_X1_isMouldy : Room := { frames := 0, cells := 0, slots := 0, locals := 0 }
theorem hy_X1_isMouldy : hYV yX1_isMouldy cX1_isMouldy 1 (some .boolean) 0 := ⟨⟨qw_244, qw_31, by decide, by decide +kernel⟩, qw_242, qw_243⟩
abbrev rm_X4_ordersThatGotAll : Room := { frames := 3, cells := 0, slots := 0, locals := 64 }
theorem hy_X4_ordersThatGotAll : hYV yX4_ordersThatGotAll cX4_ordersThatGotAll 3 (some .int) 0 := ⟨⟨qw_248, qw_26, by decide, by decide +kernel⟩, qw_247, qw_0⟩
abbrev rm_X4_bundlesGiven : Room := { frames := 3, cells := 0, slots := 0, locals := 64 }
theorem hy_X4_bundlesGiven : hYV yX4_bundlesGiven cX4_bundlesGiven 3 (some .int) 0 := ⟨⟨qw_253, qw_26, by decide, by decide +kernel⟩, qw_252, qw_1⟩
abbrev rm_X4_about : Room := { frames := 6, cells := 1, slots := 6, locals := 90 }
theorem hy_X4_about : hYV yX4_about cX4_about 4 (some .int) 2 := ⟨⟨qw_325, qw_26, by decide, by decide +kernel⟩, qw_323, qw_324⟩
abbrev rm_X4_herbNumbered : Room := { frames := 3, cells := 0, slots := 0, locals := 64 }
theorem hy_X4_herbNumbered : hYV yX4_herbNumbered cX4_herbNumbered 2 (some (.object RX0)) 1 := ⟨⟨qw_329, qw_26, by decide, by decide +kernel⟩, qw_328, qw_3⟩
abbrev rm_X3_bundlesOf : Room := { frames := 1, cells := 0, slots := 0, locals := 21 }
theorem hy_X3_bundlesOf : hYV yX3_bundlesOf cX3_bundlesOf 7 (some .int) 1 := ⟨⟨qw_335, qw_30, by decide, by decide +kernel⟩, qw_333, qw_334⟩
abbrev rm_X3_mouldyBundlesOf : Room := { frames := 1, cells := 0, slots := 0, locals := 21 }
theorem hy_X3_mouldyBundlesOf : hYV yX3_mouldyBundlesOf cX3_mouldyBundlesOf 7 (some .int) 1 := ⟨⟨qw_340, qw_30, by decide, by decide +kernel⟩, qw_338, qw_339⟩
abbrev rm_X3_leastCleanWetnessOf : Room := { frames := 1, cells := 0, slots := 0, locals := 21 }
theorem hy_X3_leastCleanWetnessOf : hYV yX3_leastCleanWetnessOf cX3_leastCleanWetnessOf 7 (some .int) 1 := ⟨⟨qw_344, qw_30, by decide, by decide +kernel⟩, qw_342, qw_343⟩
abbrev rm_X4_asked : Room := { frames := 6, cells := 1, slots := 6, locals := 90 }
theorem hy_X4_asked : hYV yX4_asked cX4_asked 4 (some .int) 2 := ⟨⟨qw_349, qw_26, by decide, by decide +kernel⟩, qw_347, qw_348⟩
abbrev rm_X3_bundlesThatFit : Room := { frames := 2, cells := 0, slots := 0, locals := 42 }
theorem hy_X3_bundlesThatFit : hYV yX3_bundlesThatFit cX3_bundlesThatFit 7 (some .int) 1 := ⟨⟨qw_354, qw_30, by decide, by decide +kernel⟩, qw_352, qw_353⟩
abbrev rm_X4_told : Room := { frames := 6, cells := 1, slots := 6, locals := 90 }
theorem hy_X4_told : hYV yX4_told cX4_told 5 (some .int) 3 := ⟨⟨qw_358, qw_26, by decide, by decide +kernel⟩, qw_356, qw_357⟩
abbrev rm_X1_tells : Room := { frames := 3, cells := 0, slots := 0, locals := 62 }
theorem hy_X1_tells : hYV yX1_tells cX1_tells 2 (some .int) 1 := ⟨⟨qw_366, qw_31, by decide, by decide +kernel⟩, qw_364, qw_365⟩
abbrev rm_X1_neighbours : Room := { frames := 1, cells := 0, slots := 0, locals := 20 }
theorem hy_X1_neighbours : hYV yX1_neighbours cX1_neighbours 2 (some .int) 0 := ⟨⟨qw_370, qw_31, by decide, by decide +kernel⟩, qw_368, qw_369⟩
abbrev rm_X1_wetterNeighbours : Room := { frames := 2, cells := 0, slots := 0, locals := 41 }
theorem hy_X1_wetterNeighbours : hYV yX1_wetterNeighbours cX1_wetterNeighbours 2 (some .int) 0 := ⟨⟨qw_375, qw_31, by decide, by decide +kernel⟩, qw_373, qw_374⟩
abbrev rm_X1_isWetterThan : Room := { frames := 1, cells := 0, slots := 0, locals := 20 }
theorem hy_X1_isWetterThan : hYV yX1_isWetterThan cX1_isWetterThan 2 (some .boolean) 1 := ⟨⟨qw_379, qw_31, by decide, by decide +kernel⟩, qw_378, qw_4⟩
abbrev rm_X4_herb : Room := { frames := 6, cells := 2, slots := 13, locals := 108 }
theorem hy_X4_herb : hYV yX4_herb cX4_herb 4 (some .int) 2 := ⟨⟨qw_388, qw_26, by decide, by decide +kernel⟩, qw_386, qw_387⟩
abbrev rm_X0_init : Room := { frames := 1, cells := 0, slots := 0, locals := 20 }
theorem hy_X0_init : hYI yX0_init cX0_init 4 3 := ⟨⟨qw_425, qw_39, by decide, by decide +kernel⟩, qw_424, rfl⟩
abbrev rm_Jx4a65c_add_9ea2d : Room := { frames := 4, cells := 1, slots := 10, locals := 87 }
theorem hy_Jx4a65c_add_9ea2d : hYV yJx4a65c_add_9ea2d cJx4a65c_add_9ea2d 2 (some .boolean) 1 := ⟨⟨qw_446, qw_29, by decide, by decide +kernel⟩, qw_444, qw_445⟩
abbrev rm_Jx4a65c_add_72be8 : Room := { frames := 3, cells := 1, slots := 10, locals := 64 }
theorem hy_Jx4a65c_add_72be8 : hYV yJx4a65c_add_72be8 cJx4a65c_add_72be8 4 none 3 := ⟨⟨qw_450, qw_29, by decide, by decide +kernel⟩, qw_449, qw_5⟩
abbrev rm_Jx4a65c_grow_d5877 : Room := { frames := 2, cells := 1, slots := 10, locals := 44 }
theorem hy_Jx4a65c_grow_d5877 : hYV yJx4a65c_grow_d5877 cJx4a65c_grow_d5877 1 (some (.array (.object "java/lang/Object"))) 0 := ⟨⟨qw_454, qw_29, by decide, by decide +kernel⟩, qw_453, qw_6⟩
abbrev rm_Jx4a65c_grow_92f84 : Room := { frames := 1, cells := 1, slots := 10, locals := 21 }
theorem hy_Jx4a65c_grow_92f84 : hYV yJx4a65c_grow_92f84 cJx4a65c_grow_92f84 4 (some (.array (.object "java/lang/Object"))) 1 := ⟨⟨qw_458, qw_29, by decide, by decide +kernel⟩, qw_457, qw_7⟩
abbrev rm_J8_newLength_cabcc : Room := { frames := 1, cells := 0, slots := 0, locals := 22 }
theorem hy_J8_newLength_cabcc : hYS yJ8_newLength_cabcc cJ8_newLength_cabcc 4 (some .int) 3 := ⟨⟨qw_461, qw_40, by decide, by decide +kernel⟩, qw_460⟩
abbrev rm_J8_hugeLength_7cf53 : Room := { frames := 0, cells := 0, slots := 0, locals := 0 }
theorem hy_J8_hugeLength_7cf53 : hYS yJ8_hugeLength_7cf53 cJ8_hugeLength_7cf53 3 (some .int) 2 := ⟨⟨qw_468, qw_40, by decide, by decide +kernel⟩, qw_467⟩
abbrev rm_J7_copyOf_1904c : Room := { frames := 6, cells := 0, slots := 0, locals := 90 }
theorem hy_J7_copyOf_1904c : hYS yJ7_copyOf_1904c cJ7_copyOf_1904c 2 (some (.array (.object "java/lang/Object"))) 2 := ⟨⟨qw_471, qw_42, by decide, by decide +kernel⟩, qw_470⟩
abbrev rm_J7_copyOf_6403c : Room := { frames := 1, cells := 0, slots := 0, locals := 40 }
theorem hy_J7_copyOf_6403c : hYS yJ7_copyOf_6403c cJ7_copyOf_6403c 4 (some (.array (.object "java/lang/Object"))) 3 := ⟨⟨qw_489, qw_42, by decide, by decide +kernel⟩, qw_488⟩
abbrev rm_X4_hang : Room := { frames := 6, cells := 1, slots := 6, locals := 90 }
theorem hy_X4_hang : hYV yX4_hang cX4_hang 7 (some .int) 4 := ⟨⟨qw_508, qw_26, by decide, by decide +kernel⟩, qw_506, qw_507⟩
abbrev rm_X4_take : Room := { frames := 6, cells := 1, slots := 6, locals := 90 }
theorem hy_X4_take : hYV yX4_take cX4_take 5 (some .int) 2 := ⟨⟨qw_519, qw_26, by decide, by decide +kernel⟩, qw_517, qw_518⟩
abbrev rm_X4_move : Room := { frames := 6, cells := 1, slots := 6, locals := 90 }
theorem hy_X4_move : hYV yX4_move cX4_move 7 (some .int) 4 := ⟨⟨qw_529, qw_26, by decide, by decide +kernel⟩, qw_527, qw_528⟩
abbrev rm_X1_copyBundleOf : Room := { frames := 0, cells := 0, slots := 0, locals := 0 }
theorem hy_X1_copyBundleOf : hYV yX1_copyBundleOf cX1_copyBundleOf 2 none 1 := ⟨⟨qw_535, qw_31, by decide, by decide +kernel⟩, qw_533, qw_534⟩
abbrev rm_X4_turn : Room := { frames := 6, cells := 1, slots := 6, locals := 90 }
theorem hy_X4_turn : hYV yX4_turn cX4_turn 2 (some .int) 1 := ⟨⟨qw_543, qw_26, by decide, by decide +kernel⟩, qw_541, qw_542⟩
abbrev rm_X3_turnAllOn : Room := { frames := 1, cells := 0, slots := 0, locals := 21 }
theorem hy_X3_turnAllOn : hYV yX3_turnAllOn cX3_turnAllOn 7 (some .int) 1 := ⟨⟨qw_548, qw_30, by decide, by decide +kernel⟩, qw_546, qw_547⟩
abbrev rm_X1_exchangeSides : Room := { frames := 0, cells := 0, slots := 0, locals := 0 }
theorem hy_X1_exchangeSides : hYV yX1_exchangeSides cX1_exchangeSides 2 none 0 := ⟨⟨qw_552, qw_31, by decide, by decide +kernel⟩, qw_550, qw_551⟩
abbrev rm_X4_setWindow : Room := { frames := 6, cells := 1, slots := 6, locals := 90 }
theorem hy_X4_setWindow : hYV yX4_setWindow cX4_setWindow 3 (some .int) 1 := ⟨⟨qw_559, qw_26, by decide, by decide +kernel⟩, qw_557, qw_558⟩
abbrev rm_X4_order : Room := { frames := 6, cells := 2, slots := 14, locals := 108 }
theorem hy_X4_order : hYV yX4_order cX4_order 6 (some .int) 3 := ⟨⟨qw_567, qw_26, by decide, by decide +kernel⟩, qw_565, qw_566⟩
abbrev rm_X2_init : Room := { frames := 1, cells := 0, slots := 0, locals := 20 }
theorem hy_X2_init : hYI yX2_init cX2_init 4 3 := ⟨⟨qw_574, qw_47, by decide, by decide +kernel⟩, qw_573, rfl⟩
abbrev rm_X4_pass : Room := { frames := 6, cells := 1, slots := 6, locals := 112 }
theorem hy_X4_pass : hYV yX4_pass cX4_pass 3 (some .int) 2 := ⟨⟨qw_602, qw_26, by decide, by decide +kernel⟩, qw_600, qw_601⟩
abbrev rm_X3_letDaysGo : Room := { frames := 4, cells := 0, slots := 0, locals := 84 }
theorem hy_X3_letDaysGo : hYV yX3_letDaysGo cX3_letDaysGo 9 none 3 := ⟨⟨qw_608, qw_30, by decide, by decide +kernel⟩, qw_606, qw_607⟩
abbrev rm_X1_beginDay : Room := { frames := 3, cells := 0, slots := 0, locals := 62 }
theorem hy_X1_beginDay : hYV yX1_beginDay cX1_beginDay 3 none 2 := ⟨⟨qw_612, qw_31, by decide, by decide +kernel⟩, qw_610, qw_611⟩
abbrev rm_X1_spreadsMould : Room := { frames := 1, cells := 0, slots := 0, locals := 20 }
theorem hy_X1_spreadsMould : hYV yX1_spreadsMould cX1_spreadsMould 1 (some .boolean) 0 := ⟨⟨qw_617, qw_31, by decide, by decide +kernel⟩, qw_616, qw_8⟩
abbrev rm_X1_endDay : Room := { frames := 1, cells := 0, slots := 0, locals := 21 }
theorem hy_X1_endDay : hYV yX1_endDay cX1_endDay 1 none 0 := ⟨⟨qw_621, qw_31, by decide, by decide +kernel⟩, qw_619, qw_620⟩
abbrev rm_X4_until : Room := { frames := 6, cells := 1, slots := 6, locals := 112 }
theorem hy_X4_until : hYV yX4_until cX4_until 7 (some .int) 4 := ⟨⟨qw_645, qw_26, by decide, by decide +kernel⟩, qw_643, qw_644⟩
abbrev rm_X3_copyAllOf : Room := { frames := 1, cells := 0, slots := 0, locals := 21 }
theorem hy_X3_copyAllOf : hYV yX3_copyAllOf cX3_copyAllOf 3 none 1 := ⟨⟨qw_649, qw_30, by decide, by decide +kernel⟩, qw_647, qw_648⟩
abbrev rm_X4_foresee : Room := { frames := 6, cells := 1, slots := 6, locals := 112 }
theorem hy_X4_foresee : hYV yX4_foresee cX4_foresee 4 (some .int) 3 := ⟨⟨qw_657, qw_26, by decide, by decide +kernel⟩, qw_655, qw_656⟩
abbrev rm_X4_advise : Room := { frames := 6, cells := 1, slots := 6, locals := 134 }
theorem hy_X4_advise : hYV yX4_advise cX4_advise 7 (some .int) 2 := ⟨⟨qw_665, qw_26, by decide, by decide +kernel⟩, qw_663, qw_664⟩
abbrev rm_X4_scoreOfTrialBehind : Room := { frames := 5, cells := 0, slots := 0, locals := 112 }
theorem hy_X4_scoreOfTrialBehind : hYV yX4_scoreOfTrialBehind cX4_scoreOfTrialBehind 3 (some .int) 2 := ⟨⟨qw_670, qw_26, by decide, by decide +kernel⟩, qw_669, qw_9⟩
abbrev rm_X6_init : Room := { frames := 2, cells := 24, slots := 654, locals := 41 }
theorem hy_X6_init : hYI yX6_init cX6_init 1 0 := ⟨⟨qw_675, qw_32, by decide, by decide +kernel⟩, qw_674, rfl⟩
abbrev rm_X5_init : Room := { frames := 1, cells := 5, slots := 200, locals := 20 }
theorem hy_X5_init : hYI yX5_init cX5_init 2 0 := ⟨⟨qw_681, qw_33, by decide, by decide +kernel⟩, qw_680, rfl⟩
abbrev rm_X6_thrown : Room := { frames := 0, cells := 0, slots := 0, locals := 0 }
theorem hy_X6_thrown : hYV yX6_thrown cX6_thrown 1 (some .int) 0 := ⟨⟨qw_755, qw_32, by decide, by decide +kernel⟩, qw_753, qw_754⟩
abbrev rm_X6_herb : Room := { frames := 1, cells := 0, slots := 0, locals := 22 }
theorem hy_X6_herb : hYV yX6_herb cX6_herb 3 (some .int) 2 := ⟨⟨qw_759, qw_32, by decide, by decide +kernel⟩, qw_757, qw_758⟩
abbrev rm_X6_isIn : Room := { frames := 0, cells := 0, slots := 0, locals := 0 }
theorem hy_X6_isIn : hYS yX6_isIn cX6_isIn 3 (some .boolean) 3 := ⟨⟨qw_762, qw_32, by decide, by decide +kernel⟩, qw_761⟩
abbrev rm_X6_no : Room := { frames := 0, cells := 0, slots := 0, locals := 0 }
theorem hy_X6_no : hYV yX6_no cX6_no 2 (some .int) 1 := ⟨⟨qw_766, qw_32, by decide, by decide +kernel⟩, qw_765, qw_10⟩
abbrev rm_X6_hang : Room := { frames := 2, cells := 0, slots := 0, locals := 44 }
theorem hy_X6_hang : hYV yX6_hang cX6_hang 6 (some .int) 4 := ⟨⟨qw_770, qw_32, by decide, by decide +kernel⟩, qw_768, qw_769⟩
abbrev rm_X6_isHook : Room := { frames := 1, cells := 0, slots := 0, locals := 22 }
theorem hy_X6_isHook : hYS yX6_isHook cX6_isHook 2 (some .boolean) 2 := ⟨⟨qw_773, qw_32, by decide, by decide +kernel⟩, qw_772⟩
abbrev rm_X6_isHerb : Room := { frames := 1, cells := 0, slots := 0, locals := 22 }
theorem hy_X6_isHerb : hYV yX6_isHerb cX6_isHerb 2 (some .boolean) 1 := ⟨⟨qw_777, qw_32, by decide, by decide +kernel⟩, qw_776, qw_11⟩
abbrev rm_X5_hangs : Room := { frames := 0, cells := 0, slots := 0, locals := 0 }
theorem hy_X5_hangs : hYV yX5_hangs cX5_hangs 2 (some .boolean) 1 := ⟨⟨qw_781, qw_33, by decide, by decide +kernel⟩, qw_779, qw_780⟩
abbrev rm_X5_sum : Room := { frames := 1, cells := 0, slots := 0, locals := 21 }
theorem hy_X5_sum : hYV yX5_sum cX5_sum 4 (some .int) 1 := ⟨⟨qw_785, qw_33, by decide, by decide +kernel⟩, qw_783, qw_784⟩
abbrev rm_X5_wetness : Room := { frames := 0, cells := 0, slots := 0, locals := 0 }
theorem hy_X5_wetness : hYV yX5_wetness cX5_wetness 2 (some .int) 1 := ⟨⟨qw_790, qw_33, by decide, by decide +kernel⟩, qw_788, qw_789⟩
abbrev rm_X6_take : Room := { frames := 2, cells := 0, slots := 0, locals := 43 }
theorem hy_X6_take : hYV yX6_take cX6_take 4 (some .int) 2 := ⟨⟨qw_794, qw_32, by decide, by decide +kernel⟩, qw_792, qw_793⟩
abbrev rm_X6_move : Room := { frames := 3, cells := 0, slots := 0, locals := 66 }
theorem hy_X6_move : hYV yX6_move cX6_move 7 (some .int) 4 := ⟨⟨qw_799, qw_32, by decide, by decide +kernel⟩, qw_797, qw_798⟩
abbrev rm_X5_lay : Room := { frames := 0, cells := 0, slots := 0, locals := 0 }
theorem hy_X5_lay : hYV yX5_lay cX5_lay 3 none 2 := ⟨⟨qw_803, qw_33, by decide, by decide +kernel⟩, qw_801, qw_802⟩
abbrev rm_X5_neighbours : Room := { frames := 2, cells := 0, slots := 0, locals := 45 }
theorem hy_X5_neighbours : hYV yX5_neighbours cX5_neighbours 2 (some .int) 1 := ⟨⟨qw_807, qw_33, by decide, by decide +kernel⟩, qw_805, qw_806⟩
abbrev rm_X5_beside : Room := { frames := 1, cells := 0, slots := 0, locals := 22 }
theorem hy_X5_beside : hYV yX5_beside cX5_beside 4 (some .int) 2 := ⟨⟨qw_811, qw_33, by decide, by decide +kernel⟩, qw_809, qw_810⟩
abbrev rm_X6_turn : Room := { frames := 1, cells := 0, slots := 0, locals := 23 }
theorem hy_X6_turn : hYV yX6_turn cX6_turn 4 (some .int) 1 := ⟨⟨qw_816, qw_32, by decide, by decide +kernel⟩, qw_814, qw_815⟩
abbrev rm_X5_turn : Room := { frames := 0, cells := 0, slots := 0, locals := 0 }
theorem hy_X5_turn : hYV yX5_turn cX5_turn 4 none 1 := ⟨⟨qw_820, qw_33, by decide, by decide +kernel⟩, qw_818, qw_819⟩
abbrev rm_X6_setWindow : Room := { frames := 1, cells := 0, slots := 0, locals := 22 }
theorem hy_X6_setWindow : hYV yX6_setWindow cX6_setWindow 3 (some .int) 1 := ⟨⟨qw_824, qw_32, by decide, by decide +kernel⟩, qw_822, qw_823⟩
abbrev rm_X6_order : Room := { frames := 2, cells := 0, slots := 0, locals := 43 }
theorem hy_X6_order : hYV yX6_order cX6_order 4 (some .int) 3 := ⟨⟨qw_828, qw_32, by decide, by decide +kernel⟩, qw_826, qw_827⟩
abbrev rm_X6_fill : Room := { frames := 3, cells := 0, slots := 0, locals := 67 }
theorem hy_X6_fill : hYV yX6_fill cX6_fill 3 (some .int) 0 := ⟨⟨qw_832, qw_32, by decide, by decide +kernel⟩, qw_830, qw_831⟩
abbrev rm_X6_filled : Room := { frames := 2, cells := 0, slots := 0, locals := 43 }
theorem hy_X6_filled : hYV yX6_filled cX6_filled 5 (some .int) 1 := ⟨⟨qw_836, qw_32, by decide, by decide +kernel⟩, qw_835, qw_12⟩
abbrev rm_X6_fits : Room := { frames := 1, cells := 0, slots := 0, locals := 21 }
theorem hy_X6_fits : hYV yX6_fits cX6_fits 3 (some .boolean) 2 := ⟨⟨qw_840, qw_32, by decide, by decide +kernel⟩, qw_839, qw_13⟩
abbrev rm_X6_pass : Room := { frames := 5, cells := 0, slots := 0, locals := 130 }
theorem hy_X6_pass : hYV yX6_pass cX6_pass 3 (some .int) 2 := ⟨⟨qw_844, qw_32, by decide, by decide +kernel⟩, qw_842, qw_843⟩
abbrev rm_X6_daysOn : Room := { frames := 4, cells := 0, slots := 0, locals := 106 }
theorem hy_X6_daysOn : hYV yX6_daysOn cX6_daysOn 5 none 3 := ⟨⟨qw_848, qw_32, by decide, by decide +kernel⟩, qw_847, qw_14⟩
abbrev rm_X6_dayOn : Room := { frames := 3, cells := 0, slots := 0, locals := 82 }
theorem hy_X6_dayOn : hYV yX6_dayOn cX6_dayOn 5 none 2 := ⟨⟨qw_852, qw_32, by decide, by decide +kernel⟩, qw_851, qw_15⟩
abbrev rm_X5_become : Room := { frames := 2, cells := 0, slots := 0, locals := 61 }
theorem hy_X5_become : hYV yX5_become cX5_become 2 none 1 := ⟨⟨qw_856, qw_33, by decide, by decide +kernel⟩, qw_854, qw_855⟩
abbrev rm_X5_copy : Room := { frames := 1, cells := 0, slots := 0, locals := 40 }
theorem hy_X5_copy : hYS yX5_copy cX5_copy 2 none 2 := ⟨⟨qw_859, qw_33, by decide, by decide +kernel⟩, qw_858⟩
abbrev rm_X5_wetter : Room := { frames := 2, cells := 0, slots := 0, locals := 45 }
theorem hy_X5_wetter : hYV yX5_wetter cX5_wetter 2 (some .int) 1 := ⟨⟨qw_864, qw_33, by decide, by decide +kernel⟩, qw_862, qw_863⟩
abbrev rm_X5_isWetter : Room := { frames := 1, cells := 0, slots := 0, locals := 21 }
theorem hy_X5_isWetter : hYV yX5_isWetter cX5_isWetter 3 (some .int) 2 := ⟨⟨qw_868, qw_33, by decide, by decide +kernel⟩, qw_867, qw_16⟩
abbrev rm_X5_isBesideBad : Room := { frames := 2, cells := 0, slots := 0, locals := 45 }
theorem hy_X5_isBesideBad : hYV yX5_isBesideBad cX5_isBesideBad 2 (some .boolean) 1 := ⟨⟨qw_874, qw_33, by decide, by decide +kernel⟩, qw_872, qw_873⟩
abbrev rm_X5_isBad : Room := { frames := 0, cells := 0, slots := 0, locals := 0 }
theorem hy_X5_isBad : hYV yX5_isBad cX5_isBad 2 (some .boolean) 1 := ⟨⟨qw_878, qw_33, by decide, by decide +kernel⟩, qw_877, qw_17⟩
abbrev rm_X6_told : Room := { frames := 4, cells := 0, slots := 0, locals := 88 }
theorem hy_X6_told : hYV yX6_told cX6_told 4 (some .int) 3 := ⟨⟨qw_882, qw_32, by decide, by decide +kernel⟩, qw_880, qw_881⟩
abbrev rm_X6_bundleTold : Room := { frames := 3, cells := 0, slots := 0, locals := 66 }
theorem hy_X6_bundleTold : hYV yX6_bundleTold cX6_bundleTold 3 (some .int) 2 := ⟨⟨qw_886, qw_32, by decide, by decide +kernel⟩, qw_885, qw_18⟩
abbrev rm_X6_about : Room := { frames := 2, cells := 0, slots := 0, locals := 47 }
theorem hy_X6_about : hYV yX6_about cX6_about 3 (some .int) 2 := ⟨⟨qw_890, qw_32, by decide, by decide +kernel⟩, qw_888, qw_889⟩
abbrev rm_X6_herbTold : Room := { frames := 1, cells := 0, slots := 0, locals := 21 }
theorem hy_X6_herbTold : hYV yX6_herbTold cX6_herbTold 7 (some .int) 2 := ⟨⟨qw_894, qw_32, by decide, by decide +kernel⟩, qw_893, qw_19⟩
abbrev rm_X6_asked : Room := { frames := 3, cells := 0, slots := 0, locals := 67 }
theorem hy_X6_asked : hYV yX6_asked cX6_asked 3 (some .int) 2 := ⟨⟨qw_898, qw_32, by decide, by decide +kernel⟩, qw_896, qw_897⟩
abbrev rm_X6_orderTold : Room := { frames := 2, cells := 0, slots := 0, locals := 43 }
theorem hy_X6_orderTold : hYV yX6_orderTold cX6_orderTold 5 (some .int) 2 := ⟨⟨qw_902, qw_32, by decide, by decide +kernel⟩, qw_901, qw_20⟩
abbrev rm_X6_count : Room := { frames := 3, cells := 0, slots := 0, locals := 67 }
theorem hy_X6_count : hYV yX6_count cX6_count 2 (some .int) 1 := ⟨⟨qw_906, qw_32, by decide, by decide +kernel⟩, qw_904, qw_905⟩
abbrev rm_X6_counted : Room := { frames := 2, cells := 0, slots := 0, locals := 44 }
theorem hy_X6_counted : hYV yX6_counted cX6_counted 4 (some .int) 1 := ⟨⟨qw_910, qw_32, by decide, by decide +kernel⟩, qw_909, qw_21⟩
abbrev rm_X6_until : Room := { frames := 5, cells := 0, slots := 0, locals := 130 }
theorem hy_X6_until : hYV yX6_until cX6_until 5 (some .int) 4 := ⟨⟨qw_914, qw_32, by decide, by decide +kernel⟩, qw_912, qw_913⟩
abbrev rm_X6_untilDry : Room := { frames := 4, cells := 0, slots := 0, locals := 106 }
theorem hy_X6_untilDry : hYV yX6_untilDry cX6_untilDry 5 (some .int) 3 := ⟨⟨qw_918, qw_32, by decide, by decide +kernel⟩, qw_917, qw_22⟩
abbrev rm_X6_foresee : Room := { frames := 5, cells := 0, slots := 0, locals := 130 }
theorem hy_X6_foresee : hYV yX6_foresee cX6_foresee 4 (some .int) 3 := ⟨⟨qw_922, qw_32, by decide, by decide +kernel⟩, qw_920, qw_921⟩
abbrev rm_X6_advise : Room := { frames := 7, cells := 0, slots := 0, locals := 179 }
theorem hy_X6_advise : hYV yX6_advise cX6_advise 3 (some .int) 2 := ⟨⟨qw_926, qw_32, by decide, by decide +kernel⟩, qw_924, qw_925⟩
abbrev rm_X6_bestString : Room := { frames := 6, cells := 0, slots := 0, locals := 153 }
theorem hy_X6_bestString : hYV yX6_bestString cX6_bestString 7 (some .int) 2 := ⟨⟨qw_930, qw_32, by decide, by decide +kernel⟩, qw_929, qw_23⟩
abbrev rm_X6_badBehind : Room := { frames := 5, cells := 0, slots := 0, locals := 130 }
theorem hy_X6_badBehind : hYV yX6_badBehind cX6_badBehind 4 (some .int) 3 := ⟨⟨qw_934, qw_32, by decide, by decide +kernel⟩, qw_933, qw_24⟩
abbrev rm_X6_mean : Room := { frames := 2, cells := 0, slots := 0, locals := 44 }
theorem hy_X6_mean : hYV yX6_mean cX6_mean 2 (some .double) 0 := ⟨⟨qw_938, qw_32, by decide, by decide +kernel⟩, qw_936, qw_937⟩
abbrev rm_X6_digest : Room := { frames := 4, cells := 0, slots := 0, locals := 88 }
theorem hy_X6_digest : hYV yX6_digest cX6_digest 5 (some .long) 0 := ⟨⟨qw_942, qw_32, by decide, by decide +kernel⟩, qw_940, qw_941⟩
theorem hs_208 : (RX4, 208, "what is not 0 to 8") ∈ hStrs := by decide +kernel
theorem hs_80 : (RX4, 80, "there is no such herb") ∈ hStrs := by decide +kernel
theorem hs_176 : (RX4, 176, "what is not 0 to 4") ∈ hStrs := by decide +kernel
theorem hs_178 : (RX4, 178, "there is no such order") ∈ hStrs := by decide +kernel
theorem hs_73 : (RX4, 73, "there is no such string or hook") ∈ hStrs := by decide +kernel
theorem hs_155 : (RX4, 155, "what is not 0 to 7") ∈ hStrs := by decide +kernel
theorem hs_42 : (RX4, 42, "the ease is not 1 to 9") ∈ hStrs := by decide +kernel
theorem hs_47 : (RX4, 47, "the limit is not 20 to 90") ∈ hStrs := by decide +kernel
theorem hs_55 : (RX4, 55, "there are 6 herbs") ∈ hStrs := by decide +kernel
theorem hs_82 : (RX4, 82, "wet is not 0 to 100") ∈ hStrs := by decide +kernel
theorem hs_90 : (RX4, 90, "a bundle hangs there") ∈ hStrs := by decide +kernel
theorem hs_99 : (RX4, 99, "no bundle hangs there") ∈ hStrs := by decide +kernel
theorem hs_107 : (RX4, 107, "no bundle hangs on the first hook") ∈ hStrs := by decide +kernel
theorem hs_109 : (RX4, 109, "a bundle hangs on the second hook") ∈ hStrs := by decide +kernel
theorem hs_118 : (RX4, 118, "there is no such string") ∈ hStrs := by decide +kernel
theorem hs_124 : (RX4, 124, "open is not 0 to 3") ∈ hStrs := by decide +kernel
theorem hs_126 : (RX4, 126, "many is not 1 to 9") ∈ hStrs := by decide +kernel
theorem hs_128 : (RX4, 128, "wet is not 0 to 60") ∈ hStrs := by decide +kernel
theorem hs_130 : (RX4, 130, "there are 6 orders") ∈ hStrs := by decide +kernel
theorem hs_145 : (RX4, 145, "days is not 1 to 60") ∈ hStrs := by decide +kernel
theorem hs_147 : (RX4, 147, "damp is not 0 to 9") ∈ hStrs := by decide +kernel
theorem hs_214 : (RX4, 214, "what is not 3 or 8") ∈ hStrs := by decide +kernel
theorem hs_216 : (RX4, 216, "days is not 1 to 30") ∈ hStrs := by decide +kernel
def thrN (ns : List String) (c : Nat) (E : String) : Prop := ∃ i, c = i + 1 ∧ ns[i]? = some E
