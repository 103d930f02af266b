def RX0 : String := "HerbLoft$Herb"
def TX0 : u_T := fun k => match k with
  | 0 => ("HerbLoft$Herb", "number", "I", true)
  | 1 => ("HerbLoft$Herb", "ease", "I", true)
  | _ => ("HerbLoft$Herb", "limit", "I", true)
def tyX0 : Nat → FieldType := fun k => match k with
  | 0 => .int
  | 1 => .int
  | _ => .int
abbrev wsX00 : List Cond := u_ws RX0 TX0 3
theorem nmX0 : ∀ a, a < 3 → ∀ b, b < 3 → a ≠ b → (TX0 a).2.1 ≠ (TX0 b).2.1 := by decide +kernel
theorem tyX0_ok : ∀ k, k < 3 → parseFieldDescriptor (TX0 k).2.2.1 = some (tyX0 k) := by decide +kernel
abbrev cX0_init : ByteArray := prog_2_method_1_code
def yX0_init : MethodName := ⟨RX0, "<init>", "(III)V"⟩
def RX1 : String := "HerbLoft$Hook"
def TX1 : u_T := fun k => match k with
  | 0 => ("HerbLoft$Hook", "string", "I", true)
  | 1 => ("HerbLoft$Hook", "before", "LHerbLoft$Hook;", false)
  | 2 => ("HerbLoft$Hook", "after", "LHerbLoft$Hook;", false)
  | 3 => ("HerbLoft$Hook", "herb", "LHerbLoft$Herb;", false)
  | 4 => ("HerbLoft$Hook", "front", "I", false)
  | 5 => ("HerbLoft$Hook", "back", "I", false)
  | 6 => ("HerbLoft$Hook", "wetDays", "I", false)
  | 7 => ("HerbLoft$Hook", "mould", "I", false)
  | 8 => ("HerbLoft$Hook", "force", "I", false)
  | _ => ("HerbLoft$Hook", "besideSpreading", "Z", false)
def tyX1 : Nat → FieldType := fun k => match k with
  | 0 => .int
  | 1 => .object "HerbLoft$Hook"
  | 2 => .object "HerbLoft$Hook"
  | 3 => .object "HerbLoft$Herb"
  | 4 => .int
  | 5 => .int
  | 6 => .int
  | 7 => .int
  | 8 => .int
  | _ => .boolean
abbrev wsX10 : List Cond := u_ws RX1 TX1 10
theorem nmX1 : ∀ a, a < 10 → ∀ b, b < 10 → a ≠ b → (TX1 a).2.1 ≠ (TX1 b).2.1 := by decide +kernel
theorem tyX1_ok : ∀ k, k < 10 → parseFieldDescriptor (TX1 k).2.2.1 = some (tyX1 k) := by decide +kernel
abbrev cX1_init : ByteArray := prog_3_method_1_code
def yX1_init : MethodName := ⟨RX1, "<init>", "(I)V"⟩
abbrev cX1_isTaken : ByteArray := prog_3_method_2_code
def yX1_isTaken : MethodName := ⟨RX1, "isTaken", "()Z"⟩
abbrev cX1_isTakenBy : ByteArray := prog_3_method_3_code
def yX1_isTakenBy : MethodName := ⟨RX1, "isTakenBy", "(LHerbLoft$Herb;)Z"⟩
abbrev cX1_isMouldy : ByteArray := prog_3_method_4_code
def yX1_isMouldy : MethodName := ⟨RX1, "isMouldy", "()Z"⟩
abbrev cX1_wetness : ByteArray := prog_3_method_5_code
def yX1_wetness : MethodName := ⟨RX1, "wetness", "()I"⟩
abbrev cX1_fits : ByteArray := prog_3_method_6_code
def yX1_fits : MethodName := ⟨RX1, "fits", "(LHerbLoft$Order;)Z"⟩
abbrev cX1_receiveNew : ByteArray := prog_3_method_7_code
def yX1_receiveNew : MethodName := ⟨RX1, "receiveNew", "(LHerbLoft$Herb;I)V"⟩
abbrev cX1_clear : ByteArray := prog_3_method_8_code
def yX1_clear : MethodName := ⟨RX1, "clear", "()V"⟩
abbrev cX1_copyBundleOf : ByteArray := prog_3_method_9_code
def yX1_copyBundleOf : MethodName := ⟨RX1, "copyBundleOf", "(LHerbLoft$Hook;)V"⟩
abbrev cX1_exchangeSides : ByteArray := prog_3_method_10_code
def yX1_exchangeSides : MethodName := ⟨RX1, "exchangeSides", "()V"⟩
abbrev cX1_neighbours : ByteArray := prog_3_method_11_code
def yX1_neighbours : MethodName := ⟨RX1, "neighbours", "()I"⟩
abbrev cX1_wetterNeighbours : ByteArray := prog_3_method_12_code
def yX1_wetterNeighbours : MethodName := ⟨RX1, "wetterNeighbours", "()I"⟩
abbrev cX1_isWetterThan : ByteArray := prog_3_method_13_code
def yX1_isWetterThan : MethodName := ⟨RX1, "isWetterThan", "(LHerbLoft$Hook;)Z"⟩
abbrev cX1_spreadsMould : ByteArray := prog_3_method_14_code
def yX1_spreadsMould : MethodName := ⟨RX1, "spreadsMould", "()Z"⟩
abbrev cX1_beginDay : ByteArray := prog_3_method_15_code
def yX1_beginDay : MethodName := ⟨RX1, "beginDay", "(II)V"⟩
abbrev cX1_endDay : ByteArray := prog_3_method_16_code
def yX1_endDay : MethodName := ⟨RX1, "endDay", "()V"⟩
abbrev cX1_tells : ByteArray := prog_3_method_17_code
def yX1_tells : MethodName := ⟨RX1, "tells", "(I)I"⟩
def RX2 : String := "HerbLoft$Order"
def TX2 : u_T := fun k => match k with
  | 0 => ("HerbLoft$Order", "herb", "LHerbLoft$Herb;", true)
  | 1 => ("HerbLoft$Order", "many", "I", true)
  | 2 => ("HerbLoft$Order", "wet", "I", true)
  | _ => ("HerbLoft$Order", "got", "I", false)
def tyX2 : Nat → FieldType := fun k => match k with
  | 0 => .object "HerbLoft$Herb"
  | 1 => .int
  | 2 => .int
  | _ => .int
abbrev wsX20 : List Cond := u_ws RX2 TX2 4
theorem nmX2 : ∀ a, a < 4 → ∀ b, b < 4 → a ≠ b → (TX2 a).2.1 ≠ (TX2 b).2.1 := by decide +kernel
theorem tyX2_ok : ∀ k, k < 4 → parseFieldDescriptor (TX2 k).2.2.1 = some (tyX2 k) := by decide +kernel
abbrev cX2_init : ByteArray := prog_4_method_1_code
def yX2_init : MethodName := ⟨RX2, "<init>", "(LHerbLoft$Herb;II)V"⟩
abbrev cX2_needsSome : ByteArray := prog_4_method_2_code
def yX2_needsSome : MethodName := ⟨RX2, "needsSome", "()Z"⟩
def RX3 : String := "HerbLoft$Rack"
def TX3 : u_T := fun k => match k with
  | _ => ("HerbLoft$Rack", "hooks", "[LHerbLoft$Hook;", true)
def tyX3 : Nat → FieldType := fun k => match k with
  | _ => .array (.object "HerbLoft$Hook")
abbrev wsX30 : List Cond := u_ws RX3 TX3 1
theorem nmX3 : ∀ a, a < 1 → ∀ b, b < 1 → a ≠ b → (TX3 a).2.1 ≠ (TX3 b).2.1 := by decide +kernel
theorem tyX3_ok : ∀ k, k < 1 → parseFieldDescriptor (TX3 k).2.2.1 = some (tyX3 k) := by decide +kernel
abbrev cX3_init : ByteArray := prog_5_method_1_code
def yX3_init : MethodName := ⟨RX3, "<init>", "()V"⟩
abbrev cX3_hookAt : ByteArray := prog_5_method_2_code
def yX3_hookAt : MethodName := ⟨RX3, "hookAt", "(II)LHerbLoft$Hook;"⟩
abbrev cX3_copyAllOf : ByteArray := prog_5_method_3_code
def yX3_copyAllOf : MethodName := ⟨RX3, "copyAllOf", "(LHerbLoft$Rack;)V"⟩
abbrev cX3_turnAllOn : ByteArray := prog_5_method_4_code
def yX3_turnAllOn : MethodName := ⟨RX3, "turnAllOn", "(I)I"⟩
abbrev cX3_letDaysGo : ByteArray := prog_5_method_5_code
def yX3_letDaysGo : MethodName := ⟨RX3, "letDaysGo", "(III)V"⟩
abbrev cX3_giveTo : ByteArray := prog_5_method_6_code
def yX3_giveTo : MethodName := ⟨RX3, "giveTo", "(LHerbLoft$Order;)I"⟩
abbrev cX3_bundles : ByteArray := prog_5_method_7_code
def yX3_bundles : MethodName := ⟨RX3, "bundles", "()I"⟩
abbrev cX3_mouldyBundles : ByteArray := prog_5_method_8_code
def yX3_mouldyBundles : MethodName := ⟨RX3, "mouldyBundles", "()I"⟩
abbrev cX3_sumOfWetness : ByteArray := prog_5_method_9_code
def yX3_sumOfWetness : MethodName := ⟨RX3, "sumOfWetness", "()I"⟩
abbrev cX3_bundlesOf : ByteArray := prog_5_method_10_code
def yX3_bundlesOf : MethodName := ⟨RX3, "bundlesOf", "(LHerbLoft$Herb;)I"⟩
abbrev cX3_mouldyBundlesOf : ByteArray := prog_5_method_11_code
def yX3_mouldyBundlesOf : MethodName := ⟨RX3, "mouldyBundlesOf", "(LHerbLoft$Herb;)I"⟩
abbrev cX3_leastCleanWetnessOf : ByteArray := prog_5_method_12_code
def yX3_leastCleanWetnessOf : MethodName := ⟨RX3, "leastCleanWetnessOf", "(LHerbLoft$Herb;)I"⟩
abbrev cX3_bundlesThatFit : ByteArray := prog_5_method_13_code
def yX3_bundlesThatFit : MethodName := ⟨RX3, "bundlesThatFit", "(LHerbLoft$Order;)I"⟩
def RX4 : String := "HerbLoft"
def TX4 : u_T := fun k => match k with
  | 0 => ("HerbLoft", "herbs", "Ljava/util/ArrayList;", true)
  | 1 => ("HerbLoft", "orders", "Ljava/util/ArrayList;", true)
  | 2 => ("HerbLoft", "rack", "LHerbLoft$Rack;", true)
  | 3 => ("HerbLoft", "trial", "LHerbLoft$Rack;", true)
  | 4 => ("HerbLoft", "window", "I", false)
  | _ => ("HerbLoft", "day", "I", false)
def tyX4 : Nat → FieldType := fun k => match k with
  | 0 => .object "java/util/ArrayList"
  | 1 => .object "java/util/ArrayList"
  | 2 => .object "HerbLoft$Rack"
  | 3 => .object "HerbLoft$Rack"
  | 4 => .int
  | _ => .int
abbrev wsX40 : List Cond := u_ws RX4 TX4 6
theorem nmX4 : ∀ a, a < 6 → ∀ b, b < 6 → a ≠ b → (TX4 a).2.1 ≠ (TX4 b).2.1 := by decide +kernel
theorem tyX4_ok : ∀ k, k < 6 → parseFieldDescriptor (TX4 k).2.2.1 = some (tyX4 k) := by decide +kernel
abbrev cX4_init : ByteArray := prog_1_method_1_code
def yX4_init : MethodName := ⟨RX4, "<init>", "()V"⟩
abbrev cX4_herb : ByteArray := prog_1_method_2_code
def yX4_herb : MethodName := ⟨RX4, "herb", "(II)I"⟩
abbrev cX4_hang : ByteArray := prog_1_method_3_code
def yX4_hang : MethodName := ⟨RX4, "hang", "(IIII)I"⟩
abbrev cX4_take : ByteArray := prog_1_method_4_code
def yX4_take : MethodName := ⟨RX4, "take", "(II)I"⟩
abbrev cX4_move : ByteArray := prog_1_method_5_code
def yX4_move : MethodName := ⟨RX4, "move", "(IIII)I"⟩
abbrev cX4_turn : ByteArray := prog_1_method_6_code
def yX4_turn : MethodName := ⟨RX4, "turn", "(I)I"⟩
abbrev cX4_setWindow : ByteArray := prog_1_method_7_code
def yX4_setWindow : MethodName := ⟨RX4, "setWindow", "(I)I"⟩
abbrev cX4_order : ByteArray := prog_1_method_8_code
def yX4_order : MethodName := ⟨RX4, "order", "(III)I"⟩
abbrev cX4_fill : ByteArray := prog_1_method_9_code
def yX4_fill : MethodName := ⟨RX4, "fill", "()I"⟩
abbrev cX4_pass : ByteArray := prog_1_method_10_code
def yX4_pass : MethodName := ⟨RX4, "pass", "(II)I"⟩
abbrev cX4_told : ByteArray := prog_1_method_11_code
def yX4_told : MethodName := ⟨RX4, "told", "(III)I"⟩
abbrev cX4_about : ByteArray := prog_1_method_12_code
def yX4_about : MethodName := ⟨RX4, "about", "(II)I"⟩
abbrev cX4_asked : ByteArray := prog_1_method_13_code
def yX4_asked : MethodName := ⟨RX4, "asked", "(II)I"⟩
abbrev cX4_count : ByteArray := prog_1_method_14_code
def yX4_count : MethodName := ⟨RX4, "count", "(I)I"⟩
abbrev cX4_foresee : ByteArray := prog_1_method_16_code
def yX4_foresee : MethodName := ⟨RX4, "foresee", "(III)I"⟩
abbrev cX4_mean : ByteArray := prog_1_method_18_code
def yX4_mean : MethodName := ⟨RX4, "mean", "()D"⟩
abbrev cX4_digest : ByteArray := prog_1_method_19_code
def yX4_digest : MethodName := ⟨RX4, "digest", "()J"⟩
abbrev cX4_isWithin : ByteArray := prog_1_method_20_code
def yX4_isWithin : MethodName := ⟨RX4, "isWithin", "(III)Z"⟩
abbrev cX4_herbNumbered : ByteArray := prog_1_method_21_code
def yX4_herbNumbered : MethodName := ⟨RX4, "herbNumbered", "(I)LHerbLoft$Herb;"⟩
abbrev cX4_ordersThatGotAll : ByteArray := prog_1_method_22_code
def yX4_ordersThatGotAll : MethodName := ⟨RX4, "ordersThatGotAll", "()I"⟩
abbrev cX4_bundlesGiven : ByteArray := prog_1_method_23_code
def yX4_bundlesGiven : MethodName := ⟨RX4, "bundlesGiven", "()I"⟩
def RX5 : String := "HerbLoftLaw$Sim"
def TX5 : u_T := fun k => match k with
  | 0 => ("HerbLoftLaw$Sim", "day", "I", false)
  | 1 => ("HerbLoftLaw$Sim", "window", "I", false)
  | 2 => ("HerbLoftLaw$Sim", "given", "I", false)
  | 3 => ("HerbLoftLaw$Sim", "herbs", "[[I", false)
  | 4 => ("HerbLoftLaw$Sim", "orders", "[[I", false)
  | _ => ("HerbLoftLaw$Sim", "loft", "[[[I", false)
def tyX5 : Nat → FieldType := fun k => match k with
  | 0 => .int
  | 1 => .int
  | 2 => .int
  | 3 => .array (.array .int)
  | 4 => .array (.array .int)
  | _ => .array (.array (.array .int))
abbrev wsX50 : List Cond := u_ws RX5 TX5 6
theorem nmX5 : ∀ a, a < 6 → ∀ b, b < 6 → a ≠ b → (TX5 a).2.1 ≠ (TX5 b).2.1 := by decide +kernel
theorem tyX5_ok : ∀ k, k < 6 → parseFieldDescriptor (TX5 k).2.2.1 = some (tyX5 k) := by decide +kernel
abbrev cX5_init : ByteArray := prog_7_method_1_code
def yX5_init : MethodName := ⟨RX5, "<init>", "()V"⟩
abbrev cX5_more : ByteArray := prog_7_method_3_code
def yX5_more : MethodName := ⟨RX5, "more", "([[I[I)[[I"⟩
abbrev cX5_wet : ByteArray := prog_7_method_4_code
def yX5_wet : MethodName := ⟨RX5, "wet", "([I)I"⟩
abbrev cX5_near : ByteArray := prog_7_method_5_code
def yX5_near : MethodName := ⟨RX5, "near", "(III)I"⟩
abbrev cX5_go : ByteArray := prog_7_method_6_code
def yX5_go : MethodName := ⟨RX5, "go", "(I)V"⟩
abbrev cX5_turn : ByteArray := prog_7_method_7_code
def yX5_turn : MethodName := ⟨RX5, "turn", "(I)V"⟩
abbrev cX5_fits : ByteArray := prog_7_method_8_code
def yX5_fits : MethodName := ⟨RX5, "fits", "([I[I)Z"⟩
abbrev cX5_fill : ByteArray := prog_7_method_9_code
def yX5_fill : MethodName := ⟨RX5, "fill", "()I"⟩
abbrev cX5_sums : ByteArray := prog_7_method_10_code
def yX5_sums : MethodName := ⟨RX5, "sums", "()[I"⟩
abbrev cX5_isSame : ByteArray := prog_7_method_11_code
def yX5_isSame : MethodName := ⟨RX5, "isSame", "(LHerbLoft;)Z"⟩
def RX6 : String := "HerbLoftModel$State"
def TX6 : u_T := fun k => match k with
  | _ => ("", "", "", false)
def tyX6 : Nat → FieldType := fun k => match k with
  | _ => .int
abbrev wsX60 : List Cond := u_ws RX6 TX6 0
theorem nmX6 : ∀ a, a < 0 → ∀ b, b < 0 → a ≠ b → (TX6 a).2.1 ≠ (TX6 b).2.1 := by decide +kernel
theorem tyX6_ok : ∀ k, k < 0 → parseFieldDescriptor (TX6 k).2.2.1 = some (tyX6 k) := by decide +kernel
def RX7 : String := "HerbLoftModel"
def TX7 : u_T := fun k => match k with
  | _ => ("", "", "", false)
def tyX7 : Nat → FieldType := fun k => match k with
  | _ => .int
abbrev wsX70 : List Cond := u_ws RX7 TX7 0
theorem nmX7 : ∀ a, a < 0 → ∀ b, b < 0 → a ≠ b → (TX7 a).2.1 ≠ (TX7 b).2.1 := by decide +kernel
theorem tyX7_ok : ∀ k, k < 0 → parseFieldDescriptor (TX7 k).2.2.1 = some (tyX7 k) := by decide +kernel
def RJx145de : String := "java/io/Serializable"
def TJx145de : u_T := fun k => match k with
  | _ => ("", "", "", false)
def tyJx145de : Nat → FieldType := fun k => match k with
  | _ => .int
abbrev wsJx145de0 : List Cond := u_ws RJx145de TJx145de 0
theorem nmJx145de : ∀ a, a < 0 → ∀ b, b < 0 → a ≠ b → (TJx145de a).2.1 ≠ (TJx145de b).2.1 := by decide +kernel
theorem tyJx145de_ok : ∀ k, k < 0 → parseFieldDescriptor (TJx145de k).2.2.1 = some (tyJx145de k) := by decide +kernel
def RJx8e188 : String := "java/lang/Cloneable"
def TJx8e188 : u_T := fun k => match k with
  | _ => ("", "", "", false)
def tyJx8e188 : Nat → FieldType := fun k => match k with
  | _ => .int
abbrev wsJx8e1880 : List Cond := u_ws RJx8e188 TJx8e188 0
theorem nmJx8e188 : ∀ a, a < 0 → ∀ b, b < 0 → a ≠ b → (TJx8e188 a).2.1 ≠ (TJx8e188 b).2.1 := by decide +kernel
theorem tyJx8e188_ok : ∀ k, k < 0 → parseFieldDescriptor (TJx8e188 k).2.2.1 = some (tyJx8e188 k) := by decide +kernel
def RJxab1ab : String := "java/lang/Iterable"
def TJxab1ab : u_T := fun k => match k with
  | _ => ("", "", "", false)
def tyJxab1ab : Nat → FieldType := fun k => match k with
  | _ => .int
abbrev wsJxab1ab0 : List Cond := u_ws RJxab1ab TJxab1ab 0
theorem nmJxab1ab : ∀ a, a < 0 → ∀ b, b < 0 → a ≠ b → (TJxab1ab a).2.1 ≠ (TJxab1ab b).2.1 := by decide +kernel
theorem tyJxab1ab_ok : ∀ k, k < 0 → parseFieldDescriptor (TJxab1ab k).2.2.1 = some (tyJxab1ab k) := by decide +kernel
def RJ9 : String := "java/lang/Math"
def TJ9 : u_T := fun k => match k with
  | _ => ("", "", "", false)
def tyJ9 : Nat → FieldType := fun k => match k with
  | _ => .int
abbrev wsJ90 : List Cond := u_ws RJ9 TJ9 0
theorem nmJ9 : ∀ a, a < 0 → ∀ b, b < 0 → a ≠ b → (TJ9 a).2.1 ≠ (TJ9 b).2.1 := by decide +kernel
theorem tyJ9_ok : ∀ k, k < 0 → parseFieldDescriptor (TJ9 k).2.2.1 = some (tyJ9 k) := by decide +kernel
abbrev cJ9_max_7cf53 : ByteArray := prog_17_method_65_code
def yJ9_max_7cf53 : MethodName := ⟨RJ9, "max", "(II)I"⟩
abbrev cJ9_min_7cf53 : ByteArray := prog_17_method_69_code
def yJ9_min_7cf53 : MethodName := ⟨RJ9, "min", "(II)I"⟩
def RJ0 : String := "java/lang/String"
def TJ0 : u_T := fun k => match k with
  | _ => ("", "", "", false)
def tyJ0 : Nat → FieldType := fun k => match k with
  | _ => .int
abbrev wsJ00 : List Cond := u_ws RJ0 TJ0 0
theorem nmJ0 : ∀ a, a < 0 → ∀ b, b < 0 → a ≠ b → (TJ0 a).2.1 ≠ (TJ0 b).2.1 := by decide +kernel
theorem tyJ0_ok : ∀ k, k < 0 → parseFieldDescriptor (TJ0 k).2.2.1 = some (tyJ0 k) := by decide +kernel
def RJ10 : String := "java/lang/System"
def TJ10 : u_T := fun k => match k with
  | _ => ("", "", "", false)
def tyJ10 : Nat → FieldType := fun k => match k with
  | _ => .int
abbrev wsJ100 : List Cond := u_ws RJ10 TJ10 0
theorem nmJ10 : ∀ a, a < 0 → ∀ b, b < 0 → a ≠ b → (TJ10 a).2.1 ≠ (TJ10 b).2.1 := by decide +kernel
theorem tyJ10_ok : ∀ k, k < 0 → parseFieldDescriptor (TJ10 k).2.2.1 = some (tyJ10 k) := by decide +kernel
def RJxa1e45 : String := "java/util/AbstractCollection"
def TJxa1e45 : u_T := fun k => match k with
  | _ => ("", "", "", false)
def tyJxa1e45 : Nat → FieldType := fun k => match k with
  | _ => .int
abbrev wsJxa1e450 : List Cond := u_ws RJxa1e45 TJxa1e45 0
theorem nmJxa1e45 : ∀ a, a < 0 → ∀ b, b < 0 → a ≠ b → (TJxa1e45 a).2.1 ≠ (TJxa1e45 b).2.1 := by decide +kernel
theorem tyJxa1e45_ok : ∀ k, k < 0 → parseFieldDescriptor (TJxa1e45 k).2.2.1 = some (tyJxa1e45 k) := by decide +kernel
abbrev cJxa1e45_init_da8c8 : ByteArray := prog_22_method_1_code
def yJxa1e45_init_da8c8 : MethodName := ⟨RJxa1e45, "<init>", "()V"⟩
def RJxc12de : String := "java/util/AbstractList"
def TJxc12de : u_T := fun k => match k with
  | _ => ("", "", "", false)
def tyJxc12de : Nat → FieldType := fun k => match k with
  | _ => .int
abbrev wsJxc12de0 : List Cond := u_ws RJxc12de TJxc12de 0
theorem nmJxc12de : ∀ a, a < 0 → ∀ b, b < 0 → a ≠ b → (TJxc12de a).2.1 ≠ (TJxc12de b).2.1 := by decide +kernel
theorem tyJxc12de_ok : ∀ k, k < 0 → parseFieldDescriptor (TJxc12de k).2.2.1 = some (tyJxc12de k) := by decide +kernel
abbrev cJxc12de_init_da8c8 : ByteArray := prog_23_method_1_code
def yJxc12de_init_da8c8 : MethodName := ⟨RJxc12de, "<init>", "()V"⟩
def RJx4a65c : String := "java/util/ArrayList"
def TJx4a65c : u_T := fun k => match k with
  | 0 => ("java/util/AbstractList", "modCount", "I", false)
  | 1 => ("java/util/ArrayList", "elementData", "[Ljava/lang/Object;", false)
  | _ => ("java/util/ArrayList", "size", "I", false)
def tyJx4a65c : Nat → FieldType := fun k => match k with
  | 0 => .int
  | 1 => .array (.object "java/lang/Object")
  | _ => .int
abbrev wsJx4a65c0 : List Cond := u_ws RJx4a65c TJx4a65c 3
theorem nmJx4a65c : ∀ a, a < 3 → ∀ b, b < 3 → a ≠ b → (TJx4a65c a).2.1 ≠ (TJx4a65c b).2.1 := by decide +kernel
theorem tyJx4a65c_ok : ∀ k, k < 3 → parseFieldDescriptor (TJx4a65c k).2.2.1 = some (tyJx4a65c k) := by decide +kernel
abbrev cJx4a65c_init_da8c8 : ByteArray := prog_24_method_2_code
def yJx4a65c_init_da8c8 : MethodName := ⟨RJx4a65c, "<init>", "()V"⟩
abbrev cJx4a65c_grow_92f84 : ByteArray := prog_24_method_6_code
def yJx4a65c_grow_92f84 : MethodName := ⟨RJx4a65c, "grow", "(I)[Ljava/lang/Object;"⟩
abbrev cJx4a65c_grow_d5877 : ByteArray := prog_24_method_7_code
def yJx4a65c_grow_d5877 : MethodName := ⟨RJx4a65c, "grow", "()[Ljava/lang/Object;"⟩
abbrev cJx4a65c_size_8abf5 : ByteArray := prog_24_method_8_code
def yJx4a65c_size_8abf5 : MethodName := ⟨RJx4a65c, "size", "()I"⟩
abbrev cJx4a65c_elementData_915e3 : ByteArray := prog_24_method_18_code
def yJx4a65c_elementData_915e3 : MethodName := ⟨RJx4a65c, "elementData", "(I)Ljava/lang/Object;"⟩
abbrev cJx4a65c_get_915e3 : ByteArray := prog_24_method_20_code
def yJx4a65c_get_915e3 : MethodName := ⟨RJx4a65c, "get", "(I)Ljava/lang/Object;"⟩
abbrev cJx4a65c_add_72be8 : ByteArray := prog_24_method_24_code
def yJx4a65c_add_72be8 : MethodName := ⟨RJx4a65c, "add", "(Ljava/lang/Object;[Ljava/lang/Object;I)V"⟩
abbrev cJx4a65c_add_9ea2d : ByteArray := prog_24_method_25_code
def yJx4a65c_add_9ea2d : MethodName := ⟨RJx4a65c, "add", "(Ljava/lang/Object;)Z"⟩
def RJ7 : String := "java/util/Arrays"
def TJ7 : u_T := fun k => match k with
  | _ => ("", "", "", false)
def tyJ7 : Nat → FieldType := fun k => match k with
  | _ => .int
abbrev wsJ70 : List Cond := u_ws RJ7 TJ7 0
theorem nmJ7 : ∀ a, a < 0 → ∀ b, b < 0 → a ≠ b → (TJ7 a).2.1 ≠ (TJ7 b).2.1 := by decide +kernel
theorem tyJ7_ok : ∀ k, k < 0 → parseFieldDescriptor (TJ7 k).2.2.1 = some (tyJ7 k) := by decide +kernel
abbrev cJ7_copyOf_1904c : ByteArray := prog_25_method_119_code
def yJ7_copyOf_1904c : MethodName := ⟨RJ7, "copyOf", "([Ljava/lang/Object;I)[Ljava/lang/Object;"⟩
abbrev cJ7_copyOf_6403c : ByteArray := prog_25_method_120_code
def yJ7_copyOf_6403c : MethodName := ⟨RJ7, "copyOf", "([Ljava/lang/Object;ILjava/lang/Class;)[Ljava/lang/Object;"⟩
def RJx5ef63 : String := "java/util/Collection"
def TJx5ef63 : u_T := fun k => match k with
  | _ => ("", "", "", false)
def tyJx5ef63 : Nat → FieldType := fun k => match k with
  | _ => .int
abbrev wsJx5ef630 : List Cond := u_ws RJx5ef63 TJx5ef63 0
theorem nmJx5ef63 : ∀ a, a < 0 → ∀ b, b < 0 → a ≠ b → (TJx5ef63 a).2.1 ≠ (TJx5ef63 b).2.1 := by decide +kernel
theorem tyJx5ef63_ok : ∀ k, k < 0 → parseFieldDescriptor (TJx5ef63 k).2.2.1 = some (tyJx5ef63 k) := by decide +kernel
def RJxbd725 : String := "java/util/List"
def TJxbd725 : u_T := fun k => match k with
  | _ => ("", "", "", false)
def tyJxbd725 : Nat → FieldType := fun k => match k with
  | _ => .int
abbrev wsJxbd7250 : List Cond := u_ws RJxbd725 TJxbd725 0
theorem nmJxbd725 : ∀ a, a < 0 → ∀ b, b < 0 → a ≠ b → (TJxbd725 a).2.1 ≠ (TJxbd725 b).2.1 := by decide +kernel
theorem tyJxbd725_ok : ∀ k, k < 0 → parseFieldDescriptor (TJxbd725 k).2.2.1 = some (tyJxbd725 k) := by decide +kernel
def RJ15 : String := "java/util/Objects"
def TJ15 : u_T := fun k => match k with
  | _ => ("", "", "", false)
def tyJ15 : Nat → FieldType := fun k => match k with
  | _ => .int
abbrev wsJ150 : List Cond := u_ws RJ15 TJ15 0
theorem nmJ15 : ∀ a, a < 0 → ∀ b, b < 0 → a ≠ b → (TJ15 a).2.1 ≠ (TJ15 b).2.1 := by decide +kernel
theorem tyJ15_ok : ∀ k, k < 0 → parseFieldDescriptor (TJ15 k).2.2.1 = some (tyJ15 k) := by decide +kernel
abbrev cJ15_checkIndex_7cf53 : ByteArray := prog_28_method_17_code
def yJ15_checkIndex_7cf53 : MethodName := ⟨RJ15, "checkIndex", "(II)I"⟩
def RJxf0a74 : String := "java/util/RandomAccess"
def TJxf0a74 : u_T := fun k => match k with
  | _ => ("", "", "", false)
def tyJxf0a74 : Nat → FieldType := fun k => match k with
  | _ => .int
abbrev wsJxf0a740 : List Cond := u_ws RJxf0a74 TJxf0a74 0
theorem nmJxf0a74 : ∀ a, a < 0 → ∀ b, b < 0 → a ≠ b → (TJxf0a74 a).2.1 ≠ (TJxf0a74 b).2.1 := by decide +kernel
theorem tyJxf0a74_ok : ∀ k, k < 0 → parseFieldDescriptor (TJxf0a74 k).2.2.1 = some (tyJxf0a74 k) := by decide +kernel
def RJxa66e6 : String := "java/util/SequencedCollection"
def TJxa66e6 : u_T := fun k => match k with
  | _ => ("", "", "", false)
def tyJxa66e6 : Nat → FieldType := fun k => match k with
  | _ => .int
abbrev wsJxa66e60 : List Cond := u_ws RJxa66e6 TJxa66e6 0
theorem nmJxa66e6 : ∀ a, a < 0 → ∀ b, b < 0 → a ≠ b → (TJxa66e6 a).2.1 ≠ (TJxa66e6 b).2.1 := by decide +kernel
theorem tyJxa66e6_ok : ∀ k, k < 0 → parseFieldDescriptor (TJxa66e6 k).2.2.1 = some (tyJxa66e6 k) := by decide +kernel
def RJ8 : String := "jdk/internal/util/ArraysSupport"
def TJ8 : u_T := fun k => match k with
  | _ => ("", "", "", false)
def tyJ8 : Nat → FieldType := fun k => match k with
  | _ => .int
abbrev wsJ80 : List Cond := u_ws RJ8 TJ8 0
theorem nmJ8 : ∀ a, a < 0 → ∀ b, b < 0 → a ≠ b → (TJ8 a).2.1 ≠ (TJ8 b).2.1 := by decide +kernel
theorem tyJ8_ok : ∀ k, k < 0 → parseFieldDescriptor (TJ8 k).2.2.1 = some (tyJ8 k) := by decide +kernel
abbrev cJ8_newLength_cabcc : ByteArray := prog_31_method_27_code
def yJ8_newLength_cabcc : MethodName := ⟨RJ8, "newLength", "(III)I"⟩
abbrev cJ8_hugeLength_7cf53 : ByteArray := prog_31_method_28_code
def yJ8_hugeLength_7cf53 : MethodName := ⟨RJ8, "hugeLength", "(II)I"⟩
def RJ3 : String := "jdk/internal/util/Preconditions"
def TJ3 : u_T := fun k => match k with
  | _ => ("", "", "", false)
def tyJ3 : Nat → FieldType := fun k => match k with
  | _ => .int
abbrev wsJ30 : List Cond := u_ws RJ3 TJ3 0
theorem nmJ3 : ∀ a, a < 0 → ∀ b, b < 0 → a ≠ b → (TJ3 a).2.1 ≠ (TJ3 b).2.1 := by decide +kernel
theorem tyJ3_ok : ∀ k, k < 0 → parseFieldDescriptor (TJ3 k).2.2.1 = some (tyJ3 k) := by decide +kernel
abbrev cJ3_checkIndex_8e157 : ByteArray := prog_32_method_11_code
def yJ3_checkIndex_8e157 : MethodName := ⟨RJ3, "checkIndex", "(IILjava/util/function/BiFunction;)I"⟩
def RL : String := "HerbLoftLaw"
abbrev cL_below : ByteArray := method_2_code
def yL_below : MethodName := ⟨RL, "below", "(II)I"⟩
abbrev cL_cell : ByteArray := method_3_code
def yL_cell : MethodName := ⟨RL, "cell", "([II)I"⟩
abbrev cL_act : ByteArray := method_4_code
def yL_act : MethodName := ⟨RL, "act", "(LHerbLoft;LHerbLoftLaw$Sim;I)Z"⟩
abbrev cL_build : ByteArray := method_5_code
def yL_build : MethodName := ⟨RL, "build", "(LHerbLoft;[I)LHerbLoftLaw$Sim;"⟩
abbrev cL_law : ByteArray := code
def yL_law : MethodName := ⟨RL, "law", "([I)Z"⟩
abbrev vwCl : List vw_C := [(RJx4a65c, TJx4a65c, 3), (RX0, TX0, 3), (RX1, TX1, 10), (RX2, TX2, 4), (RX3, TX3, 1), (RX4, TX4, 6), (RX5, TX5, 6)]
