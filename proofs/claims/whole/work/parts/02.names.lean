def am_R0 : String := "WheelRide$Acts"
def am_T0 : u_T := fun k => match k with
  | 0 => ("WheelRide$Acts", "past", "[LWheelRide$Wheel;", true)
  | 1 => ("WheelRide$Acts", "next", "I", false)
  | _ => ("WheelRide$Acts", "kept", "I", false)
def am_y0 : Nat → FieldType := fun k => match k with
  | 0 => .array (.object "WheelRide$Wheel")
  | 1 => .int
  | _ => .int
theorem am_n0 : ∀ a, a < 3 → ∀ b, b < 3 → a ≠ b → (am_T0 a).2.1 ≠ (am_T0 b).2.1 := by decide +kernel
theorem am_k0 : ∀ k, k < 3 → parseFieldDescriptor (am_T0 k).2.2.1 = some (am_y0 k) := by decide +kernel
def am_R1 : String := "WheelRide$Asks"
def am_T1 : u_T := fun k => match k with
  | 0 => ("WheelRide$Asks", "now", "LWheelRide$Wheel;", true)
  | 1 => ("WheelRide$Asks", "bodies", "[I", true)
  | _ => ("WheelRide$Asks", "traced", "I", false)
def am_y1 : Nat → FieldType := fun k => match k with
  | 0 => .object "WheelRide$Wheel"
  | 1 => .array .int
  | _ => .int
theorem am_n1 : ∀ a, a < 3 → ∀ b, b < 3 → a ≠ b → (am_T1 a).2.1 ≠ (am_T1 b).2.1 := by decide +kernel
theorem am_k1 : ∀ k, k < 3 → parseFieldDescriptor (am_T1 k).2.2.1 = some (am_y1 k) := by decide +kernel
def am_R2 : String := "WheelRide$Chances"
def am_T2 : u_T := fun k => match k with
  | 0 => ("WheelRide$Chances", "now", "LWheelRide$Wheel;", true)
  | 1 => ("WheelRide$Chances", "trial", "LWheelRide$Wheel;", true)
  | 2 => ("WheelRide$Chances", "outcomes", "[I", true)
  | 3 => ("WheelRide$Chances", "above", "J", false)
  | _ => ("WheelRide$Chances", "below", "J", false)
def am_y2 : Nat → FieldType := fun k => match k with
  | 0 => .object "WheelRide$Wheel"
  | 1 => .object "WheelRide$Wheel"
  | 2 => .array .int
  | 3 => .long
  | _ => .long
theorem am_n2 : ∀ a, a < 5 → ∀ b, b < 5 → a ≠ b → (am_T2 a).2.1 ≠ (am_T2 b).2.1 := by decide +kernel
theorem am_k2 : ∀ k, k < 5 → parseFieldDescriptor (am_T2 k).2.2.1 = some (am_y2 k) := by decide +kernel
def am_R3 : String := "WheelRide$Foretold"
def am_T3 : u_T := fun k => match k with
  | 0 => ("WheelRide$Foretold", "now", "LWheelRide$Wheel;", true)
  | _ => ("WheelRide$Foretold", "trial", "LWheelRide$Wheel;", true)
def am_y3 : Nat → FieldType := fun k => match k with
  | 0 => .object "WheelRide$Wheel"
  | _ => .object "WheelRide$Wheel"
theorem am_n3 : ∀ a, a < 2 → ∀ b, b < 2 → a ≠ b → (am_T3 a).2.1 ≠ (am_T3 b).2.1 := by decide +kernel
theorem am_k3 : ∀ k, k < 2 → parseFieldDescriptor (am_T3 k).2.2.1 = some (am_y3 k) := by decide +kernel
def am_R4 : String := "WheelRide$Guesser"
def am_T4 : u_T := fun k => match k with
  | 0 => ("WheelRide$Guesser", "now", "LWheelRide$Wheel;", true)
  | _ => ("WheelRide$Guesser", "trial", "LWheelRide$Wheel;", true)
def am_y4 : Nat → FieldType := fun k => match k with
  | 0 => .object "WheelRide$Wheel"
  | _ => .object "WheelRide$Wheel"
theorem am_n4 : ∀ a, a < 2 → ∀ b, b < 2 → a ≠ b → (am_T4 a).2.1 ≠ (am_T4 b).2.1 := by decide +kernel
theorem am_k4 : ∀ k, k < 2 → parseFieldDescriptor (am_T4 k).2.2.1 = some (am_y4 k) := by decide +kernel
def am_R5 : String := "WheelRide$Images"
def am_T5 : u_T := fun k => match k with
  | _ => ("WheelRide$Images", "kept", "[LWheelRide$Wheel;", true)
def am_y5 : Nat → FieldType := fun k => match k with
  | _ => .array (.object "WheelRide$Wheel")
theorem am_n5 : ∀ a, a < 1 → ∀ b, b < 1 → a ≠ b → (am_T5 a).2.1 ≠ (am_T5 b).2.1 := by decide +kernel
theorem am_k5 : ∀ k, k < 1 → parseFieldDescriptor (am_T5 k).2.2.1 = some (am_y5 k) := by decide +kernel
def am_R6 : String := "WheelRide$Planner"
def am_T6 : u_T := fun k => match k with
  | 0 => ("WheelRide$Planner", "now", "LWheelRide$Wheel;", true)
  | 1 => ("WheelRide$Planner", "trial", "LWheelRide$Wheel;", true)
  | 2 => ("WheelRide$Planner", "rank", "[I", true)
  | 3 => ("WheelRide$Planner", "orderedFor", "I", false)
  | 4 => ("WheelRide$Planner", "mostRidden", "I", false)
  | 5 => ("WheelRide$Planner", "bestRank", "[I", true)
  | 6 => ("WheelRide$Planner", "mostOff", "I", false)
  | 7 => ("WheelRide$Planner", "bestLoad", "I", false)
  | _ => ("WheelRide$Planner", "leastStuck", "I", false)
def am_y6 : Nat → FieldType := fun k => match k with
  | 0 => .object "WheelRide$Wheel"
  | 1 => .object "WheelRide$Wheel"
  | 2 => .array .int
  | 3 => .int
  | 4 => .int
  | 5 => .array .int
  | 6 => .int
  | 7 => .int
  | _ => .int
theorem am_n6 : ∀ a, a < 9 → ∀ b, b < 9 → a ≠ b → (am_T6 a).2.1 ≠ (am_T6 b).2.1 := by decide +kernel
theorem am_k6 : ∀ k, k < 9 → parseFieldDescriptor (am_T6 k).2.2.1 = some (am_y6 k) := by decide +kernel
def am_R7 : String := "WheelRide$Rows"
def am_T7 : u_T := fun k => match k with
  | 0 => ("WheelRide$Rows", "items", "[[I", true)
  | 1 => ("WheelRide$Rows", "lanes", "[I", true)
  | _ => ("WheelRide$Rows", "lengths", "[I", true)
def am_y7 : Nat → FieldType := fun k => match k with
  | 0 => .array (.array .int)
  | 1 => .array .int
  | _ => .array .int
theorem am_n7 : ∀ a, a < 3 → ∀ b, b < 3 → a ≠ b → (am_T7 a).2.1 ≠ (am_T7 b).2.1 := by decide +kernel
theorem am_k7 : ∀ k, k < 3 → parseFieldDescriptor (am_T7 k).2.2.1 = some (am_y7 k) := by decide +kernel
def am_R8 : String := "WheelRide$Tape"
def am_T8 : u_T := fun k => match k with
  | 0 => ("WheelRide$Tape", "bytes", "[I", true)
  | 1 => ("WheelRide$Tape", "fault", "I", false)
  | 2 => ("WheelRide$Tape", "length", "I", false)
  | _ => ("WheelRide$Tape", "at", "I", false)
def am_y8 : Nat → FieldType := fun k => match k with
  | 0 => .array .int
  | 1 => .int
  | 2 => .int
  | _ => .int
theorem am_n8 : ∀ a, a < 4 → ∀ b, b < 4 → a ≠ b → (am_T8 a).2.1 ≠ (am_T8 b).2.1 := by decide +kernel
theorem am_k8 : ∀ k, k < 4 → parseFieldDescriptor (am_T8 k).2.2.1 = some (am_y8 k) := by decide +kernel
def am_R9 : String := "WheelRide$Wheel"
def am_T9 : u_T := fun k => match k with
  | 0 => ("WheelRide$Wheel", "gondolas", "I", false)
  | 1 => ("WheelRide$Wheel", "limit", "I", false)
  | 2 => ("WheelRide$Wheel", "bottom", "I", false)
  | 3 => ("WheelRide$Wheel", "step", "I", false)
  | 4 => ("WheelRide$Wheel", "parties", "I", false)
  | 5 => ("WheelRide$Wheel", "ballast", "[I", true)
  | 6 => ("WheelRide$Wheel", "kinds", "[I", true)
  | 7 => ("WheelRide$Wheel", "weights", "[I", true)
  | 8 => ("WheelRide$Wheel", "rounds", "[I", true)
  | 9 => ("WheelRide$Wheel", "how", "[I", true)
  | 10 => ("WheelRide$Wheel", "seats", "[I", true)
  | 11 => ("WheelRide$Wheel", "ridden", "[I", true)
  | _ => ("WheelRide$Wheel", "waited", "[I", true)
def am_y9 : Nat → FieldType := fun k => match k with
  | 0 => .int
  | 1 => .int
  | 2 => .int
  | 3 => .int
  | 4 => .int
  | 5 => .array .int
  | 6 => .array .int
  | 7 => .array .int
  | 8 => .array .int
  | 9 => .array .int
  | 10 => .array .int
  | 11 => .array .int
  | _ => .array .int
theorem am_n9 : ∀ a, a < 13 → ∀ b, b < 13 → a ≠ b → (am_T9 a).2.1 ≠ (am_T9 b).2.1 := by decide +kernel
theorem am_k9 : ∀ k, k < 13 → parseFieldDescriptor (am_T9 k).2.2.1 = some (am_y9 k) := by decide +kernel
def am_R10 : String := "WheelRide"
def am_T10 : u_T := fun k => match k with
  | 0 => ("WheelRide", "rows", "LWheelRide$Rows;", true)
  | 1 => ("WheelRide", "tape", "LWheelRide$Tape;", true)
  | 2 => ("WheelRide", "now", "LWheelRide$Wheel;", true)
  | 3 => ("WheelRide", "trial", "LWheelRide$Wheel;", true)
  | 4 => ("WheelRide", "acts", "LWheelRide$Acts;", true)
  | 5 => ("WheelRide", "images", "LWheelRide$Images;", true)
  | 6 => ("WheelRide", "foretold", "LWheelRide$Foretold;", true)
  | 7 => ("WheelRide", "planner", "LWheelRide$Planner;", true)
  | 8 => ("WheelRide", "guesser", "LWheelRide$Guesser;", true)
  | 9 => ("WheelRide", "chances", "LWheelRide$Chances;", true)
  | 10 => ("WheelRide", "asks", "LWheelRide$Asks;", true)
  | 11 => ("WheelRide", "latestFault", "I", false)
  | _ => ("WheelRide", "finding", "I", false)
def am_y10 : Nat → FieldType := fun k => match k with
  | 0 => .object "WheelRide$Rows"
  | 1 => .object "WheelRide$Tape"
  | 2 => .object "WheelRide$Wheel"
  | 3 => .object "WheelRide$Wheel"
  | 4 => .object "WheelRide$Acts"
  | 5 => .object "WheelRide$Images"
  | 6 => .object "WheelRide$Foretold"
  | 7 => .object "WheelRide$Planner"
  | 8 => .object "WheelRide$Guesser"
  | 9 => .object "WheelRide$Chances"
  | 10 => .object "WheelRide$Asks"
  | 11 => .int
  | _ => .int
theorem am_n10 : ∀ a, a < 13 → ∀ b, b < 13 → a ≠ b → (am_T10 a).2.1 ≠ (am_T10 b).2.1 := by decide +kernel
theorem am_k10 : ∀ k, k < 13 → parseFieldDescriptor (am_T10 k).2.2.1 = some (am_y10 k) := by decide +kernel
def am_R11 : String := "WheelRideModel"
def am_T11 : u_T := fun k => match k with
  | 0 => ("WheelRideModel", "lanes", "[I", true)
  | 1 => ("WheelRideModel", "sizes", "[I", true)
  | 2 => ("WheelRideModel", "items", "[I", true)
  | 3 => ("WheelRideModel", "found", "I", false)
  | 4 => ("WheelRideModel", "tape", "[I", true)
  | 5 => ("WheelRideModel", "tapeMany", "I", false)
  | 6 => ("WheelRideModel", "faultNumber", "I", false)
  | 7 => ("WheelRideModel", "parties", "I", false)
  | 8 => ("WheelRideModel", "gondolas", "I", false)
  | 9 => ("WheelRideModel", "sort", "[I", true)
  | 10 => ("WheelRideModel", "weight", "[I", true)
  | 11 => ("WheelRideModel", "rounds", "[I", true)
  | 12 => ("WheelRideModel", "st", "[I", true)
  | 13 => ("WheelRideModel", "book", "[I", true)
  | 14 => ("WheelRideModel", "acts", "I", false)
  | 15 => ("WheelRideModel", "images", "[I", true)
  | 16 => ("WheelRideModel", "isKept", "[Z", true)
  | 17 => ("WheelRideModel", "rank", "[I", true)
  | 18 => ("WheelRideModel", "now", "[I", true)
  | 19 => ("WheelRideModel", "trail", "[I", true)
  | 20 => ("WheelRideModel", "trailMany", "I", false)
  | 21 => ("WheelRideModel", "place", "I", false)
  | 22 => ("WheelRideModel", "wrongAt", "I", false)
  | 23 => ("WheelRideModel", "wrong", "I", false)
  | 24 => ("WheelRideModel", "readParties", "I", false)
  | 25 => ("WheelRideModel", "readLaw", "[I", true)
  | 26 => ("WheelRideModel", "readSort", "[I", true)
  | 27 => ("WheelRideModel", "readWeight", "[I", true)
  | 28 => ("WheelRideModel", "readRounds", "[I", true)
  | 29 => ("WheelRideModel", "bestRank", "[I", true)
  | _ => ("WheelRideModel", "worth", "[I", true)
def am_y11 : Nat → FieldType := fun k => match k with
  | 0 => .array .int
  | 1 => .array .int
  | 2 => .array .int
  | 3 => .int
  | 4 => .array .int
  | 5 => .int
  | 6 => .int
  | 7 => .int
  | 8 => .int
  | 9 => .array .int
  | 10 => .array .int
  | 11 => .array .int
  | 12 => .array .int
  | 13 => .array .int
  | 14 => .int
  | 15 => .array .int
  | 16 => .array .boolean
  | 17 => .array .int
  | 18 => .array .int
  | 19 => .array .int
  | 20 => .int
  | 21 => .int
  | 22 => .int
  | 23 => .int
  | 24 => .int
  | 25 => .array .int
  | 26 => .array .int
  | 27 => .array .int
  | 28 => .array .int
  | 29 => .array .int
  | _ => .array .int
theorem am_n11 : ∀ a, a < 31 → ∀ b, b < 31 → a ≠ b → (am_T11 a).2.1 ≠ (am_T11 b).2.1 := by decide +kernel
theorem am_k11 : ∀ k, k < 31 → parseFieldDescriptor (am_T11 k).2.2.1 = some (am_y11 k) := by decide +kernel
abbrev am_cl : List vw_C := [(am_R0, am_T0, 3), (am_R1, am_T1, 3), (am_R2, am_T2, 5), (am_R3, am_T3, 2), (am_R4, am_T4, 2), (am_R5, am_T5, 1), (am_R6, am_T6, 9), (am_R7, am_T7, 3), (am_R8, am_T8, 4), (am_R9, am_T9, 13), (am_R10, am_T10, 13), (am_R11, am_T11, 31)]
def am_ty : Nat → Nat → FieldType := fun ci => match ci with
  | 0 => am_y0
  | 1 => am_y1
  | 2 => am_y2
  | 3 => am_y3
  | 4 => am_y4
  | 5 => am_y5
  | 6 => am_y6
  | 7 => am_y7
  | 8 => am_y8
  | 9 => am_y9
  | 10 => am_y10
  | _ => am_y11
theorem am_u0 : (u_ws am_R0 am_T0 3 = [235, 237, 239].filterMap (fun z => lw_tbl[z]?)) ∧ (u_ws am_R0 am_T0 3).all goodWord = true := by decide +kernel
theorem am_v0 : lw_tbl[223]? = some (.instantiable am_R0 3) ∧ lw_tbl[79]? = some (.initialized am_R0) := by decide +kernel
theorem am_u1 : (u_ws am_R1 am_T1 3 = [353, 355, 357].filterMap (fun z => lw_tbl[z]?)) ∧ (u_ws am_R1 am_T1 3).all goodWord = true := by decide +kernel
theorem am_v1 : lw_tbl[343]? = some (.instantiable am_R1 3) ∧ lw_tbl[85]? = some (.initialized am_R1) := by decide +kernel
theorem am_u2 : (u_ws am_R2 am_T2 5 = [331, 333, 335, 337, 339].filterMap (fun z => lw_tbl[z]?)) ∧ (u_ws am_R2 am_T2 5).all goodWord = true := by decide +kernel
theorem am_v2 : lw_tbl[319]? = some (.instantiable am_R2 5) ∧ lw_tbl[84]? = some (.initialized am_R2) := by decide +kernel
theorem am_u3 : (u_ws am_R3 am_T3 2 = [262, 264].filterMap (fun z => lw_tbl[z]?)) ∧ (u_ws am_R3 am_T3 2).all goodWord = true := by decide +kernel
theorem am_v3 : lw_tbl[255]? = some (.instantiable am_R3 2) ∧ lw_tbl[81]? = some (.initialized am_R3) := by decide +kernel
theorem am_u4 : (u_ws am_R4 am_T4 2 = [313, 315].filterMap (fun z => lw_tbl[z]?)) ∧ (u_ws am_R4 am_T4 2).all goodWord = true := by decide +kernel
theorem am_v4 : lw_tbl[306]? = some (.instantiable am_R4 2) ∧ lw_tbl[83]? = some (.initialized am_R4) := by decide +kernel
theorem am_u5 : (u_ws am_R5 am_T5 1 = [251].filterMap (fun z => lw_tbl[z]?)) ∧ (u_ws am_R5 am_T5 1).all goodWord = true := by decide +kernel
theorem am_v5 : lw_tbl[243]? = some (.instantiable am_R5 1) ∧ lw_tbl[80]? = some (.initialized am_R5) := by decide +kernel
theorem am_u6 : (u_ws am_R6 am_T6 9 = [286, 288, 290, 292, 294, 296, 298, 300, 302].filterMap (fun z => lw_tbl[z]?)) ∧ (u_ws am_R6 am_T6 9).all goodWord = true := by decide +kernel
theorem am_v6 : lw_tbl[268]? = some (.instantiable am_R6 9) ∧ lw_tbl[82]? = some (.initialized am_R6) := by decide +kernel
theorem am_u7 : (u_ws am_R7 am_T7 3 = [111, 113, 115].filterMap (fun z => lw_tbl[z]?)) ∧ (u_ws am_R7 am_T7 3).all goodWord = true := by decide +kernel
theorem am_v7 : lw_tbl[100]? = some (.instantiable am_R7 3) ∧ lw_tbl[76]? = some (.initialized am_R7) := by decide +kernel
theorem am_u8 : (u_ws am_R8 am_T8 4 = [131, 133, 135, 137].filterMap (fun z => lw_tbl[z]?)) ∧ (u_ws am_R8 am_T8 4).all goodWord = true := by decide +kernel
theorem am_v8 : lw_tbl[120]? = some (.instantiable am_R8 4) ∧ lw_tbl[77]? = some (.initialized am_R8) := by decide +kernel
theorem am_u9 : (u_ws am_R9 am_T9 13 = [195, 197, 199, 201, 203, 205, 207, 209, 211, 213, 215, 217, 219].filterMap (fun z => lw_tbl[z]?)) ∧ (u_ws am_R9 am_T9 13).all goodWord = true := by decide +kernel
theorem am_v9 : lw_tbl[141]? = some (.instantiable am_R9 13) ∧ lw_tbl[78]? = some (.initialized am_R9) := by decide +kernel
theorem am_u10 : (u_ws am_R10 am_T10 13 = [373, 375, 377, 379, 381, 383, 385, 387, 389, 391, 393, 395, 397].filterMap (fun z => lw_tbl[z]?)) ∧ (u_ws am_R10 am_T10 13).all goodWord = true := by decide +kernel
theorem am_v10 : lw_tbl[92]? = some (.instantiable am_R10 13) ∧ lw_tbl[75]? = some (.initialized am_R10) := by decide +kernel
theorem am_u11 : (u_ws am_R11 am_T11 31 = [1037, 1039, 1041, 1043, 1045, 1047, 1049, 1051, 1053, 1055, 1057, 1059, 1061, 1063, 1065, 1067, 1069, 1071, 1073, 1075, 1077, 1079, 1081, 1083, 1085, 1087, 1089, 1091, 1093, 1095, 1097].filterMap (fun z => lw_tbl[z]?)) ∧ (u_ws am_R11 am_T11 31).all goodWord = true := by decide +kernel
theorem am_v11 : lw_tbl[997]? = some (.instantiable am_R11 31) ∧ lw_tbl[86]? = some (.initialized am_R11) := by decide +kernel
def am_instZ : List Nat := [223, 343, 319, 255, 306, 243, 268, 100, 120, 141, 92, 997]
def am_iniZ : List Nat := [79, 85, 84, 81, 83, 80, 82, 76, 77, 78, 75, 86]
/-- constants -/
def am_kIL : List Int32 := [(-1000100), (-1000010), (-1000003), (-1000002), (-1000001), (-1000000), (999999), (252645135), (858993459), (1431655765)]
def am_kLL : List Int64 := [(-1000002), (-1000001), (4), (10), (16807), (2147483647)]
def am_kI (x : Nat) : Int32 := am_kIL.getD x 0
def am_kL (x : Nat) : Int64 := am_kLL.getD x 0
/-- methods: name, bytes, locals, answer, kind (0 static, 1 instance, 2 <init>), arguments, places of code, static or instance, selects, initialized -/
abbrev am_MT : Type := MethodName × ByteArray × Nat × Option FieldType × Nat × Nat × Nat × Nat × Nat × Nat
def am_m0 : List am_MT := [(⟨"WheelRide", "<init>", "()V"⟩, prog_1_method_1_code, 1, none, 2, 0, 95, 94, 0, 75),
  (⟨"WheelRide$Rows", "<init>", "()V"⟩, prog_9_method_1_code, 1, none, 2, 0, 103, 102, 0, 76),
  (⟨"WheelRide$Tape", "<init>", "()V"⟩, prog_11_method_1_code, 1, none, 2, 0, 123, 122, 0, 77),
  (⟨"WheelRide$Wheel", "<init>", "()V"⟩, prog_12_method_1_code, 1, none, 2, 0, 144, 143, 0, 78),
  (⟨"WheelRide$Acts", "<init>", "()V"⟩, prog_2_method_1_code, 2, none, 2, 0, 226, 225, 0, 79),
  (⟨"WheelRide$Images", "<init>", "()V"⟩, prog_7_method_1_code, 1, none, 2, 0, 246, 245, 0, 80),
  (⟨"WheelRide$Foretold", "<init>", "(LWheelRide$Wheel;LWheelRide$Wheel;)V"⟩, prog_5_method_1_code, 3, none, 2, 2, 258, 257, 0, 81),
  (⟨"WheelRide$Planner", "<init>", "(LWheelRide$Wheel;LWheelRide$Wheel;)V"⟩, prog_8_method_1_code, 3, none, 2, 2, 271, 270, 0, 82),
  (⟨"WheelRide$Guesser", "<init>", "(LWheelRide$Wheel;LWheelRide$Wheel;)V"⟩, prog_6_method_1_code, 3, none, 2, 2, 309, 308, 0, 83),
  (⟨"WheelRide$Chances", "<init>", "(LWheelRide$Wheel;LWheelRide$Wheel;)V"⟩, prog_4_method_1_code, 3, none, 2, 2, 322, 321, 0, 84),
  (⟨"WheelRide$Asks", "<init>", "(LWheelRide$Wheel;)V"⟩, prog_3_method_1_code, 2, none, 2, 1, 346, 345, 0, 85),
  (⟨"WheelRide", "row", "(III)I"⟩, prog_1_method_2_code, 4, (some .int), 1, 3, 403, 401, 402, 75),
  (⟨"WheelRide", "isRow", "(I)Z"⟩, prog_1_method_42_code, 1, (some .boolean), 0, 1, 406, 405, 0, 75),
  (⟨"WheelRide", "found", "(I)I"⟩, prog_1_method_39_code, 2, (some .int), 1, 1, 411, 410, 0, 75),
  (⟨"WheelRide$Rows", "make", "(III)V"⟩, prog_9_method_5_code, 5, none, 1, 3, 416, 414, 415, 76),
  (⟨"WheelRide", "well", "(I)I"⟩, prog_1_method_40_code, 2, (some .int), 1, 1, 420, 419, 1, 75)]
def am_m1 : List am_MT := [(⟨"WheelRide", "set", "(III)I"⟩, prog_1_method_3_code, 4, (some .int), 1, 3, 424, 422, 423, 75),
  (⟨"WheelRide$Rows", "isMissing", "(I)Z"⟩, prog_9_method_2_code, 2, (some .boolean), 1, 1, 428, 426, 427, 76),
  (⟨"WheelRide$Rows", "hasPlaces", "(III)Z"⟩, prog_9_method_4_code, 4, (some .boolean), 1, 3, 432, 430, 431, 76),
  (⟨"WheelRide$Rows", "put", "(III)I"⟩, prog_9_method_6_code, 5, (some .int), 1, 3, 436, 434, 435, 76),
  (⟨"WheelRide$Rows", "narrowed", "(II)I"⟩, prog_9_method_10_code, 2, (some .int), 0, 2, 439, 438, 0, 76),
  (⟨"WheelRide", "copy", "(IIIII)I"⟩, prog_1_method_4_code, 6, (some .int), 1, 5, 443, 441, 442, 75),
  (⟨"WheelRide$Rows", "haveOneLane", "(II)Z"⟩, prog_9_method_3_code, 3, (some .boolean), 1, 2, 447, 445, 446, 76),
  (⟨"WheelRide$Rows", "move", "(IIIII)V"⟩, prog_9_method_7_code, 6, none, 1, 5, 451, 449, 450, 76),
  (⟨"WheelRide", "drop", "(I)I"⟩, prog_1_method_5_code, 2, (some .int), 1, 1, 458, 456, 457, 75),
  (⟨"WheelRide$Rows", "lose", "(I)I"⟩, prog_9_method_8_code, 3, (some .int), 1, 1, 462, 460, 461, 76),
  (⟨"WheelRide", "feed", "(I)I"⟩, prog_1_method_6_code, 2, (some .int), 1, 1, 466, 464, 465, 75),
  (⟨"WheelRide$Tape", "append", "(I)I"⟩, prog_11_method_2_code, 2, (some .int), 1, 1, 471, 469, 470, 77),
  (⟨"WheelRide", "wheel", "()I"⟩, prog_1_method_7_code, 2, (some .int), 1, 0, 475, 473, 474, 75),
  (⟨"WheelRide$Tape", "readInto", "(LWheelRide$Wheel;)I"⟩, prog_11_method_4_code, 3, (some .int), 1, 1, 479, 477, 478, 77),
  (⟨"WheelRide$Tape", "readLaw", "(LWheelRide$Wheel;)V"⟩, prog_11_method_5_code, 4, none, 1, 1, 483, 482, 2, 77),
  (⟨"WheelRide$Tape", "takeSign", "(I)V"⟩, prog_11_method_7_code, 2, none, 1, 1, 487, 486, 3, 77)]
def am_m2 : List am_MT := [(⟨"WheelRide$Tape", "byteAt", "(I)I"⟩, prog_11_method_10_code, 2, (some .int), 1, 1, 491, 490, 4, 77),
  (⟨"WheelRide$Tape", "takeNumber", "(II)I"⟩, prog_11_method_9_code, 5, (some .int), 1, 2, 495, 494, 5, 77),
  (⟨"WheelRide$Tape", "isFigure", "(I)Z"⟩, prog_11_method_11_code, 1, (some .boolean), 0, 1, 498, 497, 0, 77),
  (⟨"WheelRide", "isOutside", "(III)Z"⟩, prog_1_method_43_code, 3, (some .boolean), 0, 3, 501, 500, 0, 75),
  (⟨"WheelRide$Wheel", "begin", "(II)V"⟩, prog_12_method_2_code, 4, none, 1, 2, 505, 503, 504, 78),
  (⟨"WheelRide$Tape", "readParty", "(LWheelRide$Wheel;)V"⟩, prog_11_method_6_code, 5, none, 1, 1, 509, 508, 6, 77),
  (⟨"WheelRide$Tape", "takeSort", "(Z)I"⟩, prog_11_method_8_code, 3, (some .int), 1, 1, 513, 512, 7, 77),
  (⟨"WheelRide$Tape", "kindOf", "(I)I"⟩, prog_11_method_12_code, 1, (some .int), 0, 1, 516, 515, 0, 77),
  (⟨"WheelRide$Wheel", "addParty", "(III)V"⟩, prog_12_method_3_code, 4, none, 1, 3, 520, 518, 519, 78),
  (⟨"WheelRide$Wheel", "comeAgain", "(I)V"⟩, prog_12_method_20_code, 2, none, 1, 1, 524, 522, 523, 78),
  (⟨"WheelRide$Tape", "clear", "()V"⟩, prog_11_method_3_code, 1, none, 1, 0, 528, 526, 527, 77),
  (⟨"WheelRide$Wheel", "takeFrom", "(LWheelRide$Wheel;)V"⟩, prog_12_method_4_code, 2, none, 1, 1, 533, 531, 532, 78),
  (⟨"WheelRide$Acts", "forget", "()V"⟩, prog_2_method_4_code, 1, none, 1, 0, 538, 536, 537, 79),
  (⟨"WheelRide$Planner", "forget", "()V"⟩, prog_8_method_2_code, 1, none, 1, 0, 542, 540, 541, 82),
  (⟨"WheelRide", "fault", "()I"⟩, prog_1_method_8_code, 1, (some .int), 1, 0, 546, 544, 545, 75),
  (⟨"WheelRide", "undo", "()I"⟩, prog_1_method_9_code, 1, (some .int), 1, 0, 550, 548, 549, 75)]
def am_m3 : List am_MT := [(⟨"WheelRide$Acts", "takeBack", "(LWheelRide$Wheel;)V"⟩, prog_2_method_3_code, 2, none, 1, 1, 555, 553, 554, 79),
  (⟨"WheelRide", "steps", "(I)I"⟩, prog_1_method_10_code, 3, (some .int), 1, 1, 560, 558, 559, 75),
  (⟨"WheelRide$Wheel", "stands", "()Z"⟩, prog_12_method_5_code, 1, (some .boolean), 1, 0, 564, 562, 563, 78),
  (⟨"WheelRide", "keepForUndo", "()V"⟩, prog_1_method_41_code, 1, none, 1, 0, 569, 568, 8, 75),
  (⟨"WheelRide$Acts", "keep", "(LWheelRide$Wheel;)V"⟩, prog_2_method_2_code, 2, none, 1, 1, 573, 571, 572, 79),
  (⟨"WheelRide$Wheel", "makeStep", "([I)Z"⟩, prog_12_method_21_code, 2, (some .boolean), 1, 1, 579, 577, 578, 78),
  (⟨"WheelRide$Wheel", "letOff", "()V"⟩, prog_12_method_22_code, 2, none, 1, 0, 583, 582, 9, 78),
  (⟨"WheelRide$Wheel", "partyIn", "(I)I"⟩, prog_12_method_10_code, 3, (some .int), 1, 1, 587, 585, 586, 78),
  (⟨"WheelRide$Wheel", "isDone", "(I)Z"⟩, prog_12_method_23_code, 3, (some .boolean), 1, 1, 592, 591, 10, 78),
  (⟨"WheelRide$Wheel", "whichAre", "(I)I"⟩, prog_12_method_11_code, 4, (some .int), 1, 1, 596, 594, 595, 78),
  (⟨"WheelRide$Wheel", "leanWith", "(I)I"⟩, prog_12_method_17_code, 4, (some .int), 1, 1, 600, 598, 599, 78),
  (⟨"WheelRide$Wheel", "placeFrom", "(II)I"⟩, prog_12_method_15_code, 3, (some .int), 1, 2, 604, 603, 11, 78),
  (⟨"WheelRide$Wheel", "pullOf", "(I)I"⟩, prog_12_method_16_code, 3, (some .int), 1, 1, 608, 606, 607, 78),
  (⟨"java/lang/Math", "abs", "(I)I"⟩, prog_16_method_59_code, 1, (some .int), 0, 1, 611, 610, 0, 88),
  (⟨"WheelRide$Wheel", "letIn", "([I)V"⟩, prog_12_method_24_code, 4, none, 1, 1, 615, 614, 12, 78),
  (⟨"WheelRide$Wheel", "hasParty", "(I)Z"⟩, prog_12_method_6_code, 2, (some .boolean), 1, 1, 619, 617, 618, 78)]
def am_m4 : List am_MT := [(⟨"WheelRide$Wheel", "waitOn", "()V"⟩, prog_12_method_25_code, 2, none, 1, 0, 623, 622, 13, 78),
  (⟨"WheelRide$Wheel", "hasLostPatience", "(I)Z"⟩, prog_12_method_26_code, 2, (some .boolean), 1, 1, 627, 626, 14, 78),
  (⟨"WheelRide$Wheel", "turn", "()Z"⟩, prog_12_method_27_code, 3, (some .boolean), 1, 0, 631, 630, 15, 78),
  (⟨"WheelRide$Wheel", "nextOfBottom", "()I"⟩, prog_12_method_19_code, 1, (some .int), 1, 0, 635, 633, 634, 78),
  (⟨"WheelRide$Wheel", "isInBalanceBy", "(I)Z"⟩, prog_12_method_18_code, 2, (some .boolean), 1, 1, 639, 637, 638, 78),
  (⟨"WheelRide", "turnTo", "(I)I"⟩, prog_1_method_11_code, 3, (some .int), 1, 1, 644, 642, 643, 75),
  (⟨"WheelRide$Wheel", "hasGondola", "(I)Z"⟩, prog_12_method_7_code, 2, (some .boolean), 1, 1, 648, 646, 647, 78),
  (⟨"WheelRide", "ballast", "(II)I"⟩, prog_1_method_12_code, 4, (some .int), 1, 2, 652, 650, 651, 75),
  (⟨"WheelRide", "limit", "(I)I"⟩, prog_1_method_13_code, 3, (some .int), 1, 1, 656, 654, 655, 75),
  (⟨"WheelRide", "again", "(I)I"⟩, prog_1_method_14_code, 2, (some .int), 1, 1, 660, 658, 659, 75),
  (⟨"WheelRide$Wheel", "hasLeft", "(I)Z"⟩, prog_12_method_8_code, 2, (some .boolean), 1, 1, 665, 663, 664, 78),
  (⟨"WheelRide", "party", "(II)I"⟩, prog_1_method_15_code, 3, (some .int), 1, 2, 670, 668, 669, 75),
  (⟨"WheelRide$Wheel", "seatOf", "(I)I"⟩, prog_12_method_9_code, 2, (some .int), 1, 1, 674, 672, 673, 78),
  (⟨"WheelRide", "gondola", "(II)I"⟩, prog_1_method_16_code, 3, (some .int), 1, 2, 678, 676, 677, 75),
  (⟨"WheelRide$Wheel", "placeOf", "(I)I"⟩, prog_12_method_14_code, 2, (some .int), 1, 1, 682, 680, 681, 78),
  (⟨"WheelRide", "stand", "(I)I"⟩, prog_1_method_17_code, 2, (some .int), 1, 1, 688, 686, 687, 75)]
def am_m5 : List am_MT := [(⟨"WheelRide", "ahead", "(III)I"⟩, prog_1_method_18_code, 4, (some .int), 1, 3, 694, 692, 693, 75),
  (⟨"WheelRide$Foretold", "goOn", "(I)V"⟩, prog_5_method_2_code, 3, none, 1, 1, 698, 696, 697, 81),
  (⟨"WheelRide", "leans", "(I)I"⟩, prog_1_method_19_code, 2, (some .int), 1, 1, 705, 703, 704, 75),
  (⟨"WheelRide", "when", "(II)I"⟩, prog_1_method_20_code, 3, (some .int), 1, 2, 709, 707, 708, 75),
  (⟨"WheelRide$Foretold", "whenIs", "(II)I"⟩, prog_5_method_3_code, 4, (some .int), 1, 2, 713, 711, 712, 81),
  (⟨"WheelRide", "first", "(I)I"⟩, prog_1_method_21_code, 2, (some .int), 1, 1, 718, 716, 717, 75),
  (⟨"WheelRide$Foretold", "firstStuck", "()I"⟩, prog_5_method_4_code, 2, (some .int), 1, 0, 722, 720, 721, 81),
  (⟨"WheelRide$Foretold", "whenOver", "()I"⟩, prog_5_method_5_code, 2, (some .int), 1, 0, 726, 724, 725, 81),
  (⟨"WheelRide", "order", "(II)I"⟩, prog_1_method_22_code, 3, (some .int), 1, 2, 731, 729, 730, 75),
  (⟨"WheelRide$Planner", "findOrder", "(I)V"⟩, prog_8_method_3_code, 4, none, 1, 1, 735, 733, 734, 82),
  (⟨"WheelRide$Planner", "isFirstOfItsLike", "()Z"⟩, prog_8_method_4_code, 4, (some .boolean), 1, 0, 741, 740, 16, 82),
  (⟨"WheelRide$Planner", "tryRank", "(I)V"⟩, prog_8_method_5_code, 4, none, 1, 1, 745, 744, 17, 82),
  (⟨"java/lang/Integer", "bitCount", "(I)I"⟩, prog_15_method_49_code, 1, (some .int), 0, 1, 751, 750, 0, 89),
  (⟨"WheelRide$Wheel", "riddenOfAll", "()I"⟩, prog_12_method_12_code, 3, (some .int), 1, 0, 758, 756, 757, 78),
  (⟨"WheelRide$Planner", "nextRank", "()Z"⟩, prog_8_method_6_code, 6, (some .boolean), 1, 0, 762, 761, 18, 82),
  (⟨"WheelRide$Planner", "swap", "(II)V"⟩, prog_8_method_7_code, 4, none, 1, 2, 766, 765, 19, 82)]
def am_m6 : List am_MT := [(⟨"WheelRide", "load", "(II)I"⟩, prog_1_method_23_code, 3, (some .int), 1, 2, 771, 769, 770, 75),
  (⟨"WheelRide$Planner", "findLoad", "(I)V"⟩, prog_8_method_8_code, 5, none, 1, 1, 775, 773, 774, 82),
  (⟨"WheelRide$Wheel", "sticksIn", "(II)I"⟩, prog_12_method_28_code, 5, (some .int), 1, 2, 780, 778, 779, 78),
  (⟨"WheelRide", "bear", "(I)I"⟩, prog_1_method_24_code, 2, (some .int), 1, 1, 786, 784, 785, 75),
  (⟨"WheelRide$Planner", "leastLimit", "(I)I"⟩, prog_8_method_9_code, 3, (some .int), 1, 1, 790, 788, 789, 82),
  (⟨"WheelRide", "sets", "(II)I"⟩, prog_1_method_25_code, 3, (some .int), 1, 2, 794, 792, 793, 75),
  (⟨"WheelRide$Sums", "ofSets", "(LWheelRide$Wheel;II)I"⟩, prog_10_method_2_code, 7, (some .int), 0, 3, 797, 796, 0, 90),
  (⟨"WheelRide$Sums", "weighs", "(LWheelRide$Wheel;II)Z"⟩, prog_10_method_3_code, 5, (some .boolean), 0, 3, 800, 799, 0, 90),
  (⟨"WheelRide", "share", "(II)I"⟩, prog_1_method_26_code, 3, (some .int), 1, 2, 805, 803, 804, 75),
  (⟨"WheelRide$Sums", "shareOf", "(LWheelRide$Wheel;II)I"⟩, prog_10_method_4_code, 8, (some .int), 0, 3, 808, 807, 0, 90),
  (⟨"WheelRide$Sums", "riddenIfOff", "(LWheelRide$Wheel;I)I"⟩, prog_10_method_5_code, 2, (some .int), 0, 2, 811, 810, 0, 90),
  (⟨"WheelRide", "byTurns", "(II)I"⟩, prog_1_method_27_code, 3, (some .int), 1, 2, 815, 813, 814, 75),
  (⟨"WheelRide$Chances", "outcome", "(II)I"⟩, prog_4_method_2_code, 7, (some .int), 1, 2, 819, 817, 818, 84),
  (⟨"WheelRide$Chances", "riddenBy", "(III)I"⟩, prog_4_method_3_code, 5, (some .int), 1, 3, 823, 822, 20, 84),
  (⟨"WheelRide$Chances", "move", "(I)V"⟩, prog_4_method_4_code, 3, none, 1, 1, 828, 827, 21, 84),
  (⟨"WheelRide$Chances", "isOfTheOne", "(I)Z"⟩, prog_4_method_5_code, 1, (some .boolean), 0, 1, 831, 830, 0, 84)]
def am_m7 : List am_MT := [(⟨"java/lang/Math", "min", "(II)I"⟩, prog_16_method_69_code, 2, (some .int), 0, 2, 834, 833, 0, 88),
  (⟨"java/lang/Math", "max", "(II)I"⟩, prog_16_method_65_code, 2, (some .int), 0, 2, 841, 840, 0, 88),
  (⟨"WheelRide", "who", "(IIIII)I"⟩, prog_1_method_28_code, 6, (some .int), 1, 5, 845, 843, 844, 75),
  (⟨"WheelRide$Guesser", "guess", "(II[III)I"⟩, prog_6_method_2_code, 10, (some .int), 1, 5, 849, 847, 848, 83),
  (⟨"WheelRide$Guesser", "mostOf", "(I)I"⟩, prog_6_method_3_code, 1, (some .int), 0, 1, 853, 852, 0, 83),
  (⟨"WheelRide$Guesser", "suppose", "(III)V"⟩, prog_6_method_4_code, 4, none, 1, 3, 858, 857, 22, 83),
  (⟨"WheelRide$Guesser", "leansAs", "([III)Z"⟩, prog_6_method_5_code, 5, (some .boolean), 1, 3, 862, 861, 23, 83),
  (⟨"WheelRide", "away", "(III)J"⟩, prog_1_method_29_code, 4, (some .long), 1, 3, 869, 867, 868, 75),
  (⟨"WheelRide$Chances", "findAway", "(II)V"⟩, prog_4_method_6_code, 11, none, 1, 2, 875, 873, 874, 84),
  (⟨"WheelRide$Chances", "casesOf", "(III)J"⟩, prog_4_method_7_code, 6, (some .long), 0, 3, 881, 880, 0, 84),
  (⟨"WheelRide$Chances", "tryWithout", "(I)V"⟩, prog_4_method_8_code, 3, none, 1, 1, 885, 884, 24, 84),
  (⟨"WheelRide$Chances", "commonDivisor", "(JJ)J"⟩, prog_4_method_9_code, 11, (some .long), 0, 2, 889, 888, 0, 84),
  (⟨"WheelRide", "drawn", "(III)I"⟩, prog_1_method_30_code, 5, (some .int), 1, 3, 893, 891, 892, 75),
  (⟨"WheelRide$Chances", "liveDays", "(II)I"⟩, prog_4_method_10_code, 7, (some .int), 1, 2, 898, 896, 897, 84),
  (⟨"WheelRide$Chances", "happen", "(J)V"⟩, prog_4_method_11_code, 4, none, 1, 1, 904, 903, 25, 84),
  (⟨"WheelRide", "image", "(I)I"⟩, prog_1_method_31_code, 2, (some .int), 1, 1, 912, 910, 911, 75)]
def am_m8 : List am_MT := [(⟨"WheelRide$Images", "keep", "(ILWheelRide$Wheel;)V"⟩, prog_7_method_3_code, 3, none, 1, 2, 916, 914, 915, 80),
  (⟨"WheelRide", "restore", "(I)I"⟩, prog_1_method_32_code, 2, (some .int), 1, 1, 921, 919, 920, 75),
  (⟨"WheelRide$Images", "has", "(I)Z"⟩, prog_7_method_2_code, 2, (some .boolean), 1, 1, 925, 923, 924, 80),
  (⟨"WheelRide$Images", "giveBack", "(ILWheelRide$Wheel;)V"⟩, prog_7_method_4_code, 3, none, 1, 2, 930, 928, 929, 80),
  (⟨"WheelRide", "kind", "(I)I"⟩, prog_1_method_33_code, 2, (some .int), 1, 1, 934, 932, 933, 75),
  (⟨"WheelRide", "as", "(II)I"⟩, prog_1_method_34_code, 3, (some .int), 1, 2, 938, 936, 937, 75),
  (⟨"WheelRide$Asks", "isSuch", "(II)Z"⟩, prog_3_method_2_code, 4, (some .boolean), 0, 2, 941, 940, 0, 85),
  (⟨"WheelRide$Asks", "isKind", "(I)Z"⟩, prog_3_method_3_code, 1, (some .boolean), 0, 1, 944, 943, 0, 85),
  (⟨"WheelRide", "ask", "(II)I"⟩, prog_1_method_35_code, 3, (some .int), 1, 2, 950, 948, 949, 75),
  (⟨"WheelRide$Asks", "answer", "(III)I"⟩, prog_3_method_5_code, 4, (some .int), 1, 3, 958, 957, 26, 85),
  (⟨"WheelRide$Asks", "bodyFor", "(I[I)I"⟩, prog_3_method_6_code, 4, (some .int), 0, 2, 965, 964, 0, 85),
  (⟨"WheelRide$Asks", "tell", "(III)I"⟩, prog_3_method_7_code, 5, (some .int), 1, 3, 970, 969, 27, 85),
  (⟨"WheelRide$Asks", "leaveTrace", "(I)V"⟩, prog_3_method_8_code, 2, none, 1, 1, 974, 973, 28, 85),
  (⟨"WheelRide", "trace", "(I)I"⟩, prog_1_method_36_code, 2, (some .int), 1, 1, 978, 976, 977, 75),
  (⟨"WheelRide", "count", "(I)I"⟩, prog_1_method_37_code, 2, (some .int), 1, 1, 982, 980, 981, 75),
  (⟨"WheelRide$Rows", "howMany", "()I"⟩, prog_9_method_9_code, 3, (some .int), 1, 0, 986, 984, 985, 76)]
def am_m9 : List am_MT := [(⟨"WheelRide$Wheel", "ballastOfAll", "()I"⟩, prog_12_method_13_code, 3, (some .int), 1, 0, 991, 989, 990, 78),
  (⟨"WheelRide", "status", "()I"⟩, prog_1_method_38_code, 1, (some .int), 1, 0, 995, 993, 994, 75),
  (⟨"WheelRideModel", "<init>", "()V"⟩, prog_14_method_1_code, 2, none, 2, 0, 1000, 999, 0, 86),
  (⟨"WheelRideModel", "byNumbers", "()V"⟩, prog_14_method_35_code, 2, none, 1, 0, 1005, 1004, 29, 86),
  (⟨"WheelRideModel", "row", "(III)I"⟩, prog_14_method_12_code, 5, (some .int), 1, 3, 1104, 1102, 1103, 86),
  (⟨"WheelRideModel", "isRow", "(I)Z"⟩, prog_14_method_7_code, 2, (some .boolean), 1, 1, 1108, 1107, 30, 86),
  (⟨"WheelRideModel", "in", "(III)Z"⟩, prog_14_method_3_code, 3, (some .boolean), 0, 3, 1111, 1110, 0, 86),
  (⟨"WheelRideModel", "finds", "(I)I"⟩, prog_14_method_6_code, 2, (some .int), 1, 1, 1116, 1115, 31, 86),
  (⟨"WheelRideModel", "set", "(III)I"⟩, prog_14_method_13_code, 4, (some .int), 1, 3, 1121, 1119, 1120, 86),
  (⟨"WheelRideModel", "cut", "(II)I"⟩, prog_14_method_11_code, 2, (some .int), 0, 2, 1124, 1123, 0, 86),
  (⟨"WheelRideModel", "copy", "(IIIII)I"⟩, prog_14_method_15_code, 9, (some .int), 1, 5, 1128, 1126, 1127, 86),
  (⟨"WheelRideModel", "isPart", "(III)Z"⟩, prog_14_method_14_code, 3, (some .boolean), 0, 3, 1131, 1130, 0, 86),
  (⟨"WheelRideModel", "drop", "(I)I"⟩, prog_14_method_16_code, 3, (some .int), 1, 1, 1135, 1133, 1134, 86),
  (⟨"WheelRideModel", "feed", "(I)I"⟩, prog_14_method_17_code, 2, (some .int), 1, 1, 1139, 1137, 1138, 86),
  (⟨"WheelRideModel", "wheel", "()I"⟩, prog_14_method_26_code, 2, (some .int), 1, 0, 1144, 1142, 1143, 86),
  (⟨"WheelRideModel", "readWheel", "()V"⟩, prog_14_method_25_code, 1, none, 1, 0, 1148, 1147, 32, 86)]
def am_m10 : List am_MT := [(⟨"WheelRideModel", "sign", "(I)V"⟩, prog_14_method_20_code, 2, none, 1, 1, 1152, 1151, 33, 86),
  (⟨"WheelRideModel", "here", "()I"⟩, prog_14_method_18_code, 1, (some .int), 1, 0, 1156, 1155, 34, 86),
  (⟨"WheelRideModel", "fails", "(I)V"⟩, prog_14_method_19_code, 2, none, 1, 1, 1160, 1159, 35, 86),
  (⟨"WheelRideModel", "number", "(II)I"⟩, prog_14_method_22_code, 5, (some .int), 1, 2, 1164, 1163, 36, 86),
  (⟨"WheelRideModel", "figures", "()I"⟩, prog_14_method_21_code, 2, (some .int), 1, 0, 1168, 1167, 37, 86),
  (⟨"WheelRideModel", "readParty", "()V"⟩, prog_14_method_24_code, 2, none, 1, 0, 1172, 1171, 38, 86),
  (⟨"WheelRideModel", "sortBy", "(I)I"⟩, prog_14_method_23_code, 1, (some .int), 0, 1, 1175, 1174, 0, 86),
  (⟨"WheelRideModel", "bring", "([II[III)V"⟩, prog_14_method_4_code, 6, none, 0, 5, 1179, 1178, 0, 86),
  (⟨"WheelRideModel", "fault", "()I"⟩, prog_14_method_27_code, 1, (some .int), 1, 0, 1184, 1182, 1183, 86),
  (⟨"WheelRideModel", "undo", "()I"⟩, prog_14_method_40_code, 1, (some .int), 1, 0, 1188, 1186, 1187, 86),
  (⟨"WheelRideModel", "steps", "(I)I"⟩, prog_14_method_41_code, 3, (some .int), 1, 1, 1193, 1191, 1192, 86),
  (⟨"WheelRideModel", "isNone", "()Z"⟩, prog_14_method_10_code, 1, (some .boolean), 1, 0, 1197, 1196, 39, 86),
  (⟨"WheelRideModel", "notes", "()V"⟩, prog_14_method_39_code, 1, none, 1, 0, 1201, 1200, 40, 86),
  (⟨"WheelRideModel", "stepOn", "([I)I"⟩, prog_14_method_38_code, 6, (some .int), 1, 1, 1205, 1204, 41, 86),
  (⟨"WheelRideModel", "partyIn", "([II)I"⟩, prog_14_method_32_code, 5, (some .int), 1, 2, 1209, 1208, 42, 86),
  (⟨"WheelRideModel", "isDone", "([II)Z"⟩, prog_14_method_34_code, 4, (some .boolean), 1, 2, 1213, 1212, 43, 86)]
def am_m11 : List am_MT := [(⟨"WheelRideModel", "those", "([II)I"⟩, prog_14_method_33_code, 5, (some .int), 1, 2, 1217, 1216, 44, 86),
  (⟨"WheelRideModel", "leanBy", "([II)I"⟩, prog_14_method_30_code, 5, (some .int), 1, 2, 1221, 1220, 45, 86),
  (⟨"WheelRideModel", "placeOf", "(II)I"⟩, prog_14_method_29_code, 3, (some .int), 1, 2, 1225, 1224, 46, 86),
  (⟨"WheelRideModel", "pull", "(I)I"⟩, prog_14_method_28_code, 3, (some .int), 1, 1, 1229, 1228, 47, 86),
  (⟨"WheelRideModel", "off", "(I)I"⟩, prog_14_method_5_code, 1, (some .int), 0, 1, 1232, 1231, 0, 86),
  (⟨"WheelRideModel", "nextWaiting", "([I)I"⟩, prog_14_method_36_code, 3, (some .int), 1, 1, 1236, 1235, 48, 86),
  (⟨"WheelRideModel", "loses", "([I)V"⟩, prog_14_method_37_code, 4, none, 1, 1, 1240, 1239, 49, 86),
  (⟨"WheelRideModel", "isBalance", "([II)Z"⟩, prog_14_method_31_code, 3, (some .boolean), 1, 2, 1244, 1243, 50, 86),
  (⟨"WheelRideModel", "turnTo", "(I)I"⟩, prog_14_method_42_code, 3, (some .int), 1, 1, 1248, 1246, 1247, 86),
  (⟨"WheelRideModel", "isGondola", "(I)Z"⟩, prog_14_method_9_code, 2, (some .boolean), 1, 1, 1252, 1251, 51, 86),
  (⟨"WheelRideModel", "ballast", "(II)I"⟩, prog_14_method_43_code, 4, (some .int), 1, 2, 1256, 1254, 1255, 86),
  (⟨"WheelRideModel", "limit", "(I)I"⟩, prog_14_method_44_code, 3, (some .int), 1, 1, 1260, 1258, 1259, 86),
  (⟨"WheelRideModel", "again", "(I)I"⟩, prog_14_method_46_code, 2, (some .int), 1, 1, 1264, 1262, 1263, 86),
  (⟨"WheelRideModel", "isParty", "(I)Z"⟩, prog_14_method_8_code, 2, (some .boolean), 1, 1, 1268, 1267, 52, 86),
  (⟨"WheelRideModel", "comes", "([II)V"⟩, prog_14_method_45_code, 2, none, 0, 2, 1271, 1270, 0, 86),
  (⟨"WheelRideModel", "party", "(II)I"⟩, prog_14_method_47_code, 3, (some .int), 1, 2, 1275, 1273, 1274, 86)]
def am_m12 : List am_MT := [(⟨"WheelRideModel", "gondola", "(II)I"⟩, prog_14_method_48_code, 5, (some .int), 1, 2, 1279, 1277, 1278, 86),
  (⟨"WheelRideModel", "stand", "(I)I"⟩, prog_14_method_49_code, 3, (some .int), 1, 1, 1283, 1281, 1282, 86),
  (⟨"WheelRideModel", "ahead", "(III)I"⟩, prog_14_method_54_code, 4, (some .int), 1, 3, 1287, 1285, 1286, 86),
  (⟨"WheelRideModel", "asItIs", "()V"⟩, prog_14_method_50_code, 1, none, 1, 0, 1291, 1290, 53, 86),
  (⟨"WheelRideModel", "goes", "(I)I"⟩, prog_14_method_51_code, 4, (some .int), 1, 1, 1295, 1294, 54, 86),
  (⟨"WheelRideModel", "leans", "(I)I"⟩, prog_14_method_55_code, 2, (some .int), 1, 1, 1299, 1297, 1298, 86),
  (⟨"WheelRideModel", "when", "(II)I"⟩, prog_14_method_56_code, 4, (some .int), 1, 2, 1303, 1301, 1302, 86),
  (⟨"WheelRideModel", "first", "(I)I"⟩, prog_14_method_57_code, 3, (some .int), 1, 1, 1307, 1305, 1306, 86),
  (⟨"WheelRideModel", "order", "(II)I"⟩, prog_14_method_59_code, 8, (some .int), 1, 2, 1311, 1309, 1310, 86),
  (⟨"WheelRideModel", "bits", "(I)I"⟩, prog_14_method_53_code, 3, (some .int), 0, 1, 1314, 1313, 0, 86),
  (⟨"WheelRideModel", "riddenOf", "([I)I"⟩, prog_14_method_52_code, 4, (some .int), 1, 1, 1318, 1317, 55, 86),
  (⟨"WheelRideModel", "nextOrder", "()Z"⟩, prog_14_method_58_code, 6, (some .boolean), 1, 0, 1322, 1321, 56, 86),
  (⟨"WheelRideModel", "load", "(II)I"⟩, prog_14_method_60_code, 9, (some .int), 1, 2, 1326, 1324, 1325, 86),
  (⟨"WheelRideModel", "bear", "(I)I"⟩, prog_14_method_61_code, 3, (some .int), 1, 1, 1330, 1328, 1329, 86),
  (⟨"WheelRideModel", "sets", "(II)I"⟩, prog_14_method_63_code, 8, (some .int), 1, 2, 1334, 1332, 1333, 86),
  (⟨"WheelRideModel", "weightOf", "(I)I"⟩, prog_14_method_62_code, 4, (some .int), 1, 1, 1338, 1337, 57, 86)]
def am_m13 : List am_MT := [(⟨"WheelRideModel", "share", "(II)I"⟩, prog_14_method_65_code, 7, (some .int), 1, 2, 1342, 1340, 1341, 86),
  (⟨"WheelRideModel", "sharesOf", "(III)I"⟩, prog_14_method_64_code, 4, (some .int), 1, 3, 1346, 1345, 58, 86),
  (⟨"WheelRideModel", "byTurns", "(II)I"⟩, prog_14_method_67_code, 7, (some .int), 1, 2, 1350, 1348, 1349, 86),
  (⟨"WheelRideModel", "worthOf", "(III)I"⟩, prog_14_method_66_code, 7, (some .int), 1, 3, 1354, 1353, 59, 86),
  (⟨"WheelRideModel", "who", "(IIIII)I"⟩, prog_14_method_71_code, 7, (some .int), 1, 5, 1358, 1356, 1357, 86),
  (⟨"WheelRideModel", "byRow", "([IIIII)I"⟩, prog_14_method_69_code, 9, (some .int), 1, 5, 1362, 1361, 60, 86),
  (⟨"WheelRideModel", "isSo", "(III)Z"⟩, prog_14_method_68_code, 6, (some .boolean), 1, 3, 1366, 1365, 61, 86),
  (⟨"WheelRideModel", "limitsBy", "(IIII)I"⟩, prog_14_method_70_code, 8, (some .int), 1, 4, 1370, 1369, 62, 86),
  (⟨"WheelRideModel", "away", "(III)J"⟩, prog_14_method_73_code, 14, (some .long), 1, 3, 1374, 1372, 1373, 86),
  (⟨"WheelRideModel", "common", "(JJ)J"⟩, prog_14_method_72_code, 10, (some .long), 0, 2, 1379, 1378, 0, 86),
  (⟨"WheelRideModel", "drawn", "(III)I"⟩, prog_14_method_74_code, 9, (some .int), 1, 3, 1383, 1381, 1382, 86),
  (⟨"WheelRideModel", "image", "(I)I"⟩, prog_14_method_75_code, 3, (some .int), 1, 1, 1392, 1390, 1391, 86),
  (⟨"WheelRideModel", "restore", "(I)I"⟩, prog_14_method_76_code, 3, (some .int), 1, 1, 1396, 1394, 1395, 86),
  (⟨"WheelRideModel", "kind", "(I)I"⟩, prog_14_method_77_code, 2, (some .int), 1, 1, 1400, 1398, 1399, 86),
  (⟨"WheelRideModel", "as", "(II)I"⟩, prog_14_method_79_code, 3, (some .int), 1, 2, 1404, 1402, 1403, 86),
  (⟨"WheelRideModel", "isA", "(II)Z"⟩, prog_14_method_78_code, 4, (some .boolean), 1, 2, 1408, 1407, 63, 86)]
def am_m14 : List am_MT := [(⟨"WheelRideModel", "ask", "(II)I"⟩, prog_14_method_88_code, 3, (some .int), 1, 2, 1412, 1410, 1411, 86),
  (⟨"WheelRideModel", "familySize", "(I)I"⟩, prog_14_method_85_code, 3, (some .int), 1, 1, 1416, 1415, 64, 86),
  (⟨"WheelRideModel", "leaves", "(I)V"⟩, prog_14_method_80_code, 2, none, 1, 1, 1420, 1419, 65, 86),
  (⟨"WheelRideModel", "ten", "(I)I"⟩, prog_14_method_81_code, 2, (some .int), 1, 1, 1424, 1423, 66, 86),
  (⟨"WheelRideModel", "familyMark", "(I)I"⟩, prog_14_method_84_code, 2, (some .int), 1, 1, 1428, 1427, 67, 86),
  (⟨"WheelRideModel", "twentyOne", "(I)I"⟩, prog_14_method_83_code, 2, (some .int), 1, 1, 1432, 1431, 68, 86),
  (⟨"WheelRideModel", "twenty", "(I)I"⟩, prog_14_method_82_code, 2, (some .int), 1, 1, 1436, 1435, 69, 86),
  (⟨"WheelRideModel", "solitarySize", "(I)I"⟩, prog_14_method_86_code, 3, (some .int), 1, 1, 1440, 1439, 70, 86),
  (⟨"WheelRideModel", "solitaryMark", "(I)I"⟩, prog_14_method_87_code, 3, (some .int), 1, 1, 1444, 1443, 71, 86),
  (⟨"WheelRideModel", "trace", "(I)I"⟩, prog_14_method_89_code, 2, (some .int), 1, 1, 1448, 1446, 1447, 86),
  (⟨"WheelRideModel", "count", "(I)I"⟩, prog_14_method_92_code, 2, (some .int), 1, 1, 1452, 1450, 1451, 86),
  (⟨"WheelRideModel", "rowsThere", "()I"⟩, prog_14_method_90_code, 3, (some .int), 1, 0, 1456, 1455, 72, 86),
  (⟨"WheelRideModel", "ballastOfAll", "()I"⟩, prog_14_method_91_code, 3, (some .int), 1, 0, 1460, 1459, 73, 86),
  (⟨"WheelRideModel", "status", "()I"⟩, prog_14_method_93_code, 1, (some .int), 1, 0, 1464, 1462, 1463, 86),
  (⟨"WheelRide$Asks", "begin", "(II)I"⟩, prog_3_method_4_code, 3, (some .int), 1, 2, 954, 952, 953, 85),
  (⟨"WheelRideLaw", "law", "([I)Z"⟩, code, 4, (some .boolean), 0, 1, 0, 0, 0, 0)]
def am_mL : List (List am_MT) := [am_m0, am_m1, am_m2, am_m3, am_m4, am_m5, am_m6, am_m7, am_m8, am_m9, am_m10, am_m11, am_m12, am_m13, am_m14]
def am_m0d : am_MT := (⟨"", "", ""⟩, ⟨#[]⟩, 0, none, 9, 0, 0, 0, 0, 0)
def am_M (y : Nat) : am_MT := (am_mL.getD (y / 16) []).getD (y % 16) am_m0d
abbrev am_E : Type := Instr × Nat × Nat
/-- WheelRide.<init>()V -/
def am_c0 : List (List (Option am_E)) := [[some (.aload_n 0, 0, 0), some (.invokespecial 1, 1010, 96), none, none, some (.aload_n 0, 0, 0), some (.new 7, 7, 99), none, none, some (.dup, 0, 0), some (.invokespecial 9, 1, 101), none, none, some (.putfield 10, 1000, 360), none, none, some (.aload_n 0, 0, 0)],
  [some (.new 16, 8, 119), none, none, some (.dup, 0, 0), some (.invokespecial 18, 2, 121), none, none, some (.putfield 19, 1001, 361), none, none, some (.aload_n 0, 0, 0), some (.new 23, 9, 140), none, none, some (.dup, 0, 0), some (.invokespecial 25, 3, 142)],
  [none, none, some (.putfield 26, 1002, 362), none, none, some (.aload_n 0, 0, 0), some (.new 23, 9, 140), none, none, some (.dup, 0, 0), some (.invokespecial 25, 3, 142), none, none, some (.putfield 30, 1003, 363), none, none],
  [some (.aload_n 0, 0, 0), some (.new 33, 0, 222), none, none, some (.dup, 0, 0), some (.invokespecial 35, 4, 224), none, none, some (.putfield 36, 1004, 364), none, none, some (.aload_n 0, 0, 0), some (.new 40, 5, 242), none, none, some (.dup, 0, 0)],
  [some (.invokespecial 42, 5, 244), none, none, some (.putfield 43, 1005, 365), none, none, some (.aload_n 0, 0, 0), some (.new 47, 3, 254), none, none, some (.dup, 0, 0), some (.aload_n 0, 0, 0), some (.getfield 26, 1002, 362), none, none, some (.aload_n 0, 0, 0)],
  [some (.getfield 30, 1003, 363), none, none, some (.invokespecial 49, 6, 256), none, none, some (.putfield 52, 1006, 366), none, none, some (.aload_n 0, 0, 0), some (.new 56, 6, 267), none, none, some (.dup, 0, 0), some (.aload_n 0, 0, 0), some (.getfield 26, 1002, 362)],
  [none, none, some (.aload_n 0, 0, 0), some (.getfield 30, 1003, 363), none, none, some (.invokespecial 58, 7, 269), none, none, some (.putfield 59, 1007, 367), none, none, some (.aload_n 0, 0, 0), some (.new 63, 4, 305), none, none],
  [some (.dup, 0, 0), some (.aload_n 0, 0, 0), some (.getfield 26, 1002, 362), none, none, some (.aload_n 0, 0, 0), some (.getfield 30, 1003, 363), none, none, some (.invokespecial 65, 8, 307), none, none, some (.putfield 66, 1008, 368), none, none, some (.aload_n 0, 0, 0)],
  [some (.new 70, 2, 318), none, none, some (.dup, 0, 0), some (.aload_n 0, 0, 0), some (.getfield 26, 1002, 362), none, none, some (.aload_n 0, 0, 0), some (.getfield 30, 1003, 363), none, none, some (.invokespecial 72, 9, 320), none, none, some (.putfield 73, 1009, 369)],
  [none, none, some (.aload_n 0, 0, 0), some (.new 77, 1, 342), none, none, some (.dup, 0, 0), some (.aload_n 0, 0, 0), some (.getfield 26, 1002, 362), none, none, some (.invokespecial 79, 10, 344), none, none, some (.putfield 82, 1010, 370), none],
  [none, some (.return_, 0, 0)]]
/-- WheelRide$Rows.<init>()V -/
def am_c1 : List (List (Option am_E)) := [[some (.aload_n 0, 0, 0), some (.invokespecial 3, 1010, 104), none, none, some (.aload_n 0, 0, 0), some (.bipush 8, 0, 0), none, some (.bipush 40, 0, 0), none, some (.multianewarray 9 2, 0, 105), none, none, none, some (.putfield 11, 700, 107), none, none],
  [some (.aload_n 0, 0, 0), some (.bipush 8, 0, 0), none, some (.newarray .int, 0, 0), none, some (.putfield 16, 701, 109), none, none, some (.aload_n 0, 0, 0), some (.bipush 8, 0, 0), none, some (.newarray .int, 0, 0), none, some (.dup, 0, 0), some (.iconst 0, 0, 0), some (.iconst (-1), 0, 0)],
  [some (.iastore, 0, 0), some (.dup, 0, 0), some (.iconst 1, 0, 0), some (.iconst (-1), 0, 0), some (.iastore, 0, 0), some (.dup, 0, 0), some (.iconst 2, 0, 0), some (.iconst (-1), 0, 0), some (.iastore, 0, 0), some (.dup, 0, 0), some (.iconst 3, 0, 0), some (.iconst (-1), 0, 0), some (.iastore, 0, 0), some (.dup, 0, 0), some (.iconst 4, 0, 0), some (.iconst (-1), 0, 0)],
  [some (.iastore, 0, 0), some (.dup, 0, 0), some (.iconst 5, 0, 0), some (.iconst (-1), 0, 0), some (.iastore, 0, 0), some (.dup, 0, 0), some (.bipush 6, 0, 0), none, some (.iconst (-1), 0, 0), some (.iastore, 0, 0), some (.dup, 0, 0), some (.bipush 7, 0, 0), none, some (.iconst (-1), 0, 0), some (.iastore, 0, 0), some (.putfield 20, 702, 110)],
  [none, none, some (.return_, 0, 0)]]
/-- WheelRide$Tape.<init>()V -/
def am_c2 : List (List (Option am_E)) := [[some (.aload_n 0, 0, 0), some (.invokespecial 3, 1010, 124), none, none, some (.aload_n 0, 0, 0), some (.bipush 100, 0, 0), none, some (.newarray .int, 0, 0), none, some (.putfield 9, 800, 125), none, none, some (.return_, 0, 0)]]
/-- WheelRide$Wheel.<init>()V -/
def am_c3 : List (List (Option am_E)) := [[some (.aload_n 0, 0, 0), some (.invokespecial 3, 1010, 145), none, none, some (.aload_n 0, 0, 0), some (.bipush 12, 0, 0), none, some (.newarray .int, 0, 0), none, some (.putfield 9, 905, 166), none, none, some (.aload_n 0, 0, 0), some (.bipush 6, 0, 0), none, some (.newarray .int, 0, 0)],
  [none, some (.putfield 15, 906, 170), none, none, some (.aload_n 0, 0, 0), some (.bipush 6, 0, 0), none, some (.newarray .int, 0, 0), none, some (.putfield 18, 907, 174), none, none, some (.aload_n 0, 0, 0), some (.bipush 6, 0, 0), none, some (.newarray .int, 0, 0)],
  [none, some (.putfield 21, 908, 179), none, none, some (.aload_n 0, 0, 0), some (.bipush 6, 0, 0), none, some (.newarray .int, 0, 0), none, some (.putfield 24, 909, 182), none, none, some (.aload_n 0, 0, 0), some (.bipush 6, 0, 0), none, some (.newarray .int, 0, 0)],
  [none, some (.putfield 27, 910, 188), none, none, some (.aload_n 0, 0, 0), some (.bipush 6, 0, 0), none, some (.newarray .int, 0, 0), none, some (.putfield 30, 911, 189), none, none, some (.aload_n 0, 0, 0), some (.bipush 6, 0, 0), none, some (.newarray .int, 0, 0)],
  [none, some (.putfield 33, 912, 193), none, none, some (.return_, 0, 0)]]
/-- WheelRide$Acts.<init>()V -/
def am_c4 : List (List (Option am_E)) := [[some (.aload_n 0, 0, 0), some (.invokespecial 3, 1010, 227), none, none, some (.aload_n 0, 0, 0), some (.bipush 24, 0, 0), none, some (.anewarray 9, 0, 228), none, none, some (.putfield 11, 0, 231), none, none, some (.iconst 0, 0, 0), some (.istore_n 1, 0, 0), some (.iload_n 1, 0, 0)],
  [some (.bipush 24, 0, 0), none, some (.if_icmp .ge 22, 40, 0), none, none, some (.aload_n 0, 0, 0), some (.getfield 11, 0, 231), none, none, some (.iload_n 1, 0, 0), some (.new 9, 9, 228), none, none, some (.dup, 0, 0), some (.invokespecial 17, 3, 230), none],
  [none, some (.aastore, 0, 0), some (.iinc 1 1, 0, 0), none, none, some (.goto (-22), 15, 0), none, none, some (.return_, 0, 0)]]
/-- WheelRide$Images.<init>()V -/
def am_c5 : List (List (Option am_E)) := [[some (.aload_n 0, 0, 0), some (.invokespecial 1, 1010, 247), none, none, some (.aload_n 0, 0, 0), some (.iconst 2, 0, 0), some (.anewarray 7, 0, 248), none, none, some (.dup, 0, 0), some (.iconst 0, 0, 0), some (.new 7, 9, 248), none, none, some (.dup, 0, 0), some (.invokespecial 9, 3, 249)],
  [none, none, some (.aastore, 0, 0), some (.dup, 0, 0), some (.iconst 1, 0, 0), some (.new 7, 9, 248), none, none, some (.dup, 0, 0), some (.invokespecial 9, 3, 249), none, none, some (.aastore, 0, 0), some (.putfield 10, 500, 250), none, none],
  [some (.return_, 0, 0)]]
/-- WheelRide$Foretold.<init>(LWheelRide$Wheel;LWheelRide$Wheel;)V -/
def am_c6 : List (List (Option am_E)) := [[some (.aload_n 0, 0, 0), some (.invokespecial 3, 1010, 259), none, none, some (.aload_n 0, 0, 0), some (.aload_n 1, 0, 0), some (.putfield 9, 300, 260), none, none, some (.aload_n 0, 0, 0), some (.aload_n 2, 0, 0), some (.putfield 15, 301, 261), none, none, some (.return_, 0, 0)]]
/-- WheelRide$Planner.<init>(LWheelRide$Wheel;LWheelRide$Wheel;)V -/
def am_c7 : List (List (Option am_E)) := [[some (.aload_n 0, 0, 0), some (.invokespecial 3, 1010, 272), none, none, some (.aload_n 0, 0, 0), some (.bipush 6, 0, 0), none, some (.newarray .int, 0, 0), none, some (.putfield 9, 602, 275), none, none, some (.aload_n 0, 0, 0), some (.bipush 6, 0, 0), none, some (.newarray .int, 0, 0)],
  [none, some (.putfield 15, 605, 278), none, none, some (.aload_n 0, 0, 0), some (.aload_n 1, 0, 0), some (.putfield 18, 600, 273), none, none, some (.aload_n 0, 0, 0), some (.aload_n 2, 0, 0), some (.putfield 22, 601, 274), none, none, some (.return_, 0, 0)]]
/-- WheelRide$Guesser.<init>(LWheelRide$Wheel;LWheelRide$Wheel;)V -/
def am_c8 : List (List (Option am_E)) := [[some (.aload_n 0, 0, 0), some (.invokespecial 3, 1010, 310), none, none, some (.aload_n 0, 0, 0), some (.aload_n 1, 0, 0), some (.putfield 9, 400, 311), none, none, some (.aload_n 0, 0, 0), some (.aload_n 2, 0, 0), some (.putfield 15, 401, 312), none, none, some (.return_, 0, 0)]]
/-- WheelRide$Chances.<init>(LWheelRide$Wheel;LWheelRide$Wheel;)V -/
def am_c9 : List (List (Option am_E)) := [[some (.aload_n 0, 0, 0), some (.invokespecial 3, 1010, 323), none, none, some (.aload_n 0, 0, 0), some (.bipush 16, 0, 0), none, some (.newarray .int, 0, 0), none, some (.putfield 9, 202, 326), none, none, some (.aload_n 0, 0, 0), some (.aload_n 1, 0, 0), some (.putfield 15, 200, 324), none],
  [none, some (.aload_n 0, 0, 0), some (.aload_n 2, 0, 0), some (.putfield 19, 201, 325), none, none, some (.return_, 0, 0)]]
/-- WheelRide$Asks.<init>(LWheelRide$Wheel;)V -/
def am_c10 : List (List (Option am_E)) := [[some (.aload_n 0, 0, 0), some (.invokespecial 3, 1010, 347), none, none, some (.aload_n 0, 0, 0), some (.bipush 16, 0, 0), none, some (.newarray .int, 0, 0), none, some (.putfield 9, 101, 349), none, none, some (.aload_n 0, 0, 0), some (.aload_n 1, 0, 0), some (.putfield 15, 100, 348), none],
  [none, some (.return_, 0, 0)]]
/-- WheelRide.row(III)I -/
def am_c11 : List (List (Option am_E)) := [[some (.iload_n 1, 0, 0), some (.invokestatic 86, 12, 404), none, none, some (.ifCond .eq 18, 22, 0), none, none, some (.iload_n 2, 0, 0), some (.ifCond .lt 14, 22, 0), none, none, some (.iload_n 2, 0, 0), some (.iconst 3, 0, 0), some (.if_icmp .ge 9, 22, 0), none, none],
  [some (.iload_n 3, 0, 0), some (.bipush 40, 0, 0), none, some (.if_icmp .le 6, 25, 0), none, none, some (.ldc 90, 4, 407), none, some (.ireturn, 0, 0), some (.iload_n 3, 0, 0), some (.ifCond .ge 9, 35, 0), none, none, some (.aload_n 0, 0, 0), some (.iconst 4, 0, 0), some (.invokevirtual 91, 13, 408)],
  [none, none, some (.ireturn, 0, 0), some (.aload_n 0, 0, 0), some (.getfield 10, 1000, 360), none, none, some (.iload_n 1, 0, 0), some (.iload_n 2, 0, 0), some (.iload_n 3, 0, 0), some (.invokevirtual 95, 14, 413), none, none, some (.aload_n 0, 0, 0), some (.iload_n 3, 0, 0), some (.invokevirtual 99, 15, 417)],
  [none, none, some (.ireturn, 0, 0)]]
/-- WheelRide.isRow(I)Z -/
def am_c12 : List (List (Option am_E)) := [[some (.iload_n 0, 0, 0), some (.ifCond .lt 13, 14, 0), none, none, some (.iload_n 0, 0, 0), some (.bipush 8, 0, 0), none, some (.if_icmp .ge 7, 14, 0), none, none, some (.iconst 1, 0, 0), some (.goto 4, 15, 0), none, none, some (.iconst 0, 0, 0), some (.ireturn, 0, 0)]]
/-- WheelRide.found(I)I -/
def am_c13 : List (List (Option am_E)) := [[some (.aload_n 0, 0, 0), some (.iload_n 1, 0, 0), some (.putfield 354, 1012, 372), none, none, some (.ldc_w 357, 1, 412), none, none, some (.iload_n 1, 0, 0), some (.isub, 0, 0), some (.ireturn, 0, 0)]]
/-- WheelRide$Rows.make(III)V -/
def am_c14 : List (List (Option am_E)) := [[some (.aload_n 0, 0, 0), some (.getfield 16, 701, 109), none, none, some (.iload_n 1, 0, 0), some (.iload_n 2, 0, 0), some (.iastore, 0, 0), some (.aload_n 0, 0, 0), some (.getfield 20, 702, 110), none, none, some (.iload_n 1, 0, 0), some (.iload_n 3, 0, 0), some (.iastore, 0, 0), some (.iconst 0, 0, 0), some (.istore 4, 0, 0)],
  [none, some (.iload 4, 0, 0), none, some (.iload_n 3, 0, 0), some (.if_icmp .ge 19, 39, 0), none, none, some (.aload_n 0, 0, 0), some (.getfield 11, 700, 107), none, none, some (.iload_n 1, 0, 0), some (.aaload, 0, 0), some (.iload 4, 0, 0), none, some (.iconst 0, 0, 0)],
  [some (.iastore, 0, 0), some (.iinc 4 1, 0, 0), none, none, some (.goto (-19), 17, 0), none, none, some (.return_, 0, 0)]]
/-- WheelRide.well(I)I -/
def am_c15 : List (List (Option am_E)) := [[some (.aload_n 0, 0, 0), some (.iconst 0, 0, 0), some (.putfield 354, 1012, 372), none, none, some (.iload_n 1, 0, 0), some (.ireturn, 0, 0)]]
/-- WheelRide.set(III)I -/
def am_c16 : List (List (Option am_E)) := [[some (.iload_n 1, 0, 0), some (.invokestatic 86, 12, 404), none, none, some (.ifCond .ne 6, 10, 0), none, none, some (.ldc 90, 4, 407), none, some (.ireturn, 0, 0), some (.aload_n 0, 0, 0), some (.getfield 10, 1000, 360), none, none, some (.iload_n 1, 0, 0), some (.invokevirtual 102, 17, 425)],
  [none, none, some (.ifCond .eq 9, 27, 0), none, none, some (.aload_n 0, 0, 0), some (.iconst 1, 0, 0), some (.invokevirtual 91, 13, 408), none, none, some (.ireturn, 0, 0), some (.aload_n 0, 0, 0), some (.getfield 10, 1000, 360), none, none, some (.iload_n 1, 0, 0)],
  [some (.iload_n 2, 0, 0), some (.iconst 1, 0, 0), some (.invokevirtual 105, 18, 429), none, none, some (.ifCond .ne 9, 46, 0), none, none, some (.aload_n 0, 0, 0), some (.iconst 2, 0, 0), some (.invokevirtual 91, 13, 408), none, none, some (.ireturn, 0, 0), some (.aload_n 0, 0, 0), some (.aload_n 0, 0, 0)],
  [some (.getfield 10, 1000, 360), none, none, some (.iload_n 1, 0, 0), some (.iload_n 2, 0, 0), some (.iload_n 3, 0, 0), some (.invokevirtual 109, 19, 433), none, none, some (.invokevirtual 99, 15, 417), none, none, some (.ireturn, 0, 0)]]
/-- WheelRide$Rows.isMissing(I)Z -/
def am_c17 : List (List (Option am_E)) := [[some (.aload_n 0, 0, 0), some (.getfield 20, 702, 110), none, none, some (.iload_n 1, 0, 0), some (.iaload, 0, 0), some (.iconst (-1), 0, 0), some (.if_icmp .ne 7, 14, 0), none, none, some (.iconst 1, 0, 0), some (.goto 4, 15, 0), none, none, some (.iconst 0, 0, 0), some (.ireturn, 0, 0)]]
/-- WheelRide$Rows.hasPlaces(III)Z -/
def am_c18 : List (List (Option am_E)) := [[some (.iload_n 2, 0, 0), some (.ifCond .lt 33, 34, 0), none, none, some (.iload_n 3, 0, 0), some (.ifCond .lt 29, 34, 0), none, none, some (.iload_n 2, 0, 0), some (.aload_n 0, 0, 0), some (.getfield 20, 702, 110), none, none, some (.iload_n 1, 0, 0), some (.iaload, 0, 0), some (.if_icmp .gt 19, 34, 0)],
  [none, none, some (.iload_n 3, 0, 0), some (.aload_n 0, 0, 0), some (.getfield 20, 702, 110), none, none, some (.iload_n 1, 0, 0), some (.iaload, 0, 0), some (.iload_n 2, 0, 0), some (.isub, 0, 0), some (.if_icmp .gt 7, 34, 0), none, none, some (.iconst 1, 0, 0), some (.goto 4, 35, 0)],
  [none, none, some (.iconst 0, 0, 0), some (.ireturn, 0, 0)]]
/-- WheelRide$Rows.put(III)I -/
def am_c19 : List (List (Option am_E)) := [[some (.aload_n 0, 0, 0), some (.getfield 16, 701, 109), none, none, some (.iload_n 1, 0, 0), some (.iaload, 0, 0), some (.iload_n 3, 0, 0), some (.invokestatic 23, 20, 437), none, none, some (.istore 4, 0, 0), none, some (.aload_n 0, 0, 0), some (.getfield 11, 700, 107), none, none],
  [some (.iload_n 1, 0, 0), some (.aaload, 0, 0), some (.iload_n 2, 0, 0), some (.iload 4, 0, 0), none, some (.iastore, 0, 0), some (.iload 4, 0, 0), none, some (.ireturn, 0, 0)]]
/-- WheelRide$Rows.narrowed(II)I -/
def am_c20 : List (List (Option am_E)) := [[some (.iload_n 0, 0, 0), some (.lookupswitch 33 #[(0, 27), (1, 30)], 0, 0), none, none, none, none, none, none, none, none, none, none, none, none, none, none],
  [none, none, none, none, none, none, none, none, none, none, none, none, some (.iload_n 1, 0, 0), some (.i2b, 0, 0), some (.ireturn, 0, 0), some (.iload_n 1, 0, 0)],
  [some (.i2s, 0, 0), some (.ireturn, 0, 0), some (.iload_n 1, 0, 0), some (.ireturn, 0, 0)]]
/-- WheelRide.copy(IIIII)I -/
def am_c21 : List (List (Option am_E)) := [[some (.iload_n 1, 0, 0), some (.invokestatic 86, 12, 404), none, none, some (.ifCond .eq 10, 14, 0), none, none, some (.iload_n 3, 0, 0), some (.invokestatic 86, 12, 404), none, none, some (.ifCond .ne 6, 17, 0), none, none, some (.ldc 90, 4, 407), none],
  [some (.ireturn, 0, 0), some (.aload_n 0, 0, 0), some (.getfield 10, 1000, 360), none, none, some (.iload_n 1, 0, 0), some (.invokevirtual 102, 17, 425), none, none, some (.ifCond .ne 14, 39, 0), none, none, some (.aload_n 0, 0, 0), some (.getfield 10, 1000, 360), none, none],
  [some (.iload_n 3, 0, 0), some (.invokevirtual 102, 17, 425), none, none, some (.ifCond .eq 9, 45, 0), none, none, some (.aload_n 0, 0, 0), some (.iconst 1, 0, 0), some (.invokevirtual 91, 13, 408), none, none, some (.ireturn, 0, 0), some (.aload_n 0, 0, 0), some (.getfield 10, 1000, 360), none],
  [none, some (.iload_n 1, 0, 0), some (.iload_n 3, 0, 0), some (.invokevirtual 113, 22, 444), none, none, some (.ifCond .ne 9, 63, 0), none, none, some (.aload_n 0, 0, 0), some (.iconst 5, 0, 0), some (.invokevirtual 91, 13, 408), none, none, some (.ireturn, 0, 0), some (.aload_n 0, 0, 0)],
  [some (.getfield 10, 1000, 360), none, none, some (.iload_n 1, 0, 0), some (.iload_n 2, 0, 0), some (.iload 5, 0, 0), none, some (.invokevirtual 105, 18, 429), none, none, some (.ifCond .eq 18, 92, 0), none, none, some (.aload_n 0, 0, 0), some (.getfield 10, 1000, 360), none],
  [none, some (.iload_n 3, 0, 0), some (.iload 4, 0, 0), none, some (.iload 5, 0, 0), none, some (.invokevirtual 105, 18, 429), none, none, some (.ifCond .ne 9, 98, 0), none, none, some (.aload_n 0, 0, 0), some (.iconst 2, 0, 0), some (.invokevirtual 91, 13, 408), none],
  [none, some (.ireturn, 0, 0), some (.aload_n 0, 0, 0), some (.getfield 10, 1000, 360), none, none, some (.iload_n 1, 0, 0), some (.iload_n 2, 0, 0), some (.iload_n 3, 0, 0), some (.iload 4, 0, 0), none, some (.iload 5, 0, 0), none, some (.invokevirtual 117, 23, 448), none, none],
  [some (.aload_n 0, 0, 0), some (.iload 5, 0, 0), none, some (.invokevirtual 99, 15, 417), none, none, some (.ireturn, 0, 0)]]
/-- WheelRide$Rows.haveOneLane(II)Z -/
def am_c22 : List (List (Option am_E)) := [[some (.aload_n 0, 0, 0), some (.getfield 16, 701, 109), none, none, some (.iload_n 1, 0, 0), some (.iaload, 0, 0), some (.aload_n 0, 0, 0), some (.getfield 16, 701, 109), none, none, some (.iload_n 2, 0, 0), some (.iaload, 0, 0), some (.if_icmp .ne 7, 19, 0), none, none, some (.iconst 1, 0, 0)],
  [some (.goto 4, 20, 0), none, none, some (.iconst 0, 0, 0), some (.ireturn, 0, 0)]]
/-- WheelRide$Rows.move(IIIII)V -/
def am_c23 : List (List (Option am_E)) := [[some (.aload_n 0, 0, 0), some (.getfield 11, 700, 107), none, none, some (.iload_n 1, 0, 0), some (.aaload, 0, 0), some (.iload_n 2, 0, 0), some (.aload_n 0, 0, 0), some (.getfield 11, 700, 107), none, none, some (.iload_n 3, 0, 0), some (.aaload, 0, 0), some (.iload 4, 0, 0), none, some (.iload 5, 0, 0)],
  [none, some (.invokestatic 27, 1003, 452), none, none, some (.return_, 0, 0)]]
/-- WheelRide.drop(I)I -/
def am_c24 : List (List (Option am_E)) := [[some (.iload_n 1, 0, 0), some (.invokestatic 86, 12, 404), none, none, some (.ifCond .ne 6, 10, 0), none, none, some (.ldc 90, 4, 407), none, some (.ireturn, 0, 0), some (.aload_n 0, 0, 0), some (.getfield 10, 1000, 360), none, none, some (.iload_n 1, 0, 0), some (.invokevirtual 102, 17, 425)],
  [none, none, some (.ifCond .eq 9, 27, 0), none, none, some (.aload_n 0, 0, 0), some (.iconst 1, 0, 0), some (.invokevirtual 91, 13, 408), none, none, some (.ireturn, 0, 0), some (.aload_n 0, 0, 0), some (.aload_n 0, 0, 0), some (.getfield 10, 1000, 360), none, none],
  [some (.iload_n 1, 0, 0), some (.invokevirtual 121, 25, 459), none, none, some (.invokevirtual 99, 15, 417), none, none, some (.ireturn, 0, 0)]]
/-- WheelRide$Rows.lose(I)I -/
def am_c25 : List (List (Option am_E)) := [[some (.aload_n 0, 0, 0), some (.getfield 20, 702, 110), none, none, some (.iload_n 1, 0, 0), some (.iaload, 0, 0), some (.istore_n 2, 0, 0), some (.aload_n 0, 0, 0), some (.getfield 20, 702, 110), none, none, some (.iload_n 1, 0, 0), some (.iconst (-1), 0, 0), some (.iastore, 0, 0), some (.iload_n 2, 0, 0), some (.ireturn, 0, 0)]]
/-- WheelRide.feed(I)I -/
def am_c26 : List (List (Option am_E)) := [[some (.iload_n 1, 0, 0), some (.ifCond .lt 10, 11, 0), none, none, some (.iload_n 1, 0, 0), some (.sipush 255, 0, 0), none, none, some (.if_icmp .le 6, 14, 0), none, none, some (.ldc 90, 4, 407), none, some (.ireturn, 0, 0), some (.aload_n 0, 0, 0), some (.getfield 19, 1001, 361)],
  [none, none, some (.getfield 124, 802, 128), none, none, some (.bipush 100, 0, 0), none, some (.if_icmp .lt 6, 29, 0), none, none, some (.ldc 128, 2, 467), none, some (.ireturn, 0, 0), some (.aload_n 0, 0, 0), some (.getfield 19, 1001, 361), none],
  [none, some (.iload_n 1, 0, 0), some (.invokevirtual 129, 27, 468), none, none, some (.ireturn, 0, 0)]]
/-- WheelRide$Tape.append(I)I -/
def am_c27 : List (List (Option am_E)) := [[some (.aload_n 0, 0, 0), some (.getfield 15, 802, 127), none, none, some (.bipush 100, 0, 0), none, some (.if_icmp .ge 23, 29, 0), none, none, some (.aload_n 0, 0, 0), some (.getfield 9, 800, 125), none, none, some (.aload_n 0, 0, 0), some (.getfield 15, 802, 127), none],
  [none, some (.iload_n 1, 0, 0), some (.iastore, 0, 0), some (.aload_n 0, 0, 0), some (.dup, 0, 0), some (.getfield 15, 802, 127), none, none, some (.iconst 1, 0, 0), some (.iadd, 0, 0), some (.putfield 15, 802, 127), none, none, some (.aload_n 0, 0, 0), some (.getfield 15, 802, 127), none],
  [none, some (.ireturn, 0, 0)]]
/-- WheelRide.wheel()I -/
def am_c28 : List (List (Option am_E)) := [[some (.aload_n 0, 0, 0), some (.getfield 19, 1001, 361), none, none, some (.aload_n 0, 0, 0), some (.getfield 30, 1003, 363), none, none, some (.invokevirtual 132, 29, 476), none, none, some (.istore_n 1, 0, 0), some (.aload_n 0, 0, 0), some (.getfield 19, 1001, 361), none, none],
  [some (.invokevirtual 136, 42, 525), none, none, some (.iload_n 1, 0, 0), some (.ifCond .eq 19, 39, 0), none, none, some (.aload_n 0, 0, 0), some (.iload_n 1, 0, 0), some (.putfield 139, 1011, 371), none, none, some (.ldc 142, 0, 529), none, some (.aload_n 0, 0, 0), some (.getfield 19, 1001, 361)],
  [none, none, some (.getfield 143, 803, 130), none, none, some (.isub, 0, 0), some (.ireturn, 0, 0), some (.aload_n 0, 0, 0), some (.getfield 26, 1002, 362), none, none, some (.aload_n 0, 0, 0), some (.getfield 30, 1003, 363), none, none, some (.invokevirtual 146, 43, 530)],
  [none, none, some (.aload_n 0, 0, 0), some (.getfield 36, 1004, 364), none, none, some (.invokevirtual 149, 44, 535), none, none, some (.aload_n 0, 0, 0), some (.getfield 59, 1007, 367), none, none, some (.invokevirtual 152, 45, 539), none, none],
  [some (.aload_n 0, 0, 0), some (.getfield 26, 1002, 362), none, none, some (.getfield 153, 904, 164), none, none, some (.ireturn, 0, 0)]]
/-- WheelRide$Tape.readInto(LWheelRide$Wheel;)I -/
def am_c29 : List (List (Option am_E)) := [[some (.aload_n 0, 0, 0), some (.iconst 0, 0, 0), some (.putfield 19, 803, 129), none, none, some (.aload_n 0, 0, 0), some (.iconst 0, 0, 0), some (.putfield 22, 801, 126), none, none, some (.aload_n 0, 0, 0), some (.aload_n 1, 0, 0), some (.invokevirtual 25, 30, 480), none, none, some (.aload_n 0, 0, 0)],
  [some (.aload_n 1, 0, 0), some (.invokevirtual 29, 37, 506), none, none, some (.iconst 0, 0, 0), some (.istore_n 2, 0, 0), some (.iload_n 2, 0, 0), some (.bipush 6, 0, 0), none, some (.if_icmp .ge 32, 57, 0), none, none, some (.aload_n 0, 0, 0), some (.getfield 22, 801, 126), none, none],
  [some (.ifCond .ne 25, 57, 0), none, none, some (.aload_n 0, 0, 0), some (.getfield 19, 803, 129), none, none, some (.aload_n 0, 0, 0), some (.getfield 15, 802, 127), none, none, some (.if_icmp .ge 14, 57, 0), none, none, some (.aload_n 0, 0, 0), some (.aload_n 1, 0, 0)],
  [some (.invokevirtual 29, 37, 506), none, none, some (.iinc 2 1, 0, 0), none, none, some (.goto (-32), 22, 0), none, none, some (.aload_n 0, 0, 0), some (.getfield 22, 801, 126), none, none, some (.ireturn, 0, 0)]]
/-- WheelRide$Tape.readLaw(LWheelRide$Wheel;)V -/
def am_c30 : List (List (Option am_E)) := [[some (.aload_n 0, 0, 0), some (.bipush 119, 0, 0), none, some (.invokevirtual 32, 31, 484), none, none, some (.aload_n 0, 0, 0), some (.iconst 4, 0, 0), some (.bipush 12, 0, 0), none, some (.invokevirtual 36, 33, 492), none, none, some (.istore_n 2, 0, 0), some (.aload_n 0, 0, 0), some (.bipush 44, 0, 0)],
  [none, some (.invokevirtual 32, 31, 484), none, none, some (.aload_n 0, 0, 0), some (.iconst 1, 0, 0), some (.bipush 99, 0, 0), none, some (.invokevirtual 36, 33, 492), none, none, some (.istore_n 3, 0, 0), some (.aload_n 0, 0, 0), some (.bipush 59, 0, 0), none, some (.invokevirtual 32, 31, 484)],
  [none, none, some (.aload_n 0, 0, 0), some (.getfield 22, 801, 126), none, none, some (.ifCond .ne 9, 47, 0), none, none, some (.aload_n 1, 0, 0), some (.iload_n 2, 0, 0), some (.iload_n 3, 0, 0), some (.invokevirtual 40, 36, 502), none, none, some (.return_, 0, 0)]]
/-- WheelRide$Tape.takeSign(I)V -/
def am_c31 : List (List (Option am_E)) := [[some (.aload_n 0, 0, 0), some (.getfield 22, 801, 126), none, none, some (.ifCond .eq 4, 8, 0), none, none, some (.return_, 0, 0), some (.aload_n 0, 0, 0), some (.aload_n 0, 0, 0), some (.getfield 19, 803, 129), none, none, some (.invokevirtual 57, 32, 488), none, none],
  [some (.iload_n 1, 0, 0), some (.if_icmp .ne 16, 33, 0), none, none, some (.aload_n 0, 0, 0), some (.dup, 0, 0), some (.getfield 19, 803, 129), none, none, some (.iconst 1, 0, 0), some (.iadd, 0, 0), some (.putfield 19, 803, 129), none, none, some (.goto 8, 38, 0), none],
  [none, some (.aload_n 0, 0, 0), some (.iconst 1, 0, 0), some (.putfield 22, 801, 126), none, none, some (.return_, 0, 0)]]
/-- WheelRide$Tape.byteAt(I)I -/
def am_c32 : List (List (Option am_E)) := [[some (.iload_n 1, 0, 0), some (.ifCond .lt 20, 21, 0), none, none, some (.iload_n 1, 0, 0), some (.aload_n 0, 0, 0), some (.getfield 15, 802, 127), none, none, some (.if_icmp .ge 12, 21, 0), none, none, some (.aload_n 0, 0, 0), some (.getfield 9, 800, 125), none, none],
  [some (.iload_n 1, 0, 0), some (.iaload, 0, 0), some (.goto 4, 22, 0), none, none, some (.iconst (-1), 0, 0), some (.ireturn, 0, 0)]]
/-- WheelRide$Tape.takeNumber(II)I -/
def am_c33 : List (List (Option am_E)) := [[some (.aload_n 0, 0, 0), some (.getfield 22, 801, 126), none, none, some (.ifCond .eq 5, 9, 0), none, none, some (.iconst 0, 0, 0), some (.ireturn, 0, 0), some (.iconst 0, 0, 0), some (.istore_n 3, 0, 0), some (.iconst 0, 0, 0), some (.istore 4, 0, 0), none, some (.iload_n 3, 0, 0), some (.iconst 3, 0, 0)],
  [some (.if_icmp .ge 46, 62, 0), none, none, some (.aload_n 0, 0, 0), some (.aload_n 0, 0, 0), some (.getfield 19, 803, 129), none, none, some (.iload_n 3, 0, 0), some (.iadd, 0, 0), some (.invokevirtual 57, 32, 488), none, none, some (.invokestatic 64, 34, 496), none, none],
  [some (.ifCond .eq 30, 62, 0), none, none, some (.iload 4, 0, 0), none, some (.bipush 10, 0, 0), none, some (.imul, 0, 0), some (.aload_n 0, 0, 0), some (.aload_n 0, 0, 0), some (.getfield 19, 803, 129), none, none, some (.iload_n 3, 0, 0), some (.iadd, 0, 0), some (.invokevirtual 57, 32, 488)],
  [none, none, some (.iadd, 0, 0), some (.bipush 48, 0, 0), none, some (.isub, 0, 0), some (.istore 4, 0, 0), none, some (.iinc 3 1, 0, 0), none, none, some (.goto (-45), 14, 0), none, none, some (.iload_n 3, 0, 0), some (.ifCond .eq 8, 71, 0)],
  [none, none, some (.iload_n 3, 0, 0), some (.iconst 3, 0, 0), some (.if_icmp .ne 11, 79, 0), none, none, some (.aload_n 0, 0, 0), some (.iconst 1, 0, 0), some (.putfield 22, 801, 126), none, none, some (.goto 31, 107, 0), none, none, some (.iload 4, 0, 0)],
  [none, some (.iload_n 1, 0, 0), some (.iload_n 2, 0, 0), some (.invokestatic 68, 35, 499), none, none, some (.ifCond .eq 11, 97, 0), none, none, some (.aload_n 0, 0, 0), some (.iconst 2, 0, 0), some (.putfield 22, 801, 126), none, none, some (.goto 13, 107, 0), none],
  [none, some (.aload_n 0, 0, 0), some (.dup, 0, 0), some (.getfield 19, 803, 129), none, none, some (.iload_n 3, 0, 0), some (.iadd, 0, 0), some (.putfield 19, 803, 129), none, none, some (.iload 4, 0, 0), none, some (.ireturn, 0, 0)]]
/-- WheelRide$Tape.isFigure(I)Z -/
def am_c34 : List (List (Option am_E)) := [[some (.iload_n 0, 0, 0), some (.bipush 48, 0, 0), none, some (.if_icmp .lt 13, 16, 0), none, none, some (.iload_n 0, 0, 0), some (.bipush 57, 0, 0), none, some (.if_icmp .gt 7, 16, 0), none, none, some (.iconst 1, 0, 0), some (.goto 4, 17, 0), none, none],
  [some (.iconst 0, 0, 0), some (.ireturn, 0, 0)]]
/-- WheelRide.isOutside(III)Z -/
def am_c35 : List (List (Option am_E)) := [[some (.iload_n 0, 0, 0), some (.iload_n 1, 0, 0), some (.if_icmp .lt 8, 10, 0), none, none, some (.iload_n 0, 0, 0), some (.iload_n 2, 0, 0), some (.if_icmp .le 7, 14, 0), none, none, some (.iconst 1, 0, 0), some (.goto 4, 15, 0), none, none, some (.iconst 0, 0, 0), some (.ireturn, 0, 0)]]
/-- WheelRide$Wheel.begin(II)V -/
def am_c36 : List (List (Option am_E)) := [[some (.aload_n 0, 0, 0), some (.iload_n 1, 0, 0), some (.putfield 36, 900, 146), none, none, some (.aload_n 0, 0, 0), some (.iload_n 2, 0, 0), some (.putfield 40, 901, 150), none, none, some (.aload_n 0, 0, 0), some (.iconst 0, 0, 0), some (.putfield 43, 902, 154), none, none, some (.aload_n 0, 0, 0)],
  [some (.iconst 0, 0, 0), some (.putfield 46, 903, 158), none, none, some (.aload_n 0, 0, 0), some (.iconst 0, 0, 0), some (.putfield 49, 904, 161), none, none, some (.iconst 0, 0, 0), some (.istore_n 3, 0, 0), some (.iload_n 3, 0, 0), some (.bipush 12, 0, 0), none, some (.if_icmp .ge 16, 46, 0), none],
  [none, some (.aload_n 0, 0, 0), some (.getfield 9, 905, 166), none, none, some (.iload_n 3, 0, 0), some (.iconst 0, 0, 0), some (.iastore, 0, 0), some (.iinc 3 1, 0, 0), none, none, some (.goto (-16), 27, 0), none, none, some (.return_, 0, 0)]]
/-- WheelRide$Tape.readParty(LWheelRide$Wheel;)V -/
def am_c37 : List (List (Option am_E)) := [[some (.aload_n 0, 0, 0), some (.aload_n 1, 0, 0), some (.getfield 46, 904, 163), none, none, some (.bipush 6, 0, 0), none, some (.if_icmp .ge 7, 14, 0), none, none, some (.iconst 1, 0, 0), some (.goto 4, 15, 0), none, none, some (.iconst 0, 0, 0), some (.invokevirtual 49, 38, 510)],
  [none, none, some (.istore_n 2, 0, 0), some (.aload_n 0, 0, 0), some (.iconst 1, 0, 0), some (.bipush 9, 0, 0), none, some (.invokevirtual 36, 33, 492), none, none, some (.istore_n 3, 0, 0), some (.aload_n 0, 0, 0), some (.bipush 44, 0, 0), none, some (.invokevirtual 32, 31, 484), none],
  [none, some (.aload_n 0, 0, 0), some (.iconst 1, 0, 0), some (.iconst 4, 0, 0), some (.invokevirtual 36, 33, 492), none, none, some (.istore 4, 0, 0), none, some (.aload_n 0, 0, 0), some (.bipush 59, 0, 0), none, some (.invokevirtual 32, 31, 484), none, none, some (.aload_n 0, 0, 0)],
  [some (.getfield 22, 801, 126), none, none, some (.ifCond .ne 11, 62, 0), none, none, some (.aload_n 1, 0, 0), some (.iload_n 2, 0, 0), some (.iload_n 3, 0, 0), some (.iload 4, 0, 0), none, some (.invokevirtual 53, 40, 517), none, none, some (.return_, 0, 0)]]
/-- WheelRide$Tape.takeSort(Z)I -/
def am_c38 : List (List (Option am_E)) := [[some (.aload_n 0, 0, 0), some (.getfield 22, 801, 126), none, none, some (.ifCond .eq 5, 9, 0), none, none, some (.iconst 0, 0, 0), some (.ireturn, 0, 0), some (.aload_n 0, 0, 0), some (.aload_n 0, 0, 0), some (.getfield 19, 803, 129), none, none, some (.invokevirtual 57, 32, 488), none],
  [none, some (.invokestatic 61, 39, 514), none, none, some (.istore_n 2, 0, 0), some (.iload_n 2, 0, 0), some (.ifCond .ne 11, 33, 0), none, none, some (.aload_n 0, 0, 0), some (.iconst 1, 0, 0), some (.putfield 22, 801, 126), none, none, some (.goto 25, 55, 0), none],
  [none, some (.iload_n 1, 0, 0), some (.ifCond .ne 11, 45, 0), none, none, some (.aload_n 0, 0, 0), some (.iconst 3, 0, 0), some (.putfield 22, 801, 126), none, none, some (.goto 13, 55, 0), none, none, some (.aload_n 0, 0, 0), some (.dup, 0, 0), some (.getfield 19, 803, 129)],
  [none, none, some (.iconst 1, 0, 0), some (.iadd, 0, 0), some (.putfield 19, 803, 129), none, none, some (.iload_n 2, 0, 0), some (.ireturn, 0, 0)]]
/-- WheelRide$Tape.kindOf(I)I -/
def am_c39 : List (List (Option am_E)) := [[some (.iload_n 0, 0, 0), some (.lookupswitch 61 #[(99, 59), (102, 51), (103, 55), (108, 53), (115, 57)], 0, 0), none, none, none, none, none, none, none, none, none, none, none, none, none, none],
  [none, none, none, none, none, none, none, none, none, none, none, none, none, none, none, none],
  [none, none, none, none, none, none, none, none, none, none, none, none, none, none, none, none],
  [none, none, none, none, some (.iconst 1, 0, 0), some (.ireturn, 0, 0), some (.iconst 2, 0, 0), some (.ireturn, 0, 0), some (.iconst 3, 0, 0), some (.ireturn, 0, 0), some (.iconst 4, 0, 0), some (.ireturn, 0, 0), some (.iconst 5, 0, 0), some (.ireturn, 0, 0), some (.iconst 0, 0, 0), some (.ireturn, 0, 0)]]
/-- WheelRide$Wheel.addParty(III)V -/
def am_c40 : List (List (Option am_E)) := [[some (.aload_n 0, 0, 0), some (.getfield 49, 904, 161), none, none, some (.ifCond .lt 12, 16, 0), none, none, some (.aload_n 0, 0, 0), some (.getfield 49, 904, 161), none, none, some (.bipush 6, 0, 0), none, some (.if_icmp .lt 4, 17, 0), none, none],
  [some (.return_, 0, 0), some (.aload_n 0, 0, 0), some (.getfield 15, 906, 170), none, none, some (.aload_n 0, 0, 0), some (.getfield 49, 904, 161), none, none, some (.iload_n 1, 0, 0), some (.iastore, 0, 0), some (.aload_n 0, 0, 0), some (.getfield 18, 907, 174), none, none, some (.aload_n 0, 0, 0)],
  [some (.getfield 49, 904, 161), none, none, some (.iload_n 2, 0, 0), some (.iastore, 0, 0), some (.aload_n 0, 0, 0), some (.getfield 21, 908, 179), none, none, some (.aload_n 0, 0, 0), some (.getfield 49, 904, 161), none, none, some (.iload_n 3, 0, 0), some (.iastore, 0, 0), some (.aload_n 0, 0, 0)],
  [some (.dup, 0, 0), some (.getfield 49, 904, 161), none, none, some (.iconst 1, 0, 0), some (.iadd, 0, 0), some (.putfield 49, 904, 161), none, none, some (.aload_n 0, 0, 0), some (.aload_n 0, 0, 0), some (.getfield 49, 904, 161), none, none, some (.iconst 1, 0, 0), some (.isub, 0, 0)],
  [some (.invokevirtual 52, 41, 521), none, none, some (.return_, 0, 0)]]
/-- WheelRide$Wheel.comeAgain(I)V -/
def am_c41 : List (List (Option am_E)) := [[some (.aload_n 0, 0, 0), some (.getfield 24, 909, 182), none, none, some (.iload_n 1, 0, 0), some (.iconst 0, 0, 0), some (.iastore, 0, 0), some (.aload_n 0, 0, 0), some (.getfield 30, 911, 189), none, none, some (.iload_n 1, 0, 0), some (.iconst 0, 0, 0), some (.iastore, 0, 0), some (.aload_n 0, 0, 0), some (.getfield 33, 912, 193)],
  [none, none, some (.iload_n 1, 0, 0), some (.iconst 0, 0, 0), some (.iastore, 0, 0), some (.return_, 0, 0)]]
/-- WheelRide$Tape.clear()V -/
def am_c42 : List (List (Option am_E)) := [[some (.aload_n 0, 0, 0), some (.iconst 0, 0, 0), some (.putfield 15, 802, 127), none, none, some (.return_, 0, 0)]]
/-- WheelRide$Wheel.takeFrom(LWheelRide$Wheel;)V -/
def am_c43 : List (List (Option am_E)) := [[some (.aload_n 0, 0, 0), some (.aload_n 1, 0, 0), some (.getfield 36, 900, 146), none, none, some (.putfield 36, 900, 146), none, none, some (.aload_n 0, 0, 0), some (.aload_n 1, 0, 0), some (.getfield 40, 901, 150), none, none, some (.putfield 40, 901, 150), none, none],
  [some (.aload_n 0, 0, 0), some (.aload_n 1, 0, 0), some (.getfield 43, 902, 154), none, none, some (.putfield 43, 902, 154), none, none, some (.aload_n 0, 0, 0), some (.aload_n 1, 0, 0), some (.getfield 46, 903, 158), none, none, some (.putfield 46, 903, 158), none, none],
  [some (.aload_n 0, 0, 0), some (.aload_n 1, 0, 0), some (.getfield 49, 904, 161), none, none, some (.putfield 49, 904, 161), none, none, some (.aload_n 1, 0, 0), some (.getfield 9, 905, 166), none, none, some (.iconst 0, 0, 0), some (.aload_n 0, 0, 0), some (.getfield 9, 905, 166), none],
  [none, some (.iconst 0, 0, 0), some (.bipush 12, 0, 0), none, some (.invokestatic 56, 1003, 534), none, none, some (.aload_n 1, 0, 0), some (.getfield 15, 906, 170), none, none, some (.iconst 0, 0, 0), some (.aload_n 0, 0, 0), some (.getfield 15, 906, 170), none, none],
  [some (.iconst 0, 0, 0), some (.bipush 6, 0, 0), none, some (.invokestatic 56, 1003, 534), none, none, some (.aload_n 1, 0, 0), some (.getfield 18, 907, 174), none, none, some (.iconst 0, 0, 0), some (.aload_n 0, 0, 0), some (.getfield 18, 907, 174), none, none, some (.iconst 0, 0, 0)],
  [some (.bipush 6, 0, 0), none, some (.invokestatic 56, 1003, 534), none, none, some (.aload_n 1, 0, 0), some (.getfield 21, 908, 179), none, none, some (.iconst 0, 0, 0), some (.aload_n 0, 0, 0), some (.getfield 21, 908, 179), none, none, some (.iconst 0, 0, 0), some (.bipush 6, 0, 0)],
  [none, some (.invokestatic 56, 1003, 534), none, none, some (.aload_n 1, 0, 0), some (.getfield 24, 909, 182), none, none, some (.iconst 0, 0, 0), some (.aload_n 0, 0, 0), some (.getfield 24, 909, 182), none, none, some (.iconst 0, 0, 0), some (.bipush 6, 0, 0), none],
  [some (.invokestatic 56, 1003, 534), none, none, some (.aload_n 1, 0, 0), some (.getfield 27, 910, 188), none, none, some (.iconst 0, 0, 0), some (.aload_n 0, 0, 0), some (.getfield 27, 910, 188), none, none, some (.iconst 0, 0, 0), some (.bipush 6, 0, 0), none, some (.invokestatic 56, 1003, 534)],
  [none, none, some (.aload_n 1, 0, 0), some (.getfield 30, 911, 189), none, none, some (.iconst 0, 0, 0), some (.aload_n 0, 0, 0), some (.getfield 30, 911, 189), none, none, some (.iconst 0, 0, 0), some (.bipush 6, 0, 0), none, some (.invokestatic 56, 1003, 534), none],
  [none, some (.aload_n 1, 0, 0), some (.getfield 33, 912, 193), none, none, some (.iconst 0, 0, 0), some (.aload_n 0, 0, 0), some (.getfield 33, 912, 193), none, none, some (.iconst 0, 0, 0), some (.bipush 6, 0, 0), none, some (.invokestatic 56, 1003, 534), none, none],
  [some (.return_, 0, 0)]]
/-- WheelRide$Acts.forget()V -/
def am_c44 : List (List (Option am_E)) := [[some (.aload_n 0, 0, 0), some (.iconst 0, 0, 0), some (.putfield 26, 2, 233), none, none, some (.return_, 0, 0)]]
/-- WheelRide$Planner.forget()V -/
def am_c45 : List (List (Option am_E)) := [[some (.aload_n 0, 0, 0), some (.iconst 0, 0, 0), some (.putfield 25, 603, 276), none, none, some (.return_, 0, 0)]]
/-- WheelRide.fault()I -/
def am_c46 : List (List (Option am_E)) := [[some (.aload_n 0, 0, 0), some (.getfield 139, 1011, 371), none, none, some (.ireturn, 0, 0)]]
/-- WheelRide.undo()I -/
def am_c47 : List (List (Option am_E)) := [[some (.aload_n 0, 0, 0), some (.getfield 36, 1004, 364), none, none, some (.getfield 156, 2, 234), none, none, some (.ifCond .ne 6, 13, 0), none, none, some (.ldc 159, 3, 551), none, some (.ireturn, 0, 0), some (.aload_n 0, 0, 0), some (.getfield 36, 1004, 364), none],
  [none, some (.aload_n 0, 0, 0), some (.getfield 26, 1002, 362), none, none, some (.invokevirtual 160, 48, 552), none, none, some (.aload_n 0, 0, 0), some (.getfield 59, 1007, 367), none, none, some (.invokevirtual 152, 45, 539), none, none, some (.aload_n 0, 0, 0)],
  [some (.getfield 36, 1004, 364), none, none, some (.getfield 156, 2, 234), none, none, some (.ireturn, 0, 0)]]
/-- WheelRide$Acts.takeBack(LWheelRide$Wheel;)V -/
def am_c48 : List (List (Option am_E)) := [[some (.aload_n 0, 0, 0), some (.getfield 26, 2, 233), none, none, some (.ifCond .ne 4, 8, 0), none, none, some (.return_, 0, 0), some (.aload_n 0, 0, 0), some (.aload_n 0, 0, 0), some (.getfield 18, 1, 232), none, none, some (.ifCond .le 12, 25, 0), none, none],
  [some (.aload_n 0, 0, 0), some (.getfield 18, 1, 232), none, none, some (.iconst 1, 0, 0), some (.isub, 0, 0), some (.goto 5, 27, 0), none, none, some (.bipush 23, 0, 0), none, some (.putfield 18, 1, 232), none, none, some (.aload_n 1, 0, 0), some (.aload_n 0, 0, 0)],
  [some (.getfield 11, 0, 231), none, none, some (.aload_n 0, 0, 0), some (.getfield 18, 1, 232), none, none, some (.aaload, 0, 0), some (.invokevirtual 22, 43, 556), none, none, some (.aload_n 0, 0, 0), some (.dup, 0, 0), some (.getfield 26, 2, 233), none, none],
  [some (.iconst 1, 0, 0), some (.isub, 0, 0), some (.putfield 26, 2, 233), none, none, some (.return_, 0, 0)]]
/-- WheelRide.steps(I)I -/
def am_c49 : List (List (Option am_E)) := [[some (.aload_n 0, 0, 0), some (.getfield 26, 1002, 362), none, none, some (.invokevirtual 163, 50, 561), none, none, some (.ifCond .ne 6, 13, 0), none, none, some (.ldc 159, 3, 551), none, some (.ireturn, 0, 0), some (.iload_n 1, 0, 0), some (.iconst 1, 0, 0), some (.bipush 24, 0, 0)],
  [none, some (.invokestatic 167, 35, 565), none, none, some (.ifCond .eq 6, 26, 0), none, none, some (.ldc 90, 4, 407), none, some (.ireturn, 0, 0), some (.aload_n 0, 0, 0), some (.getfield 26, 1002, 362), none, none, some (.getfield 170, 903, 159), none],
  [none, some (.iload_n 1, 0, 0), some (.iadd, 0, 0), some (.sipush 999, 0, 0), none, none, some (.if_icmp .le 6, 44, 0), none, none, some (.ldc 128, 2, 467), none, some (.ireturn, 0, 0), some (.iconst 0, 0, 0), some (.istore_n 2, 0, 0), some (.iload_n 2, 0, 0), some (.iload_n 1, 0, 0)],
  [some (.if_icmp .ge 24, 72, 0), none, none, some (.aload_n 0, 0, 0), some (.invokevirtual 173, 51, 566), none, none, some (.aload_n 0, 0, 0), some (.getfield 26, 1002, 362), none, none, some (.getstatic 176, 1, 574), none, none, some (.invokevirtual 180, 53, 576), none],
  [none, some (.pop, 0, 0), some (.iinc 2 1, 0, 0), none, none, some (.goto (-23), 46, 0), none, none, some (.aload_n 0, 0, 0), some (.getfield 26, 1002, 362), none, none, some (.iconst 2, 0, 0), some (.invokevirtual 184, 57, 640), none, none],
  [some (.ireturn, 0, 0)]]
/-- WheelRide$Wheel.stands()Z -/
def am_c50 : List (List (Option am_E)) := [[some (.aload_n 0, 0, 0), some (.getfield 49, 904, 161), none, none, some (.ifCond .le 7, 11, 0), none, none, some (.iconst 1, 0, 0), some (.goto 4, 12, 0), none, none, some (.iconst 0, 0, 0), some (.ireturn, 0, 0)]]
/-- WheelRide.keepForUndo()V -/
def am_c51 : List (List (Option am_E)) := [[some (.aload_n 0, 0, 0), some (.getfield 36, 1004, 364), none, none, some (.aload_n 0, 0, 0), some (.getfield 26, 1002, 362), none, none, some (.invokevirtual 358, 52, 570), none, none, some (.aload_n 0, 0, 0), some (.getfield 59, 1007, 367), none, none, some (.invokevirtual 152, 45, 539)],
  [none, none, some (.return_, 0, 0)]]
/-- WheelRide$Acts.keep(LWheelRide$Wheel;)V -/
def am_c52 : List (List (Option am_E)) := [[some (.aload_n 0, 0, 0), some (.getfield 11, 0, 231), none, none, some (.aload_n 0, 0, 0), some (.getfield 18, 1, 232), none, none, some (.aaload, 0, 0), some (.aload_n 1, 0, 0), some (.invokevirtual 22, 43, 556), none, none, some (.aload_n 0, 0, 0), some (.aload_n 0, 0, 0), some (.getfield 18, 1, 232)],
  [none, none, some (.iconst 1, 0, 0), some (.iadd, 0, 0), some (.bipush 24, 0, 0), none, some (.if_icmp .ge 12, 34, 0), none, none, some (.aload_n 0, 0, 0), some (.getfield 18, 1, 232), none, none, some (.iconst 1, 0, 0), some (.iadd, 0, 0), some (.goto 4, 35, 0)],
  [none, none, some (.iconst 0, 0, 0), some (.putfield 18, 1, 232), none, none, some (.aload_n 0, 0, 0), some (.getfield 26, 2, 233), none, none, some (.bipush 24, 0, 0), none, some (.if_icmp .ge 13, 57, 0), none, none, some (.aload_n 0, 0, 0)],
  [some (.dup, 0, 0), some (.getfield 26, 2, 233), none, none, some (.iconst 1, 0, 0), some (.iadd, 0, 0), some (.putfield 26, 2, 233), none, none, some (.return_, 0, 0)]]
/-- WheelRide$Wheel.makeStep([I)Z -/
def am_c53 : List (List (Option am_E)) := [[some (.aload_n 0, 0, 0), some (.invokevirtual 76, 54, 580), none, none, some (.aload_n 0, 0, 0), some (.aload_n 1, 0, 0), some (.invokevirtual 79, 62, 612), none, none, some (.aload_n 0, 0, 0), some (.invokevirtual 83, 64, 620), none, none, some (.aload_n 0, 0, 0), some (.dup, 0, 0), some (.getfield 46, 903, 158)],
  [none, none, some (.iconst 1, 0, 0), some (.iadd, 0, 0), some (.putfield 46, 903, 158), none, none, some (.aload_n 0, 0, 0), some (.invokevirtual 86, 66, 628), none, none, some (.ireturn, 0, 0)]]
/-- WheelRide$Wheel.letOff()V -/
def am_c54 : List (List (Option am_E)) := [[some (.aload_n 0, 0, 0), some (.aload_n 0, 0, 0), some (.getfield 43, 902, 154), none, none, some (.invokevirtual 90, 55, 584), none, none, some (.istore_n 1, 0, 0), some (.iload_n 1, 0, 0), some (.ldc 62, 5, 588), none, some (.if_icmp .eq 18, 30, 0), none, none, some (.aload_n 0, 0, 0)],
  [some (.iload_n 1, 0, 0), some (.invokevirtual 93, 56, 589), none, none, some (.ifCond .eq 10, 30, 0), none, none, some (.aload_n 0, 0, 0), some (.getfield 24, 909, 182), none, none, some (.iload_n 1, 0, 0), some (.iconst 2, 0, 0), some (.iastore, 0, 0), some (.return_, 0, 0)]]
/-- WheelRide$Wheel.partyIn(I)I -/
def am_c55 : List (List (Option am_E)) := [[some (.iconst 0, 0, 0), some (.istore_n 2, 0, 0), some (.iload_n 2, 0, 0), some (.aload_n 0, 0, 0), some (.getfield 49, 904, 161), none, none, some (.if_icmp .ge 31, 38, 0), none, none, some (.aload_n 0, 0, 0), some (.getfield 24, 909, 182), none, none, some (.iload_n 2, 0, 0), some (.iaload, 0, 0)],
  [some (.iconst 1, 0, 0), some (.if_icmp .ne 15, 32, 0), none, none, some (.aload_n 0, 0, 0), some (.getfield 27, 910, 188), none, none, some (.iload_n 2, 0, 0), some (.iaload, 0, 0), some (.iload_n 1, 0, 0), some (.if_icmp .ne 5, 32, 0), none, none, some (.iload_n 2, 0, 0), some (.ireturn, 0, 0)],
  [some (.iinc 2 1, 0, 0), none, none, some (.goto (-33), 2, 0), none, none, some (.ldc 62, 5, 588), none, some (.ireturn, 0, 0)]]
/-- WheelRide$Wheel.isDone(I)Z -/
def am_c56 : List (List (Option am_E)) := [[some (.aload_n 0, 0, 0), some (.getfield 30, 911, 189), none, none, some (.iload_n 1, 0, 0), some (.iaload, 0, 0), some (.aload_n 0, 0, 0), some (.getfield 21, 908, 179), none, none, some (.iload_n 1, 0, 0), some (.iaload, 0, 0), some (.if_icmp .lt 7, 19, 0), none, none, some (.iconst 1, 0, 0)],
  [some (.goto 4, 20, 0), none, none, some (.iconst 0, 0, 0), some (.istore_n 2, 0, 0), some (.aload_n 0, 0, 0), some (.getfield 15, 906, 170), none, none, some (.iload_n 1, 0, 0), some (.iaload, 0, 0), some (.tableswitch 103 2 5 #[29, 47, 103, 63], 0, 0), none, none, none, none],
  [none, none, none, none, none, none, none, none, none, none, none, none, none, none, none, none],
  [none, none, none, none, none, none, none, none, some (.iload_n 2, 0, 0), some (.ifCond .eq 15, 72, 0), none, none, some (.aload_n 0, 0, 0), some (.iconst 0, 0, 0), some (.invokevirtual 97, 57, 593), none],
  [none, some (.ifCond .eq 7, 72, 0), none, none, some (.iconst 1, 0, 0), some (.goto 4, 73, 0), none, none, some (.iconst 0, 0, 0), some (.ireturn, 0, 0), some (.aload_n 0, 0, 0), some (.getfield 30, 911, 189), none, none, some (.iload_n 1, 0, 0), some (.iaload, 0, 0)],
  [some (.iconst 1, 0, 0), some (.if_icmp .lt 7, 88, 0), none, none, some (.iconst 1, 0, 0), some (.goto 4, 89, 0), none, none, some (.iconst 0, 0, 0), some (.ireturn, 0, 0), some (.iload_n 2, 0, 0), some (.ifCond .ne 33, 124, 0), none, none, some (.aload_n 0, 0, 0), some (.getfield 30, 911, 189)],
  [none, none, some (.iload_n 1, 0, 0), some (.iaload, 0, 0), some (.iconst 1, 0, 0), some (.if_icmp .lt 27, 128, 0), none, none, some (.aload_n 0, 0, 0), some (.aload_n 0, 0, 0), some (.getfield 43, 902, 154), none, none, some (.invokevirtual 100, 58, 597), none, none],
  [some (.invokestatic 71, 61, 609), none, none, some (.iconst 5, 0, 0), some (.aload_n 0, 0, 0), some (.getfield 40, 901, 150), none, none, some (.imul, 0, 0), some (.if_icmp .lt 7, 128, 0), none, none, some (.iconst 1, 0, 0), some (.goto 4, 129, 0), none, none],
  [some (.iconst 0, 0, 0), some (.ireturn, 0, 0), some (.iload_n 2, 0, 0), some (.ireturn, 0, 0)]]
/-- WheelRide$Wheel.whichAre(I)I -/
def am_c57 : List (List (Option am_E)) := [[some (.iconst 0, 0, 0), some (.istore_n 2, 0, 0), some (.iconst 0, 0, 0), some (.istore_n 3, 0, 0), some (.iload_n 3, 0, 0), some (.aload_n 0, 0, 0), some (.getfield 49, 904, 161), none, none, some (.if_icmp .ge 25, 34, 0), none, none, some (.aload_n 0, 0, 0), some (.getfield 24, 909, 182), none, none],
  [some (.iload_n 3, 0, 0), some (.iaload, 0, 0), some (.iload_n 1, 0, 0), some (.if_icmp .ne 9, 28, 0), none, none, some (.iload_n 2, 0, 0), some (.iconst 1, 0, 0), some (.iload_n 3, 0, 0), some (.ishl, 0, 0), some (.ior, 0, 0), some (.istore_n 2, 0, 0), some (.iinc 3 1, 0, 0), none, none, some (.goto (-27), 4, 0)],
  [none, none, some (.iload_n 2, 0, 0), some (.ireturn, 0, 0)]]
/-- WheelRide$Wheel.leanWith(I)I -/
def am_c58 : List (List (Option am_E)) := [[some (.iconst 0, 0, 0), some (.istore_n 2, 0, 0), some (.iconst 0, 0, 0), some (.istore_n 3, 0, 0), some (.iload_n 3, 0, 0), some (.aload_n 0, 0, 0), some (.getfield 36, 900, 146), none, none, some (.if_icmp .ge 38, 47, 0), none, none, some (.aload_n 0, 0, 0), some (.getfield 9, 905, 166), none, none],
  [some (.iload_n 3, 0, 0), some (.iaload, 0, 0), some (.ifCond .eq 23, 41, 0), none, none, some (.iload_n 2, 0, 0), some (.aload_n 0, 0, 0), some (.getfield 9, 905, 166), none, none, some (.iload_n 3, 0, 0), some (.iaload, 0, 0), some (.aload_n 0, 0, 0), some (.aload_n 0, 0, 0), some (.iload_n 3, 0, 0), some (.iload_n 1, 0, 0)],
  [some (.invokevirtual 63, 59, 601), none, none, some (.invokevirtual 67, 60, 605), none, none, some (.imul, 0, 0), some (.iadd, 0, 0), some (.istore_n 2, 0, 0), some (.iinc 3 1, 0, 0), none, none, some (.goto (-40), 4, 0), none, none, some (.iconst 0, 0, 0)],
  [some (.istore_n 3, 0, 0), some (.iload_n 3, 0, 0), some (.aload_n 0, 0, 0), some (.getfield 49, 904, 161), none, none, some (.if_icmp .ge 44, 98, 0), none, none, some (.aload_n 0, 0, 0), some (.getfield 24, 909, 182), none, none, some (.iload_n 3, 0, 0), some (.iaload, 0, 0), some (.iconst 1, 0, 0)],
  [some (.if_icmp .ne 28, 92, 0), none, none, some (.iload_n 2, 0, 0), some (.aload_n 0, 0, 0), some (.getfield 18, 907, 174), none, none, some (.iload_n 3, 0, 0), some (.iaload, 0, 0), some (.aload_n 0, 0, 0), some (.aload_n 0, 0, 0), some (.aload_n 0, 0, 0), some (.getfield 27, 910, 188), none, none],
  [some (.iload_n 3, 0, 0), some (.iaload, 0, 0), some (.iload_n 1, 0, 0), some (.invokevirtual 63, 59, 601), none, none, some (.invokevirtual 67, 60, 605), none, none, some (.imul, 0, 0), some (.iadd, 0, 0), some (.istore_n 2, 0, 0), some (.iinc 3 1, 0, 0), none, none, some (.goto (-46), 49, 0)],
  [none, none, some (.iload_n 2, 0, 0), some (.ireturn, 0, 0)]]
/-- WheelRide$Wheel.placeFrom(II)I -/
def am_c59 : List (List (Option am_E)) := [[some (.iload_n 1, 0, 0), some (.iload_n 2, 0, 0), some (.if_icmp .lt 9, 11, 0), none, none, some (.iload_n 1, 0, 0), some (.iload_n 2, 0, 0), some (.isub, 0, 0), some (.goto 11, 19, 0), none, none, some (.iload_n 1, 0, 0), some (.iload_n 2, 0, 0), some (.isub, 0, 0), some (.aload_n 0, 0, 0), some (.getfield 36, 900, 146)],
  [none, none, some (.iadd, 0, 0), some (.ireturn, 0, 0)]]
/-- WheelRide$Wheel.pullOf(I)I -/
def am_c60 : List (List (Option am_E)) := [[some (.iconst 2, 0, 0), some (.iload_n 1, 0, 0), some (.imul, 0, 0), some (.aload_n 0, 0, 0), some (.getfield 36, 900, 146), none, none, some (.if_icmp .gt 7, 14, 0), none, none, some (.iload_n 1, 0, 0), some (.goto 9, 20, 0), none, none, some (.aload_n 0, 0, 0), some (.getfield 36, 900, 146)],
  [none, none, some (.iload_n 1, 0, 0), some (.isub, 0, 0), some (.istore_n 2, 0, 0), some (.iload_n 2, 0, 0), some (.aload_n 0, 0, 0), some (.getfield 36, 900, 146), none, none, some (.iconst 2, 0, 0), some (.iload_n 1, 0, 0), some (.imul, 0, 0), some (.isub, 0, 0), some (.imul, 0, 0), some (.ireturn, 0, 0)]]
/-- java/lang/Math.abs(I)I -/
def am_c61 : List (List (Option am_E)) := [[some (.iload_n 0, 0, 0), some (.ifCond .ge 8, 9, 0), none, none, some (.iload_n 0, 0, 0), some (.ineg, 0, 0), some (.goto 4, 10, 0), none, none, some (.iload_n 0, 0, 0), some (.ireturn, 0, 0)]]
/-- WheelRide$Wheel.letIn([I)V -/
def am_c62 : List (List (Option am_E)) := [[some (.aload_n 0, 0, 0), some (.aload_n 0, 0, 0), some (.getfield 43, 902, 154), none, none, some (.invokevirtual 90, 55, 584), none, none, some (.ldc 62, 5, 588), none, some (.if_icmp .eq 4, 14, 0), none, none, some (.return_, 0, 0), some (.iconst 0, 0, 0), some (.istore_n 2, 0, 0)],
  [some (.iload_n 2, 0, 0), some (.aload_n 1, 0, 0), some (.arraylength, 0, 0), some (.if_icmp .ge 55, 74, 0), none, none, some (.aload_n 1, 0, 0), some (.iload_n 2, 0, 0), some (.iaload, 0, 0), some (.istore_n 3, 0, 0), some (.aload_n 0, 0, 0), some (.iload_n 3, 0, 0), some (.invokevirtual 103, 63, 616), none, none, some (.ifCond .eq 37, 68, 0)],
  [none, none, some (.aload_n 0, 0, 0), some (.getfield 24, 909, 182), none, none, some (.iload_n 3, 0, 0), some (.iaload, 0, 0), some (.ifCond .ne 28, 68, 0), none, none, some (.aload_n 0, 0, 0), some (.getfield 24, 909, 182), none, none, some (.iload_n 3, 0, 0)],
  [some (.iconst 1, 0, 0), some (.iastore, 0, 0), some (.aload_n 0, 0, 0), some (.getfield 27, 910, 188), none, none, some (.iload_n 3, 0, 0), some (.aload_n 0, 0, 0), some (.getfield 43, 902, 154), none, none, some (.iastore, 0, 0), some (.aload_n 0, 0, 0), some (.getfield 30, 911, 189), none, none],
  [some (.iload_n 3, 0, 0), some (.iconst 0, 0, 0), some (.iastore, 0, 0), some (.return_, 0, 0), some (.iinc 2 1, 0, 0), none, none, some (.goto (-55), 16, 0), none, none, some (.return_, 0, 0)]]
/-- WheelRide$Wheel.hasParty(I)Z -/
def am_c63 : List (List (Option am_E)) := [[some (.iload_n 1, 0, 0), some (.ifCond .lt 15, 16, 0), none, none, some (.iload_n 1, 0, 0), some (.aload_n 0, 0, 0), some (.getfield 49, 904, 161), none, none, some (.if_icmp .ge 7, 16, 0), none, none, some (.iconst 1, 0, 0), some (.goto 4, 17, 0), none, none],
  [some (.iconst 0, 0, 0), some (.ireturn, 0, 0)]]
/-- WheelRide$Wheel.waitOn()V -/
def am_c64 : List (List (Option am_E)) := [[some (.iconst 0, 0, 0), some (.istore_n 1, 0, 0), some (.iload_n 1, 0, 0), some (.aload_n 0, 0, 0), some (.getfield 49, 904, 161), none, none, some (.if_icmp .ge 43, 50, 0), none, none, some (.aload_n 0, 0, 0), some (.getfield 24, 909, 182), none, none, some (.iload_n 1, 0, 0), some (.iaload, 0, 0)],
  [some (.ifCond .ne 28, 44, 0), none, none, some (.aload_n 0, 0, 0), some (.getfield 33, 912, 193), none, none, some (.iload_n 1, 0, 0), some (.dup2, 0, 0), some (.iaload, 0, 0), some (.iconst 1, 0, 0), some (.iadd, 0, 0), some (.iastore, 0, 0), some (.aload_n 0, 0, 0), some (.iload_n 1, 0, 0), some (.invokevirtual 106, 65, 624)],
  [none, none, some (.ifCond .eq 10, 44, 0), none, none, some (.aload_n 0, 0, 0), some (.getfield 24, 909, 182), none, none, some (.iload_n 1, 0, 0), some (.iconst 3, 0, 0), some (.iastore, 0, 0), some (.iinc 1 1, 0, 0), none, none, some (.goto (-45), 2, 0)],
  [none, none, some (.return_, 0, 0)]]
/-- WheelRide$Wheel.hasLostPatience(I)Z -/
def am_c65 : List (List (Option am_E)) := [[some (.aload_n 0, 0, 0), some (.getfield 15, 906, 170), none, none, some (.iload_n 1, 0, 0), some (.iaload, 0, 0), some (.lookupswitch 58 #[(4, 26), (5, 42)], 0, 0), none, none, none, none, none, none, none, none, none],
  [none, none, none, none, none, none, none, none, none, none, none, none, none, none, none, none],
  [some (.aload_n 0, 0, 0), some (.getfield 33, 912, 193), none, none, some (.iload_n 1, 0, 0), some (.iaload, 0, 0), some (.iconst 5, 0, 0), some (.if_icmp .lt 7, 46, 0), none, none, some (.iconst 1, 0, 0), some (.goto 4, 47, 0), none, none, some (.iconst 0, 0, 0), some (.ireturn, 0, 0)],
  [some (.aload_n 0, 0, 0), some (.getfield 33, 912, 193), none, none, some (.iload_n 1, 0, 0), some (.iaload, 0, 0), some (.iconst 2, 0, 0), some (.if_icmp .lt 7, 62, 0), none, none, some (.iconst 1, 0, 0), some (.goto 4, 63, 0), none, none, some (.iconst 0, 0, 0), some (.ireturn, 0, 0)],
  [some (.iconst 0, 0, 0), some (.ireturn, 0, 0)]]
/-- WheelRide$Wheel.turn()Z -/
def am_c66 : List (List (Option am_E)) := [[some (.aload_n 0, 0, 0), some (.invokevirtual 109, 67, 632), none, none, some (.istore_n 1, 0, 0), some (.aload_n 0, 0, 0), some (.aload_n 0, 0, 0), some (.iload_n 1, 0, 0), some (.invokevirtual 100, 58, 597), none, none, some (.invokevirtual 113, 68, 636), none, none, some (.ifCond .ne 5, 19, 0), none],
  [none, some (.iconst 0, 0, 0), some (.ireturn, 0, 0), some (.aload_n 0, 0, 0), some (.iload_n 1, 0, 0), some (.putfield 43, 902, 154), none, none, some (.aload_n 0, 0, 0), some (.iload_n 1, 0, 0), some (.invokevirtual 90, 55, 584), none, none, some (.istore_n 2, 0, 0), some (.iload_n 2, 0, 0), some (.ldc 62, 5, 588)],
  [none, some (.if_icmp .eq 24, 57, 0), none, none, some (.aload_n 0, 0, 0), some (.getfield 30, 911, 189), none, none, some (.iload_n 2, 0, 0), some (.iaload, 0, 0), some (.bipush 99, 0, 0), none, some (.if_icmp .ge 13, 57, 0), none, none, some (.aload_n 0, 0, 0)],
  [some (.getfield 30, 911, 189), none, none, some (.iload_n 2, 0, 0), some (.dup2, 0, 0), some (.iaload, 0, 0), some (.iconst 1, 0, 0), some (.iadd, 0, 0), some (.iastore, 0, 0), some (.iconst 1, 0, 0), some (.ireturn, 0, 0)]]
/-- WheelRide$Wheel.nextOfBottom()I -/
def am_c67 : List (List (Option am_E)) := [[some (.aload_n 0, 0, 0), some (.getfield 43, 902, 154), none, none, some (.iconst 1, 0, 0), some (.iadd, 0, 0), some (.aload_n 0, 0, 0), some (.getfield 36, 900, 146), none, none, some (.if_icmp .ge 12, 22, 0), none, none, some (.aload_n 0, 0, 0), some (.getfield 43, 902, 154), none],
  [none, some (.iconst 1, 0, 0), some (.iadd, 0, 0), some (.goto 4, 23, 0), none, none, some (.iconst 0, 0, 0), some (.ireturn, 0, 0)]]
/-- WheelRide$Wheel.isInBalanceBy(I)Z -/
def am_c68 : List (List (Option am_E)) := [[some (.iload_n 1, 0, 0), some (.invokestatic 71, 61, 609), none, none, some (.bipush 10, 0, 0), none, some (.aload_n 0, 0, 0), some (.getfield 40, 901, 150), none, none, some (.imul, 0, 0), some (.if_icmp .gt 7, 18, 0), none, none, some (.iconst 1, 0, 0), some (.goto 4, 19, 0)],
  [none, none, some (.iconst 0, 0, 0), some (.ireturn, 0, 0)]]
/-- WheelRide.turnTo(I)I -/
def am_c69 : List (List (Option am_E)) := [[some (.aload_n 0, 0, 0), some (.getfield 26, 1002, 362), none, none, some (.iload_n 1, 0, 0), some (.invokevirtual 187, 70, 645), none, none, some (.ifCond .ne 6, 14, 0), none, none, some (.ldc 90, 4, 407), none, some (.ireturn, 0, 0), some (.iload_n 1, 0, 0), some (.aload_n 0, 0, 0)],
  [some (.getfield 26, 1002, 362), none, none, some (.getfield 190, 902, 157), none, none, some (.if_icmp .ne 6, 28, 0), none, none, some (.ldc 159, 3, 551), none, some (.ireturn, 0, 0), some (.aload_n 0, 0, 0), some (.invokevirtual 173, 51, 566), none, none],
  [some (.aload_n 0, 0, 0), some (.getfield 26, 1002, 362), none, none, some (.getfield 190, 902, 157), none, none, some (.istore_n 2, 0, 0), some (.aload_n 0, 0, 0), some (.getfield 26, 1002, 362), none, none, some (.iload_n 1, 0, 0), some (.putfield 190, 902, 157), none, none],
  [some (.iload_n 2, 0, 0), some (.ireturn, 0, 0)]]
/-- WheelRide$Wheel.hasGondola(I)Z -/
def am_c70 : List (List (Option am_E)) := [[some (.iload_n 1, 0, 0), some (.ifCond .lt 15, 16, 0), none, none, some (.iload_n 1, 0, 0), some (.aload_n 0, 0, 0), some (.getfield 36, 900, 146), none, none, some (.if_icmp .ge 7, 16, 0), none, none, some (.iconst 1, 0, 0), some (.goto 4, 17, 0), none, none],
  [some (.iconst 0, 0, 0), some (.ireturn, 0, 0)]]
/-- WheelRide.ballast(II)I -/
def am_c71 : List (List (Option am_E)) := [[some (.aload_n 0, 0, 0), some (.getfield 26, 1002, 362), none, none, some (.iload_n 1, 0, 0), some (.invokevirtual 187, 70, 645), none, none, some (.ifCond .eq 13, 21, 0), none, none, some (.iload_n 2, 0, 0), some (.iconst 0, 0, 0), some (.bipush 9, 0, 0), none, some (.invokestatic 167, 35, 565)],
  [none, none, some (.ifCond .eq 6, 24, 0), none, none, some (.ldc 90, 4, 407), none, some (.ireturn, 0, 0), some (.aload_n 0, 0, 0), some (.invokevirtual 173, 51, 566), none, none, some (.aload_n 0, 0, 0), some (.getfield 26, 1002, 362), none, none],
  [some (.getfield 193, 905, 169), none, none, some (.iload_n 1, 0, 0), some (.iaload, 0, 0), some (.istore_n 3, 0, 0), some (.aload_n 0, 0, 0), some (.getfield 26, 1002, 362), none, none, some (.getfield 193, 905, 169), none, none, some (.iload_n 1, 0, 0), some (.iload_n 2, 0, 0), some (.iastore, 0, 0)],
  [some (.iload_n 3, 0, 0), some (.ireturn, 0, 0)]]
/-- WheelRide.limit(I)I -/
def am_c72 : List (List (Option am_E)) := [[some (.aload_n 0, 0, 0), some (.getfield 26, 1002, 362), none, none, some (.invokevirtual 163, 50, 561), none, none, some (.ifCond .ne 6, 13, 0), none, none, some (.ldc 159, 3, 551), none, some (.ireturn, 0, 0), some (.iload_n 1, 0, 0), some (.iconst 1, 0, 0), some (.bipush 99, 0, 0)],
  [none, some (.invokestatic 167, 35, 565), none, none, some (.ifCond .eq 6, 26, 0), none, none, some (.ldc 90, 4, 407), none, some (.ireturn, 0, 0), some (.aload_n 0, 0, 0), some (.invokevirtual 173, 51, 566), none, none, some (.aload_n 0, 0, 0), some (.getfield 26, 1002, 362)],
  [none, none, some (.getfield 196, 901, 153), none, none, some (.istore_n 2, 0, 0), some (.aload_n 0, 0, 0), some (.getfield 26, 1002, 362), none, none, some (.iload_n 1, 0, 0), some (.putfield 196, 901, 153), none, none, some (.iload_n 2, 0, 0), some (.ireturn, 0, 0)]]
/-- WheelRide.again(I)I -/
def am_c73 : List (List (Option am_E)) := [[some (.aload_n 0, 0, 0), some (.getfield 26, 1002, 362), none, none, some (.iload_n 1, 0, 0), some (.invokevirtual 199, 63, 661), none, none, some (.ifCond .ne 6, 14, 0), none, none, some (.ldc 90, 4, 407), none, some (.ireturn, 0, 0), some (.aload_n 0, 0, 0), some (.getfield 26, 1002, 362)],
  [none, none, some (.iload_n 1, 0, 0), some (.invokevirtual 202, 74, 662), none, none, some (.ifCond .ne 6, 28, 0), none, none, some (.ldc 159, 3, 551), none, some (.ireturn, 0, 0), some (.aload_n 0, 0, 0), some (.invokevirtual 173, 51, 566), none, none],
  [some (.aload_n 0, 0, 0), some (.getfield 26, 1002, 362), none, none, some (.iload_n 1, 0, 0), some (.invokevirtual 205, 41, 666), none, none, some (.aload_n 0, 0, 0), some (.getfield 26, 1002, 362), none, none, some (.iconst 0, 0, 0), some (.invokevirtual 184, 57, 640), none, none],
  [some (.ireturn, 0, 0)]]
/-- WheelRide$Wheel.hasLeft(I)Z -/
def am_c74 : List (List (Option am_E)) := [[some (.aload_n 0, 0, 0), some (.getfield 24, 909, 182), none, none, some (.iload_n 1, 0, 0), some (.iaload, 0, 0), some (.iconst 2, 0, 0), some (.if_icmp .eq 13, 20, 0), none, none, some (.aload_n 0, 0, 0), some (.getfield 24, 909, 182), none, none, some (.iload_n 1, 0, 0), some (.iaload, 0, 0)],
  [some (.iconst 3, 0, 0), some (.if_icmp .ne 7, 24, 0), none, none, some (.iconst 1, 0, 0), some (.goto 4, 25, 0), none, none, some (.iconst 0, 0, 0), some (.ireturn, 0, 0)]]
/-- WheelRide.party(II)I -/
def am_c75 : List (List (Option am_E)) := [[some (.aload_n 0, 0, 0), some (.getfield 26, 1002, 362), none, none, some (.iload_n 1, 0, 0), some (.invokevirtual 199, 63, 661), none, none, some (.ifCond .ne 6, 14, 0), none, none, some (.ldc 90, 4, 407), none, some (.ireturn, 0, 0), some (.iload_n 2, 0, 0), some (.tableswitch 96 0 5 #[37, 47, 56, 66, 76, 86], 0, 0)],
  [none, none, none, none, none, none, none, none, none, none, none, none, none, none, none, none],
  [none, none, none, none, none, none, none, none, none, none, none, none, none, none, none, none],
  [none, none, none, none, some (.aload_n 0, 0, 0), some (.getfield 26, 1002, 362), none, none, some (.getfield 209, 909, 187), none, none, some (.iload_n 1, 0, 0), some (.iaload, 0, 0), some (.ireturn, 0, 0), some (.aload_n 0, 0, 0), some (.getfield 26, 1002, 362)],
  [none, none, some (.iload_n 1, 0, 0), some (.invokevirtual 212, 76, 671), none, none, some (.ireturn, 0, 0), some (.aload_n 0, 0, 0), some (.getfield 26, 1002, 362), none, none, some (.getfield 215, 907, 178), none, none, some (.iload_n 1, 0, 0), some (.iaload, 0, 0)],
  [some (.ireturn, 0, 0), some (.aload_n 0, 0, 0), some (.getfield 26, 1002, 362), none, none, some (.getfield 218, 908, 181), none, none, some (.iload_n 1, 0, 0), some (.iaload, 0, 0), some (.ireturn, 0, 0), some (.aload_n 0, 0, 0), some (.getfield 26, 1002, 362), none, none, some (.getfield 221, 911, 192)],
  [none, none, some (.iload_n 1, 0, 0), some (.iaload, 0, 0), some (.ireturn, 0, 0), some (.aload_n 0, 0, 0), some (.getfield 26, 1002, 362), none, none, some (.getfield 224, 912, 194), none, none, some (.iload_n 1, 0, 0), some (.iaload, 0, 0), some (.ireturn, 0, 0), some (.ldc 90, 4, 407)],
  [none, some (.ireturn, 0, 0)]]
/-- WheelRide$Wheel.seatOf(I)I -/
def am_c76 : List (List (Option am_E)) := [[some (.aload_n 0, 0, 0), some (.getfield 24, 909, 182), none, none, some (.iload_n 1, 0, 0), some (.iaload, 0, 0), some (.iconst 1, 0, 0), some (.if_icmp .ne 12, 19, 0), none, none, some (.aload_n 0, 0, 0), some (.getfield 27, 910, 188), none, none, some (.iload_n 1, 0, 0), some (.iaload, 0, 0)],
  [some (.goto 5, 21, 0), none, none, some (.ldc 62, 5, 588), none, some (.ireturn, 0, 0)]]
/-- WheelRide.gondola(II)I -/
def am_c77 : List (List (Option am_E)) := [[some (.aload_n 0, 0, 0), some (.getfield 26, 1002, 362), none, none, some (.iload_n 1, 0, 0), some (.invokevirtual 187, 70, 645), none, none, some (.ifCond .ne 6, 14, 0), none, none, some (.ldc 90, 4, 407), none, some (.ireturn, 0, 0), some (.iload_n 2, 0, 0), some (.tableswitch 73 0 3 #[29, 38, 54, 64], 0, 0)],
  [none, none, none, none, none, none, none, none, none, none, none, none, none, none, none, none],
  [none, none, none, none, none, none, none, none, none, none, none, none, some (.aload_n 0, 0, 0), some (.getfield 26, 1002, 362), none, none],
  [some (.iload_n 1, 0, 0), some (.invokevirtual 227, 78, 679), none, none, some (.ireturn, 0, 0), some (.aload_n 0, 0, 0), some (.getfield 26, 1002, 362), none, none, some (.aload_n 0, 0, 0), some (.getfield 26, 1002, 362), none, none, some (.iload_n 1, 0, 0), some (.invokevirtual 227, 78, 679), none],
  [none, some (.invokevirtual 230, 60, 683), none, none, some (.ireturn, 0, 0), some (.aload_n 0, 0, 0), some (.getfield 26, 1002, 362), none, none, some (.getfield 193, 905, 169), none, none, some (.iload_n 1, 0, 0), some (.iaload, 0, 0), some (.ireturn, 0, 0), some (.aload_n 0, 0, 0)],
  [some (.getfield 26, 1002, 362), none, none, some (.iload_n 1, 0, 0), some (.invokevirtual 233, 55, 684), none, none, some (.ireturn, 0, 0), some (.ldc 90, 4, 407), none, some (.ireturn, 0, 0)]]
/-- WheelRide$Wheel.placeOf(I)I -/
def am_c78 : List (List (Option am_E)) := [[some (.aload_n 0, 0, 0), some (.iload_n 1, 0, 0), some (.aload_n 0, 0, 0), some (.getfield 43, 902, 154), none, none, some (.invokevirtual 63, 59, 601), none, none, some (.ireturn, 0, 0)]]
/-- WheelRide.stand(I)I -/
def am_c79 : List (List (Option am_E)) := [[some (.aload_n 0, 0, 0), some (.getfield 26, 1002, 362), none, none, some (.invokevirtual 163, 50, 561), none, none, some (.ifCond .ne 6, 13, 0), none, none, some (.ldc 159, 3, 551), none, some (.ireturn, 0, 0), some (.iload_n 1, 0, 0), some (.tableswitch 155 0 8 #[50, 58, 66, 74, 89, 119, 128, 137, 146], 0, 0), none],
  [none, none, none, none, none, none, none, none, none, none, none, none, none, none, none, none],
  [none, none, none, none, none, none, none, none, none, none, none, none, none, none, none, none],
  [none, none, none, none, none, none, none, none, none, none, none, none, none, none, none, none],
  [some (.aload_n 0, 0, 0), some (.getfield 26, 1002, 362), none, none, some (.getfield 236, 900, 149), none, none, some (.ireturn, 0, 0), some (.aload_n 0, 0, 0), some (.getfield 26, 1002, 362), none, none, some (.getfield 190, 902, 157), none, none, some (.ireturn, 0, 0)],
  [some (.aload_n 0, 0, 0), some (.getfield 26, 1002, 362), none, none, some (.getfield 196, 901, 153), none, none, some (.ireturn, 0, 0), some (.aload_n 0, 0, 0), some (.getfield 26, 1002, 362), none, none, some (.aload_n 0, 0, 0), some (.getfield 26, 1002, 362), none, none],
  [some (.getfield 190, 902, 157), none, none, some (.invokevirtual 239, 58, 689), none, none, some (.ireturn, 0, 0), some (.aload_n 0, 0, 0), some (.getfield 26, 1002, 362), none, none, some (.aload_n 0, 0, 0), some (.getfield 26, 1002, 362), none, none, some (.aload_n 0, 0, 0)],
  [some (.getfield 26, 1002, 362), none, none, some (.getfield 190, 902, 157), none, none, some (.invokevirtual 239, 58, 689), none, none, some (.invokevirtual 242, 68, 690), none, none, some (.ifCond .eq 7, 131, 0), none, none, some (.iconst 1, 0, 0)],
  [some (.goto 4, 132, 0), none, none, some (.iconst 0, 0, 0), some (.ireturn, 0, 0), some (.aload_n 0, 0, 0), some (.getfield 26, 1002, 362), none, none, some (.iconst 0, 0, 0), some (.invokevirtual 184, 57, 640), none, none, some (.ireturn, 0, 0), some (.aload_n 0, 0, 0), some (.getfield 26, 1002, 362)],
  [none, none, some (.iconst 1, 0, 0), some (.invokevirtual 184, 57, 640), none, none, some (.ireturn, 0, 0), some (.aload_n 0, 0, 0), some (.getfield 26, 1002, 362), none, none, some (.iconst 2, 0, 0), some (.invokevirtual 184, 57, 640), none, none, some (.ireturn, 0, 0)],
  [some (.aload_n 0, 0, 0), some (.getfield 26, 1002, 362), none, none, some (.iconst 3, 0, 0), some (.invokevirtual 184, 57, 640), none, none, some (.ireturn, 0, 0), some (.ldc 90, 4, 407), none, some (.ireturn, 0, 0)]]
/-- WheelRide.ahead(III)I -/
def am_c80 : List (List (Option am_E)) := [[some (.aload_n 0, 0, 0), some (.getfield 26, 1002, 362), none, none, some (.iload_n 1, 0, 0), some (.invokevirtual 199, 63, 661), none, none, some (.ifCond .eq 22, 30, 0), none, none, some (.iload_n 2, 0, 0), some (.iconst 0, 0, 0), some (.bipush 60, 0, 0), none, some (.invokestatic 167, 35, 565)],
  [none, none, some (.ifCond .ne 12, 30, 0), none, none, some (.iload_n 3, 0, 0), some (.iconst 0, 0, 0), some (.iconst 3, 0, 0), some (.invokestatic 167, 35, 565), none, none, some (.ifCond .eq 6, 33, 0), none, none, some (.ldc 90, 4, 407), none],
  [some (.ireturn, 0, 0), some (.aload_n 0, 0, 0), some (.getfield 52, 1006, 366), none, none, some (.iload_n 2, 0, 0), some (.invokevirtual 245, 81, 695), none, none, some (.iload_n 3, 0, 0), some (.tableswitch 55 0 2 #[26, 36, 45], 0, 0), none, none, none, none, none],
  [none, none, none, none, none, none, none, none, none, none, none, none, none, none, none, none],
  [none, none, none, none, some (.aload_n 0, 0, 0), some (.getfield 30, 1003, 363), none, none, some (.getfield 209, 909, 187), none, none, some (.iload_n 1, 0, 0), some (.iaload, 0, 0), some (.ireturn, 0, 0), some (.aload_n 0, 0, 0), some (.getfield 30, 1003, 363)],
  [none, none, some (.iload_n 1, 0, 0), some (.invokevirtual 212, 76, 671), none, none, some (.ireturn, 0, 0), some (.aload_n 0, 0, 0), some (.getfield 30, 1003, 363), none, none, some (.getfield 221, 911, 192), none, none, some (.iload_n 1, 0, 0), some (.iaload, 0, 0)],
  [some (.ireturn, 0, 0), some (.aload_n 0, 0, 0), some (.getfield 30, 1003, 363), none, none, some (.getfield 224, 912, 194), none, none, some (.iload_n 1, 0, 0), some (.iaload, 0, 0), some (.ireturn, 0, 0)]]
/-- WheelRide$Foretold.goOn(I)V -/
def am_c81 : List (List (Option am_E)) := [[some (.aload_n 0, 0, 0), some (.getfield 15, 301, 261), none, none, some (.aload_n 0, 0, 0), some (.getfield 9, 300, 260), none, none, some (.invokevirtual 18, 43, 699), none, none, some (.iconst 0, 0, 0), some (.istore_n 2, 0, 0), some (.iload_n 2, 0, 0), some (.iload_n 1, 0, 0), some (.if_icmp .ge 20, 35, 0)],
  [none, none, some (.aload_n 0, 0, 0), some (.getfield 15, 301, 261), none, none, some (.getstatic 24, 1, 700), none, none, some (.invokevirtual 28, 53, 701), none, none, some (.pop, 0, 0), some (.iinc 2 1, 0, 0), none, none],
  [some (.goto (-19), 13, 0), none, none, some (.return_, 0, 0)]]
/-- WheelRide.leans(I)I -/
def am_c82 : List (List (Option am_E)) := [[some (.aload_n 0, 0, 0), some (.getfield 26, 1002, 362), none, none, some (.invokevirtual 163, 50, 561), none, none, some (.ifCond .ne 6, 13, 0), none, none, some (.ldc 159, 3, 551), none, some (.ireturn, 0, 0), some (.iload_n 1, 0, 0), some (.iconst 0, 0, 0), some (.bipush 60, 0, 0)],
  [none, some (.invokestatic 167, 35, 565), none, none, some (.ifCond .eq 6, 26, 0), none, none, some (.ldc 90, 4, 407), none, some (.ireturn, 0, 0), some (.aload_n 0, 0, 0), some (.getfield 52, 1006, 366), none, none, some (.iload_n 1, 0, 0), some (.invokevirtual 245, 81, 695)],
  [none, none, some (.aload_n 0, 0, 0), some (.getfield 30, 1003, 363), none, none, some (.aload_n 0, 0, 0), some (.getfield 30, 1003, 363), none, none, some (.getfield 190, 902, 157), none, none, some (.invokevirtual 239, 58, 689), none, none],
  [some (.ireturn, 0, 0)]]
/-- WheelRide.when(II)I -/
def am_c83 : List (List (Option am_E)) := [[some (.aload_n 0, 0, 0), some (.getfield 26, 1002, 362), none, none, some (.iload_n 1, 0, 0), some (.invokevirtual 199, 63, 661), none, none, some (.ifCond .eq 12, 20, 0), none, none, some (.iload_n 2, 0, 0), some (.iconst 1, 0, 0), some (.iconst 3, 0, 0), some (.invokestatic 167, 35, 565), none],
  [none, some (.ifCond .eq 6, 23, 0), none, none, some (.ldc 90, 4, 407), none, some (.ireturn, 0, 0), some (.aload_n 0, 0, 0), some (.getfield 52, 1006, 366), none, none, some (.iload_n 1, 0, 0), some (.iload_n 2, 0, 0), some (.invokevirtual 248, 84, 710), none, none],
  [some (.ireturn, 0, 0)]]
/-- WheelRide$Foretold.whenIs(II)I -/
def am_c84 : List (List (Option am_E)) := [[some (.aload_n 0, 0, 0), some (.getfield 15, 301, 261), none, none, some (.aload_n 0, 0, 0), some (.getfield 9, 300, 260), none, none, some (.invokevirtual 18, 43, 699), none, none, some (.iconst 0, 0, 0), some (.istore_n 3, 0, 0), some (.iload_n 3, 0, 0), some (.bipush 60, 0, 0), none],
  [some (.if_icmp .gt 35, 51, 0), none, none, some (.aload_n 0, 0, 0), some (.getfield 15, 301, 261), none, none, some (.getfield 32, 909, 183), none, none, some (.iload_n 1, 0, 0), some (.iaload, 0, 0), some (.iload_n 2, 0, 0), some (.if_icmp .ne 5, 34, 0), none, none],
  [some (.iload_n 3, 0, 0), some (.ireturn, 0, 0), some (.aload_n 0, 0, 0), some (.getfield 15, 301, 261), none, none, some (.getstatic 24, 1, 700), none, none, some (.invokevirtual 28, 53, 701), none, none, some (.pop, 0, 0), some (.iinc 3 1, 0, 0), none, none],
  [some (.goto (-35), 13, 0), none, none, some (.ldc 35, 5, 714), none, some (.ireturn, 0, 0)]]
/-- WheelRide.first(I)I -/
def am_c85 : List (List (Option am_E)) := [[some (.aload_n 0, 0, 0), some (.getfield 26, 1002, 362), none, none, some (.invokevirtual 163, 50, 561), none, none, some (.ifCond .ne 6, 13, 0), none, none, some (.ldc 159, 3, 551), none, some (.ireturn, 0, 0), some (.iload_n 1, 0, 0), some (.iconst 0, 0, 0), some (.iconst 1, 0, 0)],
  [some (.invokestatic 167, 35, 565), none, none, some (.ifCond .eq 6, 25, 0), none, none, some (.ldc 90, 4, 407), none, some (.ireturn, 0, 0), some (.iload_n 1, 0, 0), some (.ifCond .ne 13, 39, 0), none, none, some (.aload_n 0, 0, 0), some (.getfield 52, 1006, 366), none],
  [none, some (.invokevirtual 252, 86, 719), none, none, some (.goto 10, 46, 0), none, none, some (.aload_n 0, 0, 0), some (.getfield 52, 1006, 366), none, none, some (.invokevirtual 256, 87, 723), none, none, some (.ireturn, 0, 0)]]
/-- WheelRide$Foretold.firstStuck()I -/
def am_c86 : List (List (Option am_E)) := [[some (.aload_n 0, 0, 0), some (.getfield 15, 301, 261), none, none, some (.aload_n 0, 0, 0), some (.getfield 9, 300, 260), none, none, some (.invokevirtual 18, 43, 699), none, none, some (.iconst 1, 0, 0), some (.istore_n 1, 0, 0), some (.iload_n 1, 0, 0), some (.bipush 60, 0, 0), none],
  [some (.if_icmp .gt 24, 40, 0), none, none, some (.aload_n 0, 0, 0), some (.getfield 15, 301, 261), none, none, some (.getstatic 24, 1, 700), none, none, some (.invokevirtual 28, 53, 701), none, none, some (.ifCond .ne 5, 34, 0), none, none],
  [some (.iload_n 1, 0, 0), some (.ireturn, 0, 0), some (.iinc 1 1, 0, 0), none, none, some (.goto (-24), 13, 0), none, none, some (.ldc 35, 5, 714), none, some (.ireturn, 0, 0)]]
/-- WheelRide$Foretold.whenOver()I -/
def am_c87 : List (List (Option am_E)) := [[some (.aload_n 0, 0, 0), some (.getfield 15, 301, 261), none, none, some (.aload_n 0, 0, 0), some (.getfield 9, 300, 260), none, none, some (.invokevirtual 18, 43, 699), none, none, some (.iconst 0, 0, 0), some (.istore_n 1, 0, 0), some (.iload_n 1, 0, 0), some (.bipush 60, 0, 0), none],
  [some (.if_icmp .gt 44, 60, 0), none, none, some (.aload_n 0, 0, 0), some (.getfield 15, 301, 261), none, none, some (.iconst 0, 0, 0), some (.invokevirtual 36, 57, 727), none, none, some (.ifCond .ne 16, 43, 0), none, none, some (.aload_n 0, 0, 0), some (.getfield 15, 301, 261)],
  [none, none, some (.iconst 1, 0, 0), some (.invokevirtual 36, 57, 727), none, none, some (.ifCond .ne 5, 43, 0), none, none, some (.iload_n 1, 0, 0), some (.ireturn, 0, 0), some (.aload_n 0, 0, 0), some (.getfield 15, 301, 261), none, none, some (.getstatic 24, 1, 700)],
  [none, none, some (.invokevirtual 28, 53, 701), none, none, some (.pop, 0, 0), some (.iinc 1 1, 0, 0), none, none, some (.goto (-44), 13, 0), none, none, some (.ldc 35, 5, 714), none, some (.ireturn, 0, 0)]]
/-- WheelRide.order(II)I -/
def am_c88 : List (List (Option am_E)) := [[some (.aload_n 0, 0, 0), some (.getfield 26, 1002, 362), none, none, some (.invokevirtual 163, 50, 561), none, none, some (.ifCond .ne 6, 13, 0), none, none, some (.ldc 159, 3, 551), none, some (.ireturn, 0, 0), some (.iload_n 1, 0, 0), some (.iconst 1, 0, 0), some (.bipush 40, 0, 0)],
  [none, some (.invokestatic 167, 35, 565), none, none, some (.ifCond .ne 8, 28, 0), none, none, some (.iload_n 2, 0, 0), some (.iconst (-1), 0, 0), some (.if_icmp .ge 6, 31, 0), none, none, some (.ldc 90, 4, 407), none, some (.ireturn, 0, 0), some (.aload_n 0, 0, 0)],
  [some (.getfield 59, 1007, 367), none, none, some (.iload_n 1, 0, 0), some (.invokevirtual 259, 89, 732), none, none, some (.iload_n 2, 0, 0), some (.iconst (-1), 0, 0), some (.if_icmp .ne 11, 52, 0), none, none, some (.aload_n 0, 0, 0), some (.getfield 59, 1007, 367), none, none],
  [some (.getfield 262, 606, 281), none, none, some (.ireturn, 0, 0), some (.aload_n 0, 0, 0), some (.getfield 26, 1002, 362), none, none, some (.iload_n 2, 0, 0), some (.invokevirtual 199, 63, 661), none, none, some (.ifCond .eq 15, 75, 0), none, none, some (.aload_n 0, 0, 0)],
  [some (.getfield 59, 1007, 367), none, none, some (.getfield 265, 605, 279), none, none, some (.iload_n 2, 0, 0), some (.iaload, 0, 0), some (.goto 6, 78, 0), none, none, some (.ldc_w 268, 5, 767), none, none, some (.ireturn, 0, 0)]]
/-- WheelRide$Planner.findOrder(I)V -/
def am_c89 : List (List (Option am_E)) := [[some (.aload_n 0, 0, 0), some (.getfield 25, 603, 276), none, none, some (.iload_n 1, 0, 0), some (.if_icmp .ne 4, 9, 0), none, none, some (.return_, 0, 0), some (.aload_n 0, 0, 0), some (.iload_n 1, 0, 0), some (.putfield 25, 603, 276), none, none, some (.aload_n 0, 0, 0), some (.iconst (-1), 0, 0)],
  [some (.putfield 29, 606, 280), none, none, some (.aload_n 0, 0, 0), some (.iconst (-1), 0, 0), some (.putfield 32, 604, 277), none, none, some (.getstatic 35, 1, 736), none, none, some (.iconst 0, 0, 0), some (.aload_n 0, 0, 0), some (.getfield 9, 602, 275), none, none],
  [some (.iconst 0, 0, 0), some (.bipush 6, 0, 0), none, some (.invokestatic 38, 1003, 737), none, none, some (.iconst 1, 0, 0), some (.istore_n 2, 0, 0), some (.iconst 0, 0, 0), some (.istore_n 3, 0, 0), some (.iload_n 3, 0, 0), some (.sipush 720, 0, 0), none, none, some (.if_icmp .ge 30, 76, 0), none],
  [none, some (.iload_n 2, 0, 0), some (.ifCond .eq 26, 76, 0), none, none, some (.aload_n 0, 0, 0), some (.invokevirtual 44, 90, 738), none, none, some (.ifCond .eq 8, 65, 0), none, none, some (.aload_n 0, 0, 0), some (.iload_n 1, 0, 0), some (.invokevirtual 48, 91, 742), none],
  [none, some (.aload_n 0, 0, 0), some (.invokevirtual 52, 94, 759), none, none, some (.istore_n 2, 0, 0), some (.iinc 3 1, 0, 0), none, none, some (.goto (-31), 42, 0), none, none, some (.return_, 0, 0)]]
/-- WheelRide$Planner.isFirstOfItsLike()Z -/
def am_c90 : List (List (Option am_E)) := [[some (.iconst 0, 0, 0), some (.istore_n 1, 0, 0), some (.iload_n 1, 0, 0), some (.iconst 1, 0, 0), some (.iadd, 0, 0), some (.aload_n 0, 0, 0), some (.getfield 18, 600, 273), none, none, some (.getfield 55, 904, 162), none, none, some (.if_icmp .ge 56, 68, 0), none, none, some (.aload_n 0, 0, 0)],
  [some (.getfield 9, 602, 275), none, none, some (.iload_n 1, 0, 0), some (.iaload, 0, 0), some (.istore_n 2, 0, 0), some (.aload_n 0, 0, 0), some (.getfield 9, 602, 275), none, none, some (.iload_n 1, 0, 0), some (.iconst 1, 0, 0), some (.iadd, 0, 0), some (.iaload, 0, 0), some (.istore_n 3, 0, 0), some (.iload_n 2, 0, 0)],
  [some (.iload_n 3, 0, 0), some (.if_icmp .le 29, 62, 0), none, none, some (.aload_n 0, 0, 0), some (.getfield 18, 600, 273), none, none, some (.getfield 60, 909, 184), none, none, some (.iload_n 2, 0, 0), some (.iaload, 0, 0), some (.ifCond .ne 15, 60, 0), none, none],
  [some (.aload_n 0, 0, 0), some (.getfield 18, 600, 273), none, none, some (.getfield 60, 909, 184), none, none, some (.iload_n 3, 0, 0), some (.iaload, 0, 0), some (.ifCond .eq 5, 62, 0), none, none, some (.iconst 0, 0, 0), some (.ireturn, 0, 0), some (.iinc 1 1, 0, 0), none],
  [none, some (.goto (-63), 2, 0), none, none, some (.iconst 1, 0, 0), some (.ireturn, 0, 0)]]
/-- WheelRide$Planner.tryRank(I)V -/
def am_c91 : List (List (Option am_E)) := [[some (.aload_n 0, 0, 0), some (.getfield 22, 601, 274), none, none, some (.aload_n 0, 0, 0), some (.getfield 18, 600, 273), none, none, some (.invokevirtual 63, 43, 746), none, none, some (.iconst 0, 0, 0), some (.istore_n 2, 0, 0), some (.iload_n 2, 0, 0), some (.iload_n 1, 0, 0), some (.if_icmp .ge 21, 36, 0)],
  [none, none, some (.aload_n 0, 0, 0), some (.getfield 22, 601, 274), none, none, some (.aload_n 0, 0, 0), some (.getfield 9, 602, 275), none, none, some (.invokevirtual 67, 53, 747), none, none, some (.pop, 0, 0), some (.iinc 2 1, 0, 0), none],
  [none, some (.goto (-20), 13, 0), none, none, some (.aload_n 0, 0, 0), some (.getfield 22, 601, 274), none, none, some (.iconst 2, 0, 0), some (.invokevirtual 71, 57, 748), none, none, some (.invokestatic 75, 92, 749), none, none, some (.istore_n 2, 0, 0)],
  [some (.aload_n 0, 0, 0), some (.getfield 22, 601, 274), none, none, some (.invokevirtual 80, 93, 755), none, none, some (.istore_n 3, 0, 0), some (.iload_n 2, 0, 0), some (.aload_n 0, 0, 0), some (.getfield 29, 606, 280), none, none, some (.if_icmp .gt 19, 80, 0), none, none],
  [some (.iload_n 2, 0, 0), some (.aload_n 0, 0, 0), some (.getfield 29, 606, 280), none, none, some (.if_icmp .ne 36, 105, 0), none, none, some (.iload_n 3, 0, 0), some (.aload_n 0, 0, 0), some (.getfield 32, 604, 277), none, none, some (.if_icmp .le 28, 105, 0), none, none],
  [some (.aload_n 0, 0, 0), some (.iload_n 2, 0, 0), some (.putfield 29, 606, 280), none, none, some (.aload_n 0, 0, 0), some (.iload_n 3, 0, 0), some (.putfield 32, 604, 277), none, none, some (.aload_n 0, 0, 0), some (.getfield 9, 602, 275), none, none, some (.iconst 0, 0, 0), some (.aload_n 0, 0, 0)],
  [some (.getfield 15, 605, 278), none, none, some (.iconst 0, 0, 0), some (.bipush 6, 0, 0), none, some (.invokestatic 38, 1003, 737), none, none, some (.return_, 0, 0)]]
/-- java/lang/Integer.bitCount(I)I -/
def am_c92 : List (List (Option am_E)) := [[some (.iload_n 0, 0, 0), some (.iload_n 0, 0, 0), some (.iconst 1, 0, 0), some (.iushr, 0, 0), some (.ldc_w 265, 9, 752), none, none, some (.iand, 0, 0), some (.isub, 0, 0), some (.istore_n 0, 0, 0), some (.iload_n 0, 0, 0), some (.ldc_w 266, 8, 753), none, none, some (.iand, 0, 0), some (.iload_n 0, 0, 0)],
  [some (.iconst 2, 0, 0), some (.iushr, 0, 0), some (.ldc_w 266, 8, 753), none, none, some (.iand, 0, 0), some (.iadd, 0, 0), some (.istore_n 0, 0, 0), some (.iload_n 0, 0, 0), some (.iload_n 0, 0, 0), some (.iconst 4, 0, 0), some (.iushr, 0, 0), some (.iadd, 0, 0), some (.ldc_w 267, 7, 754), none, none],
  [some (.iand, 0, 0), some (.istore_n 0, 0, 0), some (.iload_n 0, 0, 0), some (.iload_n 0, 0, 0), some (.bipush 8, 0, 0), none, some (.iushr, 0, 0), some (.iadd, 0, 0), some (.istore_n 0, 0, 0), some (.iload_n 0, 0, 0), some (.iload_n 0, 0, 0), some (.bipush 16, 0, 0), none, some (.iushr, 0, 0), some (.iadd, 0, 0), some (.istore_n 0, 0, 0)],
  [some (.iload_n 0, 0, 0), some (.bipush 63, 0, 0), none, some (.iand, 0, 0), some (.ireturn, 0, 0)]]
/-- WheelRide$Wheel.riddenOfAll()I -/
def am_c93 : List (List (Option am_E)) := [[some (.iconst 0, 0, 0), some (.istore_n 1, 0, 0), some (.iconst 0, 0, 0), some (.istore_n 2, 0, 0), some (.iload_n 2, 0, 0), some (.aload_n 0, 0, 0), some (.getfield 49, 904, 161), none, none, some (.if_icmp .ge 18, 27, 0), none, none, some (.iload_n 1, 0, 0), some (.aload_n 0, 0, 0), some (.getfield 30, 911, 189), none],
  [none, some (.iload_n 2, 0, 0), some (.iaload, 0, 0), some (.iadd, 0, 0), some (.istore_n 1, 0, 0), some (.iinc 2 1, 0, 0), none, none, some (.goto (-20), 4, 0), none, none, some (.iload_n 1, 0, 0), some (.ireturn, 0, 0)]]
/-- WheelRide$Planner.nextRank()Z -/
def am_c94 : List (List (Option am_E)) := [[some (.aload_n 0, 0, 0), some (.getfield 18, 600, 273), none, none, some (.getfield 55, 904, 162), none, none, some (.iconst 1, 0, 0), some (.isub, 0, 0), some (.istore_n 1, 0, 0), some (.iload_n 1, 0, 0), some (.iconst 1, 0, 0), some (.isub, 0, 0), some (.istore_n 2, 0, 0), some (.iload_n 2, 0, 0), some (.ifCond .lt 26, 41, 0)],
  [none, none, some (.aload_n 0, 0, 0), some (.getfield 9, 602, 275), none, none, some (.iload_n 2, 0, 0), some (.iaload, 0, 0), some (.aload_n 0, 0, 0), some (.getfield 9, 602, 275), none, none, some (.iload_n 2, 0, 0), some (.iconst 1, 0, 0), some (.iadd, 0, 0), some (.iaload, 0, 0)],
  [some (.if_icmp .le 9, 41, 0), none, none, some (.iinc 2 (-1), 0, 0), none, none, some (.goto (-24), 14, 0), none, none, some (.iload_n 2, 0, 0), some (.ifCond .ge 5, 47, 0), none, none, some (.iconst 0, 0, 0), some (.ireturn, 0, 0), some (.iload_n 1, 0, 0)],
  [some (.istore_n 3, 0, 0), some (.iload_n 3, 0, 0), some (.iload_n 2, 0, 0), some (.if_icmp .le 24, 75, 0), none, none, some (.aload_n 0, 0, 0), some (.getfield 9, 602, 275), none, none, some (.iload_n 3, 0, 0), some (.iaload, 0, 0), some (.aload_n 0, 0, 0), some (.getfield 9, 602, 275), none, none],
  [some (.iload_n 2, 0, 0), some (.iaload, 0, 0), some (.if_icmp .ge 9, 75, 0), none, none, some (.iinc 3 (-1), 0, 0), none, none, some (.goto (-23), 49, 0), none, none, some (.aload_n 0, 0, 0), some (.iload_n 2, 0, 0), some (.iload_n 3, 0, 0), some (.invokevirtual 84, 95, 763), none],
  [none, some (.iload_n 2, 0, 0), some (.iconst 1, 0, 0), some (.iadd, 0, 0), some (.istore 4, 0, 0), none, some (.iload_n 1, 0, 0), some (.istore 5, 0, 0), none, some (.iload 4, 0, 0), none, some (.iload 5, 0, 0), none, some (.if_icmp .ge 20, 113, 0), none, none],
  [some (.aload_n 0, 0, 0), some (.iload 4, 0, 0), none, some (.iload 5, 0, 0), none, some (.invokevirtual 84, 95, 763), none, none, some (.iinc 4 1, 0, 0), none, none, some (.iinc 5 (-1), 0, 0), none, none, some (.goto (-21), 89, 0), none],
  [none, some (.iconst 1, 0, 0), some (.ireturn, 0, 0)]]
/-- WheelRide$Planner.swap(II)V -/
def am_c95 : List (List (Option am_E)) := [[some (.aload_n 0, 0, 0), some (.getfield 9, 602, 275), none, none, some (.iload_n 1, 0, 0), some (.iaload, 0, 0), some (.istore_n 3, 0, 0), some (.aload_n 0, 0, 0), some (.getfield 9, 602, 275), none, none, some (.iload_n 1, 0, 0), some (.aload_n 0, 0, 0), some (.getfield 9, 602, 275), none, none],
  [some (.iload_n 2, 0, 0), some (.iaload, 0, 0), some (.iastore, 0, 0), some (.aload_n 0, 0, 0), some (.getfield 9, 602, 275), none, none, some (.iload_n 2, 0, 0), some (.iload_n 3, 0, 0), some (.iastore, 0, 0), some (.return_, 0, 0)]]
/-- WheelRide.load(II)I -/
def am_c96 : List (List (Option am_E)) := [[some (.aload_n 0, 0, 0), some (.getfield 26, 1002, 362), none, none, some (.invokevirtual 163, 50, 561), none, none, some (.ifCond .ne 6, 13, 0), none, none, some (.ldc 159, 3, 551), none, some (.ireturn, 0, 0), some (.iload_n 1, 0, 0), some (.iconst 1, 0, 0), some (.bipush 40, 0, 0)],
  [none, some (.invokestatic 167, 35, 565), none, none, some (.ifCond .ne 12, 32, 0), none, none, some (.iload_n 2, 0, 0), some (.iconst 0, 0, 0), some (.iconst 1, 0, 0), some (.invokestatic 167, 35, 565), none, none, some (.ifCond .eq 6, 35, 0), none, none],
  [some (.ldc 90, 4, 407), none, some (.ireturn, 0, 0), some (.aload_n 0, 0, 0), some (.getfield 59, 1007, 367), none, none, some (.iload_n 1, 0, 0), some (.invokevirtual 269, 97, 772), none, none, some (.iload_n 2, 0, 0), some (.ifCond .ne 13, 57, 0), none, none, some (.aload_n 0, 0, 0)],
  [some (.getfield 59, 1007, 367), none, none, some (.getfield 272, 607, 283), none, none, some (.goto 10, 64, 0), none, none, some (.aload_n 0, 0, 0), some (.getfield 59, 1007, 367), none, none, some (.getfield 275, 608, 285), none, none],
  [some (.ireturn, 0, 0)]]
/-- WheelRide$Planner.findLoad(I)V -/
def am_c97 : List (List (Option am_E)) := [[some (.aload_n 0, 0, 0), some (.ldc 88, 5, 776), none, some (.putfield 89, 607, 282), none, none, some (.aload_n 0, 0, 0), some (.iload_n 1, 0, 0), some (.iconst 1, 0, 0), some (.iadd, 0, 0), some (.putfield 92, 608, 284), none, none, some (.iconst 0, 0, 0), some (.istore_n 2, 0, 0), some (.iload_n 2, 0, 0)],
  [some (.aload_n 0, 0, 0), some (.getfield 18, 600, 273), none, none, some (.getfield 95, 900, 147), none, none, some (.if_icmp .ge 83, 106, 0), none, none, some (.iconst 1, 0, 0), some (.istore_n 3, 0, 0), some (.iload_n 3, 0, 0), some (.bipush 9, 0, 0), none, some (.if_icmp .gt 69, 100, 0)],
  [none, none, some (.aload_n 0, 0, 0), some (.getfield 22, 601, 274), none, none, some (.aload_n 0, 0, 0), some (.getfield 18, 600, 273), none, none, some (.invokevirtual 63, 43, 746), none, none, some (.aload_n 0, 0, 0), some (.getfield 22, 601, 274), none],
  [none, some (.getfield 98, 905, 168), none, none, some (.iload_n 2, 0, 0), some (.iload_n 3, 0, 0), some (.iastore, 0, 0), some (.aload_n 0, 0, 0), some (.getfield 22, 601, 274), none, none, some (.iload_n 1, 0, 0), some (.aload_n 0, 0, 0), some (.getfield 92, 608, 284), none, none],
  [some (.invokevirtual 101, 98, 777), none, none, some (.istore 4, 0, 0), none, some (.iload 4, 0, 0), none, some (.aload_n 0, 0, 0), some (.getfield 92, 608, 284), none, none, some (.if_icmp .ge 19, 94, 0), none, none, some (.aload_n 0, 0, 0), some (.iload 4, 0, 0)],
  [none, some (.putfield 92, 608, 284), none, none, some (.aload_n 0, 0, 0), some (.bipush 10, 0, 0), none, some (.iload_n 2, 0, 0), some (.imul, 0, 0), some (.iload_n 3, 0, 0), some (.iadd, 0, 0), some (.putfield 89, 607, 282), none, none, some (.iinc 3 1, 0, 0), none],
  [none, some (.goto (-69), 28, 0), none, none, some (.iinc 2 1, 0, 0), none, none, some (.goto (-88), 15, 0), none, none, some (.return_, 0, 0)]]
/-- WheelRide$Wheel.sticksIn(II)I -/
def am_c98 : List (List (Option am_E)) := [[some (.iconst 0, 0, 0), some (.istore_n 3, 0, 0), some (.iconst 0, 0, 0), some (.istore 4, 0, 0), none, some (.iload 4, 0, 0), none, some (.iload_n 1, 0, 0), some (.if_icmp .ge 27, 35, 0), none, none, some (.iload_n 3, 0, 0), some (.iload_n 2, 0, 0), some (.if_icmp .ge 22, 35, 0), none, none],
  [some (.aload_n 0, 0, 0), some (.getstatic 116, 1, 781), none, none, some (.invokevirtual 119, 53, 782), none, none, some (.ifCond .ne 6, 29, 0), none, none, some (.iinc 3 1, 0, 0), none, none, some (.iinc 4 1, 0, 0), none, none],
  [some (.goto (-27), 5, 0), none, none, some (.iload_n 3, 0, 0), some (.ireturn, 0, 0)]]
/-- WheelRide.bear(I)I -/
def am_c99 : List (List (Option am_E)) := [[some (.aload_n 0, 0, 0), some (.getfield 26, 1002, 362), none, none, some (.invokevirtual 163, 50, 561), none, none, some (.ifCond .ne 6, 13, 0), none, none, some (.ldc 159, 3, 551), none, some (.ireturn, 0, 0), some (.iload_n 1, 0, 0), some (.iconst 1, 0, 0), some (.bipush 40, 0, 0)],
  [none, some (.invokestatic 167, 35, 565), none, none, some (.ifCond .eq 6, 26, 0), none, none, some (.ldc 90, 4, 407), none, some (.ireturn, 0, 0), some (.aload_n 0, 0, 0), some (.getfield 59, 1007, 367), none, none, some (.iload_n 1, 0, 0), some (.invokevirtual 278, 100, 787)],
  [none, none, some (.ireturn, 0, 0)]]
/-- WheelRide$Planner.leastLimit(I)I -/
def am_c100 : List (List (Option am_E)) := [[some (.iconst 1, 0, 0), some (.istore_n 2, 0, 0), some (.iload_n 2, 0, 0), some (.bipush 99, 0, 0), none, some (.if_icmp .gt 42, 47, 0), none, none, some (.aload_n 0, 0, 0), some (.getfield 22, 601, 274), none, none, some (.aload_n 0, 0, 0), some (.getfield 18, 600, 273), none, none],
  [some (.invokevirtual 63, 43, 746), none, none, some (.aload_n 0, 0, 0), some (.getfield 22, 601, 274), none, none, some (.iload_n 2, 0, 0), some (.putfield 105, 901, 152), none, none, some (.aload_n 0, 0, 0), some (.getfield 22, 601, 274), none, none, some (.iload_n 1, 0, 0)],
  [some (.iconst 1, 0, 0), some (.invokevirtual 101, 98, 777), none, none, some (.ifCond .ne 5, 41, 0), none, none, some (.iload_n 2, 0, 0), some (.ireturn, 0, 0), some (.iinc 2 1, 0, 0), none, none, some (.goto (-42), 2, 0), none, none, some (.ldc 88, 5, 776)],
  [none, some (.ireturn, 0, 0)]]
/-- WheelRide.sets(II)I -/
def am_c101 : List (List (Option am_E)) := [[some (.aload_n 0, 0, 0), some (.getfield 26, 1002, 362), none, none, some (.invokevirtual 163, 50, 561), none, none, some (.ifCond .ne 6, 13, 0), none, none, some (.ldc 159, 3, 551), none, some (.ireturn, 0, 0), some (.iload_n 1, 0, 0), some (.iconst 0, 0, 0), some (.bipush 54, 0, 0)],
  [none, some (.invokestatic 167, 35, 565), none, none, some (.ifCond .ne 12, 32, 0), none, none, some (.iload_n 2, 0, 0), some (.iconst 0, 0, 0), some (.iconst 2, 0, 0), some (.invokestatic 167, 35, 565), none, none, some (.ifCond .eq 6, 35, 0), none, none],
  [some (.ldc 90, 4, 407), none, some (.ireturn, 0, 0), some (.aload_n 0, 0, 0), some (.getfield 26, 1002, 362), none, none, some (.iload_n 1, 0, 0), some (.iload_n 2, 0, 0), some (.invokestatic 281, 102, 795), none, none, some (.ireturn, 0, 0)]]
/-- WheelRide$Sums.ofSets(LWheelRide$Wheel;II)I -/
def am_c102 : List (List (Option am_E)) := [[some (.iconst 0, 0, 0), some (.istore_n 3, 0, 0), some (.iconst (-1), 0, 0), some (.istore 4, 0, 0), none, some (.iconst 0, 0, 0), some (.istore 5, 0, 0), none, some (.iconst 0, 0, 0), some (.istore 6, 0, 0), none, some (.iload 6, 0, 0), none, some (.iconst 1, 0, 0), some (.aload_n 0, 0, 0), some (.getfield 9, 904, 160)],
  [none, none, some (.ishl, 0, 0), some (.if_icmp .ge 36, 55, 0), none, none, some (.aload_n 0, 0, 0), some (.iload 6, 0, 0), none, some (.iload_n 1, 0, 0), some (.invokestatic 15, 103, 798), none, none, some (.ifCond .eq 20, 49, 0), none, none],
  [some (.iinc 3 1, 0, 0), none, none, some (.iload 4, 0, 0), none, some (.iload 6, 0, 0), none, some (.iand, 0, 0), some (.istore 4, 0, 0), none, some (.iload 5, 0, 0), none, some (.iload 6, 0, 0), none, some (.ior, 0, 0), some (.istore 5, 0, 0)],
  [none, some (.iinc 6 1, 0, 0), none, none, some (.goto (-41), 11, 0), none, none, some (.iload_n 2, 0, 0), some (.lookupswitch 41 #[(0, 28), (1, 30)], 0, 0), none, none, none, none, none, none, none],
  [none, none, none, none, none, none, none, none, none, none, none, none, none, none, none, none],
  [none, none, none, none, some (.iload_n 3, 0, 0), some (.ireturn, 0, 0), some (.iload_n 3, 0, 0), some (.ifCond .ne 7, 94, 0), none, none, some (.iconst 0, 0, 0), some (.goto 5, 96, 0), none, none, some (.iload 4, 0, 0), none],
  [some (.ireturn, 0, 0), some (.iload 5, 0, 0), none, some (.ireturn, 0, 0)]]
/-- WheelRide$Sums.weighs(LWheelRide$Wheel;II)Z -/
def am_c103 : List (List (Option am_E)) := [[some (.iconst 0, 0, 0), some (.istore_n 3, 0, 0), some (.iconst 0, 0, 0), some (.istore 4, 0, 0), none, some (.iload 4, 0, 0), none, some (.aload_n 0, 0, 0), some (.getfield 9, 904, 160), none, none, some (.if_icmp .ge 40, 51, 0), none, none, some (.iload_n 1, 0, 0), some (.iload 4, 0, 0)],
  [none, some (.ishr, 0, 0), some (.iconst 1, 0, 0), some (.iand, 0, 0), some (.iconst 1, 0, 0), some (.if_icmp .ne 24, 45, 0), none, none, some (.aload_n 0, 0, 0), some (.iload 4, 0, 0), none, some (.invokevirtual 21, 74, 801), none, none, some (.ifCond .eq 5, 35, 0), none],
  [none, some (.iconst 0, 0, 0), some (.ireturn, 0, 0), some (.iload_n 3, 0, 0), some (.aload_n 0, 0, 0), some (.getfield 25, 907, 175), none, none, some (.iload 4, 0, 0), none, some (.iaload, 0, 0), some (.iadd, 0, 0), some (.istore_n 3, 0, 0), some (.iinc 4 1, 0, 0), none, none],
  [some (.goto (-43), 5, 0), none, none, some (.iload_n 3, 0, 0), some (.iload_n 2, 0, 0), some (.if_icmp .ne 7, 60, 0), none, none, some (.iconst 1, 0, 0), some (.goto 4, 61, 0), none, none, some (.iconst 0, 0, 0), some (.ireturn, 0, 0)]]
/-- WheelRide.share(II)I -/
def am_c104 : List (List (Option am_E)) := [[some (.aload_n 0, 0, 0), some (.getfield 26, 1002, 362), none, none, some (.iload_n 1, 0, 0), some (.invokevirtual 199, 63, 661), none, none, some (.ifCond .eq 14, 22, 0), none, none, some (.iload_n 2, 0, 0), some (.iconst 0, 0, 0), some (.sipush 999, 0, 0), none, none],
  [some (.invokestatic 167, 35, 565), none, none, some (.ifCond .eq 6, 25, 0), none, none, some (.ldc 90, 4, 407), none, some (.ireturn, 0, 0), some (.aload_n 0, 0, 0), some (.getfield 26, 1002, 362), none, none, some (.iload_n 1, 0, 0), some (.iload_n 2, 0, 0), some (.invokestatic 287, 105, 806)],
  [none, none, some (.ireturn, 0, 0)]]
/-- WheelRide$Sums.shareOf(LWheelRide$Wheel;II)I -/
def am_c105 : List (List (Option am_E)) := [[some (.iconst 0, 0, 0), some (.istore_n 3, 0, 0), some (.iconst 0, 0, 0), some (.istore 4, 0, 0), none, some (.iload 4, 0, 0), none, some (.aload_n 0, 0, 0), some (.getfield 9, 904, 160), none, none, some (.if_icmp .ge 18, 29, 0), none, none, some (.iload_n 3, 0, 0), some (.aload_n 0, 0, 0)],
  [some (.iload 4, 0, 0), none, some (.invokestatic 29, 106, 809), none, none, some (.iadd, 0, 0), some (.istore_n 3, 0, 0), some (.iinc 4 1, 0, 0), none, none, some (.goto (-21), 5, 0), none, none, some (.iload_n 3, 0, 0), some (.ifCond .le 11, 41, 0), none],
  [none, some (.aload_n 0, 0, 0), some (.iload_n 1, 0, 0), some (.invokestatic 29, 106, 809), none, none, some (.ifCond .ne 5, 43, 0), none, none, some (.iconst 0, 0, 0), some (.ireturn, 0, 0), some (.iload_n 2, 0, 0), some (.istore 4, 0, 0), none, some (.iconst 0, 0, 0), some (.istore 5, 0, 0)],
  [none, some (.iconst 0, 0, 0), some (.istore 6, 0, 0), none, some (.iload 6, 0, 0), none, some (.aload_n 0, 0, 0), some (.getfield 9, 904, 160), none, none, some (.if_icmp .ge 42, 100, 0), none, none, some (.aload_n 0, 0, 0), some (.iload 6, 0, 0), none],
  [some (.invokestatic 29, 106, 809), none, none, some (.istore 7, 0, 0), none, some (.iload 4, 0, 0), none, some (.iload_n 2, 0, 0), some (.iload 7, 0, 0), none, some (.imul, 0, 0), some (.iload_n 3, 0, 0), some (.idiv, 0, 0), some (.isub, 0, 0), some (.istore 4, 0, 0), none],
  [some (.iload 7, 0, 0), none, some (.ifCond .le 12, 94, 0), none, none, some (.iload 6, 0, 0), none, some (.iload_n 1, 0, 0), some (.if_icmp .ge 6, 94, 0), none, none, some (.iinc 5 1, 0, 0), none, none, some (.iinc 6 1, 0, 0), none],
  [none, some (.goto (-45), 52, 0), none, none, some (.iload_n 2, 0, 0), some (.aload_n 0, 0, 0), some (.iload_n 1, 0, 0), some (.invokestatic 29, 106, 809), none, none, some (.imul, 0, 0), some (.iload_n 3, 0, 0), some (.idiv, 0, 0), some (.iload 5, 0, 0), none, some (.iload 4, 0, 0)],
  [none, some (.if_icmp .ge 7, 120, 0), none, none, some (.iconst 1, 0, 0), some (.goto 4, 121, 0), none, none, some (.iconst 0, 0, 0), some (.iadd, 0, 0), some (.ireturn, 0, 0)]]
/-- WheelRide$Sums.riddenIfOff(LWheelRide$Wheel;I)I -/
def am_c106 : List (List (Option am_E)) := [[some (.aload_n 0, 0, 0), some (.getfield 33, 909, 185), none, none, some (.iload_n 1, 0, 0), some (.iaload, 0, 0), some (.iconst 2, 0, 0), some (.if_icmp .ne 12, 19, 0), none, none, some (.aload_n 0, 0, 0), some (.getfield 36, 911, 190), none, none, some (.iload_n 1, 0, 0), some (.iaload, 0, 0)],
  [some (.goto 4, 20, 0), none, none, some (.iconst 0, 0, 0), some (.ireturn, 0, 0)]]
/-- WheelRide.byTurns(II)I -/
def am_c107 : List (List (Option am_E)) := [[some (.aload_n 0, 0, 0), some (.getfield 26, 1002, 362), none, none, some (.invokevirtual 163, 50, 561), none, none, some (.ifCond .ne 6, 13, 0), none, none, some (.ldc 159, 3, 551), none, some (.ireturn, 0, 0), some (.iload_n 1, 0, 0), some (.iconst 0, 0, 0), some (.iconst 4, 0, 0)],
  [some (.invokestatic 167, 35, 565), none, none, some (.ifCond .ne 13, 32, 0), none, none, some (.iload_n 2, 0, 0), some (.iconst 1, 0, 0), some (.bipush 20, 0, 0), none, some (.invokestatic 167, 35, 565), none, none, some (.ifCond .eq 6, 35, 0), none, none],
  [some (.ldc 90, 4, 407), none, some (.ireturn, 0, 0), some (.aload_n 0, 0, 0), some (.getfield 73, 1009, 369), none, none, some (.iload_n 1, 0, 0), some (.iload_n 2, 0, 0), some (.invokevirtual 290, 108, 816), none, none, some (.ireturn, 0, 0)]]
/-- WheelRide$Chances.outcome(II)I -/
def am_c108 : List (List (Option am_E)) := [[some (.iconst 0, 0, 0), some (.istore_n 3, 0, 0), some (.iload_n 3, 0, 0), some (.iconst 1, 0, 0), some (.iload_n 1, 0, 0), some (.ishl, 0, 0), some (.if_icmp .ge 22, 28, 0), none, none, some (.aload_n 0, 0, 0), some (.getfield 9, 202, 326), none, none, some (.iload_n 3, 0, 0), some (.aload_n 0, 0, 0), some (.iload_n 3, 0, 0)],
  [some (.iload_n 1, 0, 0), some (.iload_n 2, 0, 0), some (.invokevirtual 22, 109, 820), none, none, some (.iastore, 0, 0), some (.iinc 3 1, 0, 0), none, none, some (.goto (-23), 2, 0), none, none, some (.iload_n 1, 0, 0), some (.iconst 1, 0, 0), some (.isub, 0, 0), some (.istore_n 3, 0, 0)],
  [some (.iload_n 3, 0, 0), some (.ifCond .lt 81, 114, 0), none, none, some (.iconst 0, 0, 0), some (.istore 4, 0, 0), none, some (.iload 4, 0, 0), none, some (.iconst 1, 0, 0), some (.iload_n 3, 0, 0), some (.ishl, 0, 0), some (.if_icmp .ge 64, 108, 0), none, none, some (.aload_n 0, 0, 0)],
  [some (.getfield 9, 202, 326), none, none, some (.iconst 2, 0, 0), some (.iload 4, 0, 0), none, some (.imul, 0, 0), some (.iaload, 0, 0), some (.istore 5, 0, 0), none, some (.aload_n 0, 0, 0), some (.getfield 9, 202, 326), none, none, some (.iconst 2, 0, 0), some (.iload 4, 0, 0)],
  [none, some (.imul, 0, 0), some (.iconst 1, 0, 0), some (.iadd, 0, 0), some (.iaload, 0, 0), some (.istore 6, 0, 0), none, some (.aload_n 0, 0, 0), some (.getfield 9, 202, 326), none, none, some (.iload 4, 0, 0), none, some (.iload_n 3, 0, 0), some (.invokestatic 26, 111, 829), none],
  [none, some (.ifCond .eq 13, 94, 0), none, none, some (.iload 5, 0, 0), none, some (.iload 6, 0, 0), none, some (.invokestatic 30, 113, 839), none, none, some (.goto 10, 101, 0), none, none, some (.iload 5, 0, 0), none],
  [some (.iload 6, 0, 0), none, some (.invokestatic 36, 112, 832), none, none, some (.iastore, 0, 0), some (.iinc 4 1, 0, 0), none, none, some (.goto (-66), 39, 0), none, none, some (.iinc 3 (-1), 0, 0), none, none, some (.goto (-79), 32, 0)],
  [none, none, some (.aload_n 0, 0, 0), some (.getfield 9, 202, 326), none, none, some (.iconst 0, 0, 0), some (.iaload, 0, 0), some (.ireturn, 0, 0)]]
/-- WheelRide$Chances.riddenBy(III)I -/
def am_c109 : List (List (Option am_E)) := [[some (.aload_n 0, 0, 0), some (.getfield 19, 201, 325), none, none, some (.aload_n 0, 0, 0), some (.getfield 15, 200, 324), none, none, some (.invokevirtual 39, 43, 824), none, none, some (.iconst 0, 0, 0), some (.istore 4, 0, 0), none, some (.iload 4, 0, 0), none],
  [some (.iload_n 2, 0, 0), some (.if_icmp .ge 29, 46, 0), none, none, some (.iload_n 1, 0, 0), some (.iload_n 2, 0, 0), some (.iconst 1, 0, 0), some (.isub, 0, 0), some (.iload 4, 0, 0), none, some (.isub, 0, 0), some (.ishr, 0, 0), some (.iconst 1, 0, 0), some (.iand, 0, 0), some (.iconst 1, 0, 0), some (.if_icmp .ne 9, 40, 0)],
  [none, none, some (.aload_n 0, 0, 0), some (.iload 4, 0, 0), none, some (.invokevirtual 45, 110, 825), none, none, some (.iinc 4 1, 0, 0), none, none, some (.goto (-29), 14, 0), none, none, some (.iconst 0, 0, 0), some (.istore 4, 0, 0)],
  [none, some (.iload 4, 0, 0), none, some (.iload_n 3, 0, 0), some (.if_icmp .ge 20, 72, 0), none, none, some (.aload_n 0, 0, 0), some (.getfield 19, 201, 325), none, none, some (.getstatic 49, 1, 836), none, none, some (.invokevirtual 52, 53, 837), none],
  [none, some (.pop, 0, 0), some (.iinc 4 1, 0, 0), none, none, some (.goto (-20), 49, 0), none, none, some (.aload_n 0, 0, 0), some (.getfield 19, 201, 325), none, none, some (.invokevirtual 56, 93, 838), none, none, some (.ireturn, 0, 0)]]
/-- WheelRide$Chances.move(I)V -/
def am_c110 : List (List (Option am_E)) := [[some (.iload_n 1, 0, 0), some (.invokestatic 26, 111, 829), none, none, some (.ifCond .eq 39, 43, 0), none, none, some (.aload_n 0, 0, 0), some (.getfield 19, 201, 325), none, none, some (.getfield 60, 902, 155), none, none, some (.istore_n 2, 0, 0), some (.aload_n 0, 0, 0)],
  [some (.getfield 19, 201, 325), none, none, some (.getfield 64, 905, 167), none, none, some (.iload_n 2, 0, 0), some (.bipush 9, 0, 0), none, some (.aload_n 0, 0, 0), some (.getfield 19, 201, 325), none, none, some (.getfield 64, 905, 167), none, none],
  [some (.iload_n 2, 0, 0), some (.iaload, 0, 0), some (.iconst 3, 0, 0), some (.iadd, 0, 0), some (.invokestatic 36, 112, 832), none, none, some (.iastore, 0, 0), some (.goto 17, 57, 0), none, none, some (.aload_n 0, 0, 0), some (.getfield 19, 201, 325), none, none, some (.aload_n 0, 0, 0)],
  [some (.getfield 19, 201, 325), none, none, some (.invokevirtual 67, 67, 835), none, none, some (.putfield 60, 902, 155), none, none, some (.return_, 0, 0)]]
/-- WheelRide$Chances.isOfTheOne(I)Z -/
def am_c111 : List (List (Option am_E)) := [[some (.iload_n 0, 0, 0), some (.iconst 1, 0, 0), some (.iand, 0, 0), some (.ifCond .ne 7, 10, 0), none, none, some (.iconst 1, 0, 0), some (.goto 4, 11, 0), none, none, some (.iconst 0, 0, 0), some (.ireturn, 0, 0)]]
/-- java/lang/Math.min(II)I -/
def am_c112 : List (List (Option am_E)) := [[some (.iload_n 0, 0, 0), some (.iload_n 1, 0, 0), some (.if_icmp .gt 7, 9, 0), none, none, some (.iload_n 0, 0, 0), some (.goto 4, 10, 0), none, none, some (.iload_n 1, 0, 0), some (.ireturn, 0, 0)]]
/-- java/lang/Math.max(II)I -/
def am_c113 : List (List (Option am_E)) := [[some (.iload_n 0, 0, 0), some (.iload_n 1, 0, 0), some (.if_icmp .lt 7, 9, 0), none, none, some (.iload_n 0, 0, 0), some (.goto 4, 10, 0), none, none, some (.iload_n 1, 0, 0), some (.ireturn, 0, 0)]]
/-- WheelRide.who(IIIII)I -/
def am_c114 : List (List (Option am_E)) := [[some (.aload_n 0, 0, 0), some (.getfield 26, 1002, 362), none, none, some (.iload_n 1, 0, 0), some (.invokevirtual 199, 63, 661), none, none, some (.ifCond .eq 30, 38, 0), none, none, some (.iload_n 2, 0, 0), some (.iconst 0, 0, 0), some (.iconst 4, 0, 0), some (.invokestatic 167, 35, 565), none],
  [none, some (.ifCond .ne 21, 38, 0), none, none, some (.iload_n 3, 0, 0), some (.invokestatic 86, 12, 404), none, none, some (.ifCond .eq 14, 38, 0), none, none, some (.iload 5, 0, 0), none, some (.iconst 1, 0, 0), some (.bipush 12, 0, 0), none],
  [some (.invokestatic 167, 35, 565), none, none, some (.ifCond .eq 6, 41, 0), none, none, some (.ldc 90, 4, 407), none, some (.ireturn, 0, 0), some (.aload_n 0, 0, 0), some (.getfield 10, 1000, 360), none, none, some (.iload_n 3, 0, 0), some (.invokevirtual 102, 17, 425), none],
  [none, some (.ifCond .eq 9, 58, 0), none, none, some (.aload_n 0, 0, 0), some (.iconst 1, 0, 0), some (.invokevirtual 91, 13, 408), none, none, some (.ireturn, 0, 0), some (.aload_n 0, 0, 0), some (.getfield 10, 1000, 360), none, none, some (.iload_n 3, 0, 0), some (.iload 4, 0, 0)],
  [none, some (.iload 5, 0, 0), none, some (.invokevirtual 105, 18, 429), none, none, some (.ifCond .ne 9, 79, 0), none, none, some (.aload_n 0, 0, 0), some (.iconst 2, 0, 0), some (.invokevirtual 91, 13, 408), none, none, some (.ireturn, 0, 0), some (.aload_n 0, 0, 0)],
  [some (.aload_n 0, 0, 0), some (.getfield 66, 1008, 368), none, none, some (.iload_n 1, 0, 0), some (.iload_n 2, 0, 0), some (.aload_n 0, 0, 0), some (.getfield 10, 1000, 360), none, none, some (.getfield 293, 700, 108), none, none, some (.iload_n 3, 0, 0), some (.aaload, 0, 0), some (.iload 4, 0, 0)],
  [none, some (.iload 5, 0, 0), none, some (.invokevirtual 297, 115, 846), none, none, some (.invokevirtual 99, 15, 417), none, none, some (.ireturn, 0, 0)]]
/-- WheelRide$Guesser.guess(II[III)I -/
def am_c115 : List (List (Option am_E)) := [[some (.iconst 0, 0, 0), some (.istore 6, 0, 0), none, some (.iconst 0, 0, 0), some (.istore 7, 0, 0), none, some (.ldc 18, 5, 850), none, some (.istore 8, 0, 0), none, some (.iconst 1, 0, 0), some (.istore 9, 0, 0), none, some (.iload 9, 0, 0), none, some (.iload_n 2, 0, 0)],
  [some (.invokestatic 19, 116, 851), none, none, some (.if_icmp .gt 68, 87, 0), none, none, some (.aload_n 0, 0, 0), some (.getfield 15, 401, 312), none, none, some (.aload_n 0, 0, 0), some (.getfield 9, 400, 311), none, none, some (.invokevirtual 23, 43, 854), none],
  [none, some (.aload_n 0, 0, 0), some (.iload_n 1, 0, 0), some (.iload_n 2, 0, 0), some (.iload 9, 0, 0), none, some (.invokevirtual 29, 117, 855), none, none, some (.aload_n 0, 0, 0), some (.aload_n 3, 0, 0), some (.iload 4, 0, 0), none, some (.iload 5, 0, 0), none, some (.invokevirtual 33, 118, 859)],
  [none, none, some (.ifCond .eq 31, 81, 0), none, none, some (.iload 6, 0, 0), none, some (.iconst 1, 0, 0), some (.iload 9, 0, 0), none, some (.ishl, 0, 0), some (.ior, 0, 0), some (.istore 6, 0, 0), none, some (.iinc 7 1, 0, 0), none],
  [none, some (.iload 8, 0, 0), none, some (.ldc 18, 5, 850), none, some (.if_icmp .ne 8, 77, 0), none, none, some (.iload 9, 0, 0), none, some (.goto 5, 79, 0), none, none, some (.iload 8, 0, 0), none, some (.istore 8, 0, 0)],
  [none, some (.iinc 9 1, 0, 0), none, none, some (.goto (-71), 13, 0), none, none, some (.iload_n 2, 0, 0), some (.iconst 3, 0, 0), some (.if_icmp .ge 6, 95, 0), none, none, some (.iload 6, 0, 0), none, some (.ireturn, 0, 0), some (.iload_n 2, 0, 0)],
  [some (.iconst 3, 0, 0), some (.if_icmp .ne 8, 105, 0), none, none, some (.iload 7, 0, 0), none, some (.goto 5, 107, 0), none, none, some (.iload 8, 0, 0), none, some (.ireturn, 0, 0)]]
/-- WheelRide$Guesser.mostOf(I)I -/
def am_c116 : List (List (Option am_E)) := [[some (.iload_n 0, 0, 0), some (.tableswitch 34 0 2 #[27, 29, 32], 0, 0), none, none, none, none, none, none, none, none, none, none, none, none, none, none],
  [none, none, none, none, none, none, none, none, none, none, none, none, some (.iconst 5, 0, 0), some (.ireturn, 0, 0), some (.bipush 9, 0, 0), none],
  [some (.ireturn, 0, 0), some (.iconst 4, 0, 0), some (.ireturn, 0, 0), some (.bipush 99, 0, 0), none, some (.ireturn, 0, 0)]]
/-- WheelRide$Guesser.suppose(III)V -/
def am_c117 : List (List (Option am_E)) := [[some (.iload_n 2, 0, 0), some (.tableswitch 66 0 2 #[27, 40, 53], 0, 0), none, none, none, none, none, none, none, none, none, none, none, none, none, none],
  [none, none, none, none, none, none, none, none, none, none, none, none, some (.aload_n 0, 0, 0), some (.getfield 15, 401, 312), none, none],
  [some (.getfield 37, 906, 171), none, none, some (.iload_n 1, 0, 0), some (.iload_n 3, 0, 0), some (.iastore, 0, 0), some (.goto 37, 75, 0), none, none, some (.aload_n 0, 0, 0), some (.getfield 15, 401, 312), none, none, some (.getfield 41, 907, 176), none, none],
  [some (.iload_n 1, 0, 0), some (.iload_n 3, 0, 0), some (.iastore, 0, 0), some (.goto 24, 75, 0), none, none, some (.aload_n 0, 0, 0), some (.getfield 15, 401, 312), none, none, some (.getfield 44, 908, 180), none, none, some (.iload_n 1, 0, 0), some (.iload_n 3, 0, 0), some (.iastore, 0, 0)],
  [some (.goto 11, 75, 0), none, none, some (.aload_n 0, 0, 0), some (.getfield 15, 401, 312), none, none, some (.iload_n 3, 0, 0), some (.putfield 47, 901, 151), none, none, some (.return_, 0, 0)]]
/-- WheelRide$Guesser.leansAs([III)Z -/
def am_c118 : List (List (Option am_E)) := [[some (.iconst 0, 0, 0), some (.istore 4, 0, 0), none, some (.iload 4, 0, 0), none, some (.iload_n 3, 0, 0), some (.if_icmp .ge 45, 51, 0), none, none, some (.aload_n 0, 0, 0), some (.getfield 15, 401, 312), none, none, some (.getstatic 51, 1, 863), none, none],
  [some (.invokevirtual 54, 53, 864), none, none, some (.pop, 0, 0), some (.aload_n 0, 0, 0), some (.getfield 15, 401, 312), none, none, some (.aload_n 0, 0, 0), some (.getfield 15, 401, 312), none, none, some (.getfield 58, 902, 156), none, none, some (.invokevirtual 61, 58, 865)],
  [none, none, some (.aload_n 1, 0, 0), some (.iload_n 2, 0, 0), some (.iload 4, 0, 0), none, some (.iadd, 0, 0), some (.iaload, 0, 0), some (.if_icmp .eq 5, 45, 0), none, none, some (.iconst 0, 0, 0), some (.ireturn, 0, 0), some (.iinc 4 1, 0, 0), none, none],
  [some (.goto (-45), 3, 0), none, none, some (.iconst 1, 0, 0), some (.ireturn, 0, 0)]]
/-- WheelRide.away(III)J -/
def am_c119 : List (List (Option am_E)) := [[some (.aload_n 0, 0, 0), some (.getfield 26, 1002, 362), none, none, some (.invokevirtual 163, 50, 561), none, none, some (.ifCond .ne 7, 14, 0), none, none, some (.ldc2_w 301, 0, 870), none, none, some (.lreturn, 0, 0), some (.iload_n 1, 0, 0), some (.iconst 0, 0, 0)],
  [some (.bipush 40, 0, 0), none, some (.invokestatic 167, 35, 565), none, none, some (.ifCond .ne 22, 43, 0), none, none, some (.iload_n 2, 0, 0), some (.iconst 0, 0, 0), some (.bipush 10, 0, 0), none, some (.invokestatic 167, 35, 565), none, none, some (.ifCond .ne 12, 43, 0)],
  [none, none, some (.iload_n 3, 0, 0), some (.iconst 0, 0, 0), some (.iconst 1, 0, 0), some (.invokestatic 167, 35, 565), none, none, some (.ifCond .eq 7, 47, 0), none, none, some (.ldc2_w 303, 1, 871), none, none, some (.lreturn, 0, 0), some (.aload_n 0, 0, 0)],
  [some (.getfield 73, 1009, 369), none, none, some (.iload_n 1, 0, 0), some (.iload_n 2, 0, 0), some (.invokevirtual 305, 120, 872), none, none, some (.iload_n 3, 0, 0), some (.ifCond .ne 13, 70, 0), none, none, some (.aload_n 0, 0, 0), some (.getfield 73, 1009, 369), none, none],
  [some (.getfield 309, 203, 328), none, none, some (.goto 10, 77, 0), none, none, some (.aload_n 0, 0, 0), some (.getfield 73, 1009, 369), none, none, some (.getfield 313, 204, 330), none, none, some (.lreturn, 0, 0)]]
/-- WheelRide$Chances.findAway(II)V -/
def am_c120 : List (List (Option am_E)) := [[some (.aload_n 0, 0, 0), some (.getfield 15, 200, 324), none, none, some (.iconst 0, 0, 0), some (.invokevirtual 70, 57, 876), none, none, some (.istore_n 3, 0, 0), some (.lconst 0, 0, 0), some (.lstore 4, 0, 0), none, some (.lconst 1, 0, 0), some (.lstore 6, 0, 0), none, some (.iconst 0, 0, 0)],
  [some (.istore 8, 0, 0), none, some (.iload 8, 0, 0), none, some (.iload_n 3, 0, 0), some (.invokestatic 74, 92, 877), none, none, some (.if_icmp .ge 17, 41, 0), none, none, some (.lload 6, 0, 0), none, some (.ldc2_w 79, 3, 878), none, none],
  [some (.lmul, 0, 0), some (.lstore 6, 0, 0), none, some (.iinc 8 1, 0, 0), none, none, some (.goto (-20), 18, 0), none, none, some (.iconst 0, 0, 0), some (.istore 8, 0, 0), none, some (.iload 8, 0, 0), none, some (.bipush 64, 0, 0), none],
  [some (.if_icmp .ge 67, 115, 0), none, none, some (.iload 8, 0, 0), none, some (.iload_n 3, 0, 0), some (.iconst (-1), 0, 0), some (.ixor, 0, 0), some (.iand, 0, 0), some (.ifCond .ne 13, 70, 0), none, none, some (.iload 8, 0, 0), none, some (.iload_n 3, 0, 0), some (.iload_n 2, 0, 0)],
  [some (.invokestatic 81, 121, 879), none, none, some (.goto 4, 71, 0), none, none, some (.lconst 0, 0, 0), some (.lstore 9, 0, 0), none, some (.lload 9, 0, 0), none, some (.lconst 0, 0, 0), some (.lcmp, 0, 0), some (.ifCond .le 32, 109, 0), none, none],
  [some (.aload_n 0, 0, 0), some (.iload 8, 0, 0), none, some (.invokevirtual 85, 122, 882), none, none, some (.lload 4, 0, 0), none, some (.aload_n 0, 0, 0), some (.getfield 19, 201, 325), none, none, some (.iload_n 1, 0, 0), some (.iconst 1, 0, 0), some (.invokevirtual 88, 98, 886), none],
  [none, some (.ifCond .ne 8, 105, 0), none, none, some (.lload 9, 0, 0), none, some (.goto 4, 106, 0), none, none, some (.lconst 0, 0, 0), some (.ladd, 0, 0), some (.lstore 4, 0, 0), none, some (.iinc 8 1, 0, 0), none, none],
  [some (.goto (-68), 44, 0), none, none, some (.lload 6, 0, 0), none, some (.lload 4, 0, 0), none, some (.invokestatic 91, 123, 887), none, none, some (.lstore 8, 0, 0), none, some (.aload_n 0, 0, 0), some (.lload 8, 0, 0), none, some (.lconst 0, 0, 0)],
  [some (.lcmp, 0, 0), some (.ifCond .ne 7, 136, 0), none, none, some (.lconst 0, 0, 0), some (.goto 8, 141, 0), none, none, some (.lload 4, 0, 0), none, some (.lload 8, 0, 0), none, some (.ldiv, 0, 0), some (.putfield 95, 203, 327), none, none],
  [some (.aload_n 0, 0, 0), some (.lload 8, 0, 0), none, some (.lconst 0, 0, 0), some (.lcmp, 0, 0), some (.ifCond .ne 7, 156, 0), none, none, some (.lconst 1, 0, 0), some (.goto 8, 161, 0), none, none, some (.lload 6, 0, 0), none, some (.lload 8, 0, 0), none],
  [some (.ldiv, 0, 0), some (.putfield 99, 204, 329), none, none, some (.return_, 0, 0)]]
/-- WheelRide$Chances.casesOf(III)J -/
def am_c121 : List (List (Option am_E)) := [[some (.lconst 1, 0, 0), some (.lstore_n 3, 0, 0), some (.iconst 0, 0, 0), some (.istore 5, 0, 0), none, some (.iload 5, 0, 0), none, some (.bipush 6, 0, 0), none, some (.if_icmp .ge 42, 51, 0), none, none, some (.iload_n 1, 0, 0), some (.iload 5, 0, 0), none, some (.ishr, 0, 0)],
  [some (.iconst 1, 0, 0), some (.iand, 0, 0), some (.iconst 1, 0, 0), some (.if_icmp .ne 26, 45, 0), none, none, some (.lload_n 3, 0, 0), some (.iload_n 0, 0, 0), some (.iload 5, 0, 0), none, some (.ishr, 0, 0), some (.iconst 1, 0, 0), some (.iand, 0, 0), some (.iconst 1, 0, 0), some (.if_icmp .ne 8, 38, 0), none],
  [none, some (.iload_n 2, 0, 0), some (.i2l, 0, 0), some (.goto 8, 43, 0), none, none, some (.bipush 10, 0, 0), none, some (.iload_n 2, 0, 0), some (.isub, 0, 0), some (.i2l, 0, 0), some (.lmul, 0, 0), some (.lstore_n 3, 0, 0), some (.iinc 5 1, 0, 0), none, none],
  [some (.goto (-43), 5, 0), none, none, some (.lload_n 3, 0, 0), some (.lreturn, 0, 0)]]
/-- WheelRide$Chances.tryWithout(I)V -/
def am_c122 : List (List (Option am_E)) := [[some (.aload_n 0, 0, 0), some (.getfield 19, 201, 325), none, none, some (.aload_n 0, 0, 0), some (.getfield 15, 200, 324), none, none, some (.invokevirtual 39, 43, 824), none, none, some (.iconst 0, 0, 0), some (.istore_n 2, 0, 0), some (.iload_n 2, 0, 0), some (.aload_n 0, 0, 0), some (.getfield 19, 201, 325)],
  [none, none, some (.getfield 102, 904, 165), none, none, some (.if_icmp .ge 28, 49, 0), none, none, some (.iload_n 1, 0, 0), some (.iload_n 2, 0, 0), some (.ishr, 0, 0), some (.iconst 1, 0, 0), some (.iand, 0, 0), some (.iconst 1, 0, 0), some (.if_icmp .ne 13, 43, 0), none],
  [none, some (.aload_n 0, 0, 0), some (.getfield 19, 201, 325), none, none, some (.getfield 105, 909, 186), none, none, some (.iload_n 2, 0, 0), some (.iconst 3, 0, 0), some (.iastore, 0, 0), some (.iinc 2 1, 0, 0), none, none, some (.goto (-33), 13, 0), none],
  [none, some (.return_, 0, 0)]]
/-- WheelRide$Chances.commonDivisor(JJ)J -/
def am_c123 : List (List (Option am_E)) := [[some (.lload_n 0, 0, 0), some (.lstore 4, 0, 0), none, some (.lload_n 2, 0, 0), some (.lstore 6, 0, 0), none, some (.iconst 0, 0, 0), some (.istore 8, 0, 0), none, some (.iload 8, 0, 0), none, some (.bipush 100, 0, 0), none, some (.if_icmp .ge 31, 44, 0), none, none],
  [some (.lload 6, 0, 0), none, some (.lconst 0, 0, 0), some (.lcmp, 0, 0), some (.ifCond .eq 24, 44, 0), none, none, some (.lload 4, 0, 0), none, some (.lload 6, 0, 0), none, some (.lrem, 0, 0), some (.lstore 9, 0, 0), none, some (.lload 6, 0, 0), none],
  [some (.lstore 4, 0, 0), none, some (.lload 9, 0, 0), none, some (.lstore 6, 0, 0), none, some (.iinc 8 1, 0, 0), none, none, some (.goto (-32), 9, 0), none, none, some (.lload 4, 0, 0), none, some (.lreturn, 0, 0)]]
/-- WheelRide.drawn(III)I -/
def am_c124 : List (List (Option am_E)) := [[some (.aload_n 0, 0, 0), some (.getfield 26, 1002, 362), none, none, some (.invokevirtual 163, 50, 561), none, none, some (.ifCond .ne 6, 13, 0), none, none, some (.ldc 159, 3, 551), none, some (.ireturn, 0, 0), some (.iload_n 1, 0, 0), some (.iconst 0, 0, 0), some (.bipush 60, 0, 0)],
  [none, some (.invokestatic 167, 35, 565), none, none, some (.ifCond .ne 23, 43, 0), none, none, some (.iload_n 2, 0, 0), some (.iconst 1, 0, 0), some (.ldc_w 316, 6, 894), none, none, some (.invokestatic 167, 35, 565), none, none, some (.ifCond .ne 12, 43, 0)],
  [none, none, some (.iload_n 3, 0, 0), some (.iconst 0, 0, 0), some (.iconst 1, 0, 0), some (.invokestatic 167, 35, 565), none, none, some (.ifCond .eq 6, 46, 0), none, none, some (.ldc 90, 4, 407), none, some (.ireturn, 0, 0), some (.aload_n 0, 0, 0), some (.getfield 73, 1009, 369)],
  [none, none, some (.iload_n 1, 0, 0), some (.iload_n 2, 0, 0), some (.invokevirtual 317, 125, 895), none, none, some (.istore 4, 0, 0), none, some (.iload_n 3, 0, 0), some (.ifCond .ne 8, 66, 0), none, none, some (.iload 4, 0, 0), none, some (.goto 10, 73, 0)],
  [none, none, some (.aload_n 0, 0, 0), some (.getfield 30, 1003, 363), none, none, some (.invokevirtual 320, 93, 908), none, none, some (.ireturn, 0, 0)]]
/-- WheelRide$Chances.liveDays(II)I -/
def am_c125 : List (List (Option am_E)) := [[some (.aload_n 0, 0, 0), some (.getfield 19, 201, 325), none, none, some (.aload_n 0, 0, 0), some (.getfield 15, 200, 324), none, none, some (.invokevirtual 39, 43, 824), none, none, some (.iload_n 2, 0, 0), some (.i2l, 0, 0), some (.lstore_n 3, 0, 0), some (.iconst 0, 0, 0), some (.istore 5, 0, 0)],
  [none, some (.iconst 0, 0, 0), some (.istore 6, 0, 0), none, some (.iload 6, 0, 0), none, some (.iload_n 1, 0, 0), some (.if_icmp .ge 40, 63, 0), none, none, some (.lload_n 3, 0, 0), some (.ldc2_w 108, 4, 899), none, none, some (.lmul, 0, 0), some (.ldc2_w 110, 5, 900)],
  [none, none, some (.lrem, 0, 0), some (.lstore_n 3, 0, 0), some (.aload_n 0, 0, 0), some (.lload_n 3, 0, 0), some (.invokevirtual 112, 126, 901), none, none, some (.aload_n 0, 0, 0), some (.getfield 19, 201, 325), none, none, some (.getstatic 49, 1, 836), none, none],
  [some (.invokevirtual 52, 53, 837), none, none, some (.ifCond .ne 6, 57, 0), none, none, some (.iinc 5 1, 0, 0), none, none, some (.iinc 6 1, 0, 0), none, none, some (.goto (-40), 20, 0), none, none, some (.iload 5, 0, 0)],
  [none, some (.ireturn, 0, 0)]]
/-- WheelRide$Chances.happen(J)V -/
def am_c126 : List (List (Option am_E)) := [[some (.aload_n 0, 0, 0), some (.getfield 19, 201, 325), none, none, some (.getfield 102, 904, 165), none, none, some (.ifCond .le 13, 20, 0), none, none, some (.aload_n 0, 0, 0), some (.getfield 19, 201, 325), none, none, some (.getfield 116, 900, 148), none],
  [none, some (.ifCond .gt 4, 21, 0), none, none, some (.return_, 0, 0), some (.lload_n 1, 0, 0), some (.aload_n 0, 0, 0), some (.getfield 19, 201, 325), none, none, some (.getfield 102, 904, 165), none, none, some (.i2l, 0, 0), some (.lrem, 0, 0), some (.l2i, 0, 0)],
  [some (.istore_n 3, 0, 0), some (.aload_n 0, 0, 0), some (.getfield 19, 201, 325), none, none, some (.iload_n 3, 0, 0), some (.invokevirtual 119, 74, 905), none, none, some (.ifCond .eq 14, 55, 0), none, none, some (.aload_n 0, 0, 0), some (.getfield 19, 201, 325), none, none],
  [some (.iload_n 3, 0, 0), some (.invokevirtual 122, 41, 906), none, none, some (.goto 38, 90, 0), none, none, some (.lload_n 1, 0, 0), some (.ldc2_w 125, 2, 907), none, none, some (.lrem, 0, 0), some (.lconst 0, 0, 0), some (.lcmp, 0, 0), some (.ifCond .ne 28, 90, 0), none],
  [none, some (.aload_n 0, 0, 0), some (.getfield 19, 201, 325), none, none, some (.getfield 64, 905, 167), none, none, some (.lload_n 1, 0, 0), some (.aload_n 0, 0, 0), some (.getfield 19, 201, 325), none, none, some (.getfield 116, 900, 148), none, none],
  [some (.i2l, 0, 0), some (.lrem, 0, 0), some (.l2i, 0, 0), some (.lload_n 1, 0, 0), some (.ldc2_w 79, 3, 878), none, none, some (.lrem, 0, 0), some (.l2i, 0, 0), some (.iastore, 0, 0), some (.return_, 0, 0)]]
/-- WheelRide.image(I)I -/
def am_c127 : List (List (Option am_E)) := [[some (.iload_n 1, 0, 0), some (.iconst 0, 0, 0), some (.iconst 1, 0, 0), some (.invokestatic 167, 35, 565), none, none, some (.ifCond .eq 6, 12, 0), none, none, some (.ldc 90, 4, 407), none, some (.ireturn, 0, 0), some (.aload_n 0, 0, 0), some (.getfield 26, 1002, 362), none, none],
  [some (.invokevirtual 163, 50, 561), none, none, some (.ifCond .ne 6, 25, 0), none, none, some (.ldc 159, 3, 551), none, some (.ireturn, 0, 0), some (.aload_n 0, 0, 0), some (.getfield 43, 1005, 365), none, none, some (.iload_n 1, 0, 0), some (.aload_n 0, 0, 0), some (.getfield 26, 1002, 362)],
  [none, none, some (.invokevirtual 323, 128, 913), none, none, some (.iconst 1, 0, 0), some (.ireturn, 0, 0)]]
/-- WheelRide$Images.keep(ILWheelRide$Wheel;)V -/
def am_c128 : List (List (Option am_E)) := [[some (.aload_n 0, 0, 0), some (.getfield 10, 500, 250), none, none, some (.iload_n 1, 0, 0), some (.aaload, 0, 0), some (.aload_n 2, 0, 0), some (.invokevirtual 20, 43, 917), none, none, some (.return_, 0, 0)]]
/-- WheelRide.restore(I)I -/
def am_c129 : List (List (Option am_E)) := [[some (.iload_n 1, 0, 0), some (.iconst 0, 0, 0), some (.iconst 1, 0, 0), some (.invokestatic 167, 35, 565), none, none, some (.ifCond .eq 6, 12, 0), none, none, some (.ldc 90, 4, 407), none, some (.ireturn, 0, 0), some (.aload_n 0, 0, 0), some (.getfield 43, 1005, 365), none, none],
  [some (.iload_n 1, 0, 0), some (.invokevirtual 327, 130, 922), none, none, some (.ifCond .ne 6, 26, 0), none, none, some (.ldc 159, 3, 551), none, some (.ireturn, 0, 0), some (.aload_n 0, 0, 0), some (.getfield 43, 1005, 365), none, none, some (.iload_n 1, 0, 0), some (.aload_n 0, 0, 0)],
  [some (.getfield 26, 1002, 362), none, none, some (.invokevirtual 330, 131, 927), none, none, some (.aload_n 0, 0, 0), some (.getfield 36, 1004, 364), none, none, some (.invokevirtual 149, 44, 535), none, none, some (.aload_n 0, 0, 0), some (.getfield 59, 1007, 367), none],
  [none, some (.invokevirtual 152, 45, 539), none, none, some (.iconst 1, 0, 0), some (.ireturn, 0, 0)]]
/-- WheelRide$Images.has(I)Z -/
def am_c130 : List (List (Option am_E)) := [[some (.aload_n 0, 0, 0), some (.getfield 10, 500, 250), none, none, some (.iload_n 1, 0, 0), some (.aaload, 0, 0), some (.invokevirtual 16, 50, 926), none, none, some (.ireturn, 0, 0)]]
/-- WheelRide$Images.giveBack(ILWheelRide$Wheel;)V -/
def am_c131 : List (List (Option am_E)) := [[some (.aload_n 2, 0, 0), some (.aload_n 0, 0, 0), some (.getfield 10, 500, 250), none, none, some (.iload_n 1, 0, 0), some (.aaload, 0, 0), some (.invokevirtual 20, 43, 917), none, none, some (.return_, 0, 0)]]
/-- WheelRide.kind(I)I -/
def am_c132 : List (List (Option am_E)) := [[some (.aload_n 0, 0, 0), some (.getfield 26, 1002, 362), none, none, some (.iload_n 1, 0, 0), some (.invokevirtual 199, 63, 661), none, none, some (.ifCond .eq 15, 23, 0), none, none, some (.aload_n 0, 0, 0), some (.getfield 26, 1002, 362), none, none, some (.getfield 333, 906, 173)],
  [none, none, some (.iload_n 1, 0, 0), some (.iaload, 0, 0), some (.goto 5, 25, 0), none, none, some (.ldc 90, 4, 407), none, some (.ireturn, 0, 0)]]
/-- WheelRide.as(II)I -/
def am_c133 : List (List (Option am_E)) := [[some (.aload_n 0, 0, 0), some (.getfield 26, 1002, 362), none, none, some (.iload_n 1, 0, 0), some (.invokevirtual 199, 63, 661), none, none, some (.ifCond .eq 12, 20, 0), none, none, some (.iload_n 2, 0, 0), some (.iconst 0, 0, 0), some (.iconst 5, 0, 0), some (.invokestatic 167, 35, 565), none],
  [none, some (.ifCond .eq 6, 23, 0), none, none, some (.ldc 90, 4, 407), none, some (.ireturn, 0, 0), some (.aload_n 0, 0, 0), some (.getfield 26, 1002, 362), none, none, some (.getfield 333, 906, 173), none, none, some (.iload_n 1, 0, 0), some (.iaload, 0, 0)],
  [some (.iload_n 2, 0, 0), some (.invokestatic 336, 134, 939), none, none, some (.ifCond .ne 9, 45, 0), none, none, some (.aload_n 0, 0, 0), some (.iconst 3, 0, 0), some (.invokevirtual 91, 13, 408), none, none, some (.ireturn, 0, 0), some (.aload_n 0, 0, 0), some (.iload_n 1, 0, 0), some (.invokevirtual 99, 15, 417)],
  [none, none, some (.ireturn, 0, 0)]]
/-- WheelRide$Asks.isSuch(II)Z -/
def am_c134 : List (List (Option am_E)) := [[some (.iload_n 0, 0, 0), some (.istore_n 2, 0, 0), some (.iconst 0, 0, 0), some (.istore_n 3, 0, 0), some (.iload_n 3, 0, 0), some (.iconst 5, 0, 0), some (.if_icmp .gt 29, 35, 0), none, none, some (.iload_n 2, 0, 0), some (.invokestatic 19, 135, 942), none, none, some (.ifCond .eq 22, 35, 0), none, none],
  [some (.iload_n 2, 0, 0), some (.iload_n 1, 0, 0), some (.if_icmp .ne 5, 23, 0), none, none, some (.iconst 1, 0, 0), some (.ireturn, 0, 0), some (.getstatic 23, 2, 945), none, none, some (.iload_n 2, 0, 0), some (.iaload, 0, 0), some (.istore_n 2, 0, 0), some (.iinc 3 1, 0, 0), none, none],
  [some (.goto (-28), 4, 0), none, none, some (.iconst 0, 0, 0), some (.ireturn, 0, 0)]]
/-- WheelRide$Asks.isKind(I)Z -/
def am_c135 : List (List (Option am_E)) := [[some (.iload_n 0, 0, 0), some (.ifCond .lt 12, 13, 0), none, none, some (.iload_n 0, 0, 0), some (.iconst 5, 0, 0), some (.if_icmp .gt 7, 13, 0), none, none, some (.iconst 1, 0, 0), some (.goto 4, 14, 0), none, none, some (.iconst 0, 0, 0), some (.ireturn, 0, 0)]]
/-- WheelRide.ask(II)I -/
def am_c136 : List (List (Option am_E)) := [[some (.aload_n 0, 0, 0), some (.getfield 26, 1002, 362), none, none, some (.iload_n 1, 0, 0), some (.invokevirtual 199, 63, 661), none, none, some (.ifCond .eq 12, 20, 0), none, none, some (.iload_n 2, 0, 0), some (.iconst 0, 0, 0), some (.iconst 1, 0, 0), some (.invokestatic 167, 35, 565), none],
  [none, some (.ifCond .eq 6, 23, 0), none, none, some (.ldc 90, 4, 407), none, some (.ireturn, 0, 0), some (.aload_n 0, 0, 0), some (.getfield 82, 1010, 370), none, none, some (.iload_n 1, 0, 0), some (.iload_n 2, 0, 0), some (.invokevirtual 339, 238, 951), none, none],
  [some (.ireturn, 0, 0)]]
/-- WheelRide$Asks.answer(III)I -/
def am_c137 : List (List (Option am_E)) := [[some (.aload_n 0, 0, 0), some (.aload_n 0, 0, 0), some (.getfield 15, 100, 348), none, none, some (.getfield 34, 906, 172), none, none, some (.iload_n 1, 0, 0), some (.iaload, 0, 0), some (.iload_n 2, 0, 0), some (.ifCond .ne 9, 20, 0), none, none, some (.getstatic 39, 3, 959), none],
  [none, some (.goto 6, 23, 0), none, none, some (.getstatic 42, 4, 961), none, none, some (.invokestatic 45, 138, 963), none, none, some (.iload_n 1, 0, 0), some (.iload_n 3, 0, 0), some (.invokevirtual 49, 139, 967), none, none, some (.ireturn, 0, 0)]]
/-- WheelRide$Asks.bodyFor(I[I)I -/
def am_c138 : List (List (Option am_E)) := [[some (.iload_n 0, 0, 0), some (.istore_n 2, 0, 0), some (.iconst 0, 0, 0), some (.istore_n 3, 0, 0), some (.iload_n 3, 0, 0), some (.iconst 5, 0, 0), some (.if_icmp .gt 34, 40, 0), none, none, some (.iload_n 2, 0, 0), some (.invokestatic 19, 135, 942), none, none, some (.ifCond .eq 27, 40, 0), none, none],
  [some (.aload_n 1, 0, 0), some (.iload_n 2, 0, 0), some (.iaload, 0, 0), some (.ldc 52, 5, 966), none, some (.if_icmp .eq 7, 28, 0), none, none, some (.aload_n 1, 0, 0), some (.iload_n 2, 0, 0), some (.iaload, 0, 0), some (.ireturn, 0, 0), some (.getstatic 23, 2, 945), none, none, some (.iload_n 2, 0, 0)],
  [some (.iaload, 0, 0), some (.istore_n 2, 0, 0), some (.iinc 3 1, 0, 0), none, none, some (.goto (-33), 4, 0), none, none, some (.ldc 52, 5, 966), none, some (.ireturn, 0, 0)]]
/-- WheelRide$Asks.tell(III)I -/
def am_c139 : List (List (Option am_E)) := [[some (.iload_n 3, 0, 0), some (.bipush 16, 0, 0), none, some (.if_icmp .le 6, 9, 0), none, none, some (.ldc 52, 5, 966), none, some (.ireturn, 0, 0), some (.aload_n 0, 0, 0), some (.iload_n 1, 0, 0), some (.invokevirtual 53, 140, 971), none, none, some (.iload_n 3, 0, 0), some (.iconst 1, 0, 0)],
  [some (.iadd, 0, 0), some (.istore 4, 0, 0), none, some (.iload_n 1, 0, 0), some (.tableswitch 209 10 24 #[76, 86, 105, 117, 130, 209, 209, 209, 209, 209, 142, 144, 164, 178, 197], 0, 0), none, none, none, none, none, none, none, none, none, none, none],
  [none, none, none, none, none, none, none, none, none, none, none, none, none, none, none, none],
  [none, none, none, none, none, none, none, none, none, none, none, none, none, none, none, none],
  [none, none, none, none, none, none, none, none, none, none, none, none, none, none, none, none],
  [none, none, none, none, none, none, none, none, none, none, none, none, none, none, none, none],
  [some (.aload_n 0, 0, 0), some (.getfield 15, 100, 348), none, none, some (.getfield 57, 907, 177), none, none, some (.iload_n 2, 0, 0), some (.iaload, 0, 0), some (.ireturn, 0, 0), some (.aload_n 0, 0, 0), some (.bipush 10, 0, 0), none, some (.iload_n 2, 0, 0), some (.iload 4, 0, 0), none],
  [some (.invokevirtual 49, 139, 967), none, none, some (.aload_n 0, 0, 0), some (.iload_n 2, 0, 0), some (.iconst 1, 0, 0), some (.iload 4, 0, 0), none, some (.invokevirtual 30, 137, 955), none, none, some (.iadd, 0, 0), some (.ireturn, 0, 0), some (.iconst 0, 0, 0), some (.aload_n 0, 0, 0), some (.bipush 11, 0, 0)],
  [none, some (.iload_n 2, 0, 0), some (.iload 4, 0, 0), none, some (.invokevirtual 49, 139, 967), none, none, some (.isub, 0, 0), some (.ireturn, 0, 0), some (.aload_n 0, 0, 0), some (.bipush 10, 0, 0), none, some (.iload_n 2, 0, 0), some (.iload 4, 0, 0), none, some (.invokevirtual 49, 139, 967)],
  [none, none, some (.bipush 100, 0, 0), none, some (.isub, 0, 0), some (.ireturn, 0, 0), some (.iconst 2, 0, 0), some (.aload_n 0, 0, 0), some (.bipush 13, 0, 0), none, some (.iload_n 2, 0, 0), some (.iload 4, 0, 0), none, some (.invokevirtual 49, 139, 967), none, none],
  [some (.imul, 0, 0), some (.ireturn, 0, 0), some (.iload_n 2, 0, 0), some (.ireturn, 0, 0), some (.aload_n 0, 0, 0), some (.bipush 20, 0, 0), none, some (.iload_n 2, 0, 0), some (.iload 4, 0, 0), none, some (.invokevirtual 49, 139, 967), none, none, some (.aload_n 0, 0, 0), some (.getfield 15, 100, 348), none],
  [none, some (.getfield 60, 911, 191), none, none, some (.iload_n 2, 0, 0), some (.iaload, 0, 0), some (.iadd, 0, 0), some (.ireturn, 0, 0), some (.aload_n 0, 0, 0), some (.bipush 21, 0, 0), none, some (.iload_n 2, 0, 0), some (.iload 4, 0, 0), none, some (.invokevirtual 49, 139, 967), none],
  [none, some (.sipush 1000, 0, 0), none, none, some (.isub, 0, 0), some (.ireturn, 0, 0), some (.aload_n 0, 0, 0), some (.bipush 20, 0, 0), none, some (.iload_n 2, 0, 0), some (.iload 4, 0, 0), none, some (.invokevirtual 49, 139, 967), none, none, some (.aload_n 0, 0, 0)],
  [some (.iload_n 2, 0, 0), some (.iconst 0, 0, 0), some (.iload 4, 0, 0), none, some (.invokevirtual 30, 137, 955), none, none, some (.isub, 0, 0), some (.ireturn, 0, 0), some (.iconst 2, 0, 0), some (.aload_n 0, 0, 0), some (.bipush 21, 0, 0), none, some (.iload_n 2, 0, 0), some (.iload 4, 0, 0), none],
  [some (.invokevirtual 49, 139, 967), none, none, some (.imul, 0, 0), some (.ireturn, 0, 0), some (.ldc 52, 5, 966), none, some (.ireturn, 0, 0)]]
/-- WheelRide$Asks.leaveTrace(I)V -/
def am_c140 : List (List (Option am_E)) := [[some (.aload_n 0, 0, 0), some (.getfield 26, 102, 351), none, none, some (.ifCond .lt 32, 36, 0), none, none, some (.aload_n 0, 0, 0), some (.getfield 26, 102, 351), none, none, some (.bipush 16, 0, 0), none, some (.if_icmp .ge 23, 36, 0), none, none],
  [some (.aload_n 0, 0, 0), some (.getfield 9, 101, 349), none, none, some (.aload_n 0, 0, 0), some (.getfield 26, 102, 351), none, none, some (.iload_n 1, 0, 0), some (.iastore, 0, 0), some (.aload_n 0, 0, 0), some (.dup, 0, 0), some (.getfield 26, 102, 351), none, none, some (.iconst 1, 0, 0)],
  [some (.iadd, 0, 0), some (.putfield 26, 102, 351), none, none, some (.return_, 0, 0)]]
/-- WheelRide.trace(I)I -/
def am_c141 : List (List (Option am_E)) := [[some (.iload_n 1, 0, 0), some (.ifCond .lt 32, 33, 0), none, none, some (.iload_n 1, 0, 0), some (.aload_n 0, 0, 0), some (.getfield 82, 1010, 370), none, none, some (.getfield 342, 102, 352), none, none, some (.if_icmp .ge 21, 33, 0), none, none, some (.iload_n 1, 0, 0)],
  [some (.bipush 16, 0, 0), none, some (.if_icmp .ge 15, 33, 0), none, none, some (.aload_n 0, 0, 0), some (.getfield 82, 1010, 370), none, none, some (.getfield 345, 101, 350), none, none, some (.iload_n 1, 0, 0), some (.iaload, 0, 0), some (.goto 6, 36, 0), none],
  [none, some (.ldc_w 268, 5, 767), none, none, some (.ireturn, 0, 0)]]
/-- WheelRide.count(I)I -/
def am_c142 : List (List (Option am_E)) := [[some (.iload_n 1, 0, 0), some (.tableswitch 111 0 7 #[47, 55, 63, 71, 79, 87, 95, 103], 0, 0), none, none, none, none, none, none, none, none, none, none, none, none, none, none],
  [none, none, none, none, none, none, none, none, none, none, none, none, none, none, none, none],
  [none, none, none, none, none, none, none, none, none, none, none, none, none, none, none, none],
  [some (.aload_n 0, 0, 0), some (.getfield 10, 1000, 360), none, none, some (.invokevirtual 348, 143, 983), none, none, some (.ireturn, 0, 0), some (.aload_n 0, 0, 0), some (.getfield 26, 1002, 362), none, none, some (.getfield 153, 904, 164), none, none, some (.ireturn, 0, 0)],
  [some (.aload_n 0, 0, 0), some (.getfield 26, 1002, 362), none, none, some (.getfield 236, 900, 149), none, none, some (.ireturn, 0, 0), some (.aload_n 0, 0, 0), some (.getfield 26, 1002, 362), none, none, some (.getfield 170, 903, 159), none, none, some (.ireturn, 0, 0)],
  [some (.aload_n 0, 0, 0), some (.getfield 26, 1002, 362), none, none, some (.invokevirtual 351, 144, 988), none, none, some (.ireturn, 0, 0), some (.aload_n 0, 0, 0), some (.getfield 26, 1002, 362), none, none, some (.invokevirtual 320, 93, 908), none, none, some (.ireturn, 0, 0)],
  [some (.aload_n 0, 0, 0), some (.getfield 36, 1004, 364), none, none, some (.getfield 156, 2, 234), none, none, some (.ireturn, 0, 0), some (.aload_n 0, 0, 0), some (.getfield 19, 1001, 361), none, none, some (.getfield 124, 802, 128), none, none, some (.ireturn, 0, 0)],
  [some (.ldc 90, 4, 407), none, some (.ireturn, 0, 0)]]
/-- WheelRide$Rows.howMany()I -/
def am_c143 : List (List (Option am_E)) := [[some (.iconst 0, 0, 0), some (.istore_n 1, 0, 0), some (.iconst 0, 0, 0), some (.istore_n 2, 0, 0), some (.iload_n 2, 0, 0), some (.bipush 8, 0, 0), none, some (.if_icmp .ge 20, 27, 0), none, none, some (.aload_n 0, 0, 0), some (.iload_n 2, 0, 0), some (.invokevirtual 33, 17, 987), none, none, some (.ifCond .ne 6, 21, 0)],
  [none, none, some (.iinc 1 1, 0, 0), none, none, some (.iinc 2 1, 0, 0), none, none, some (.goto (-20), 4, 0), none, none, some (.iload_n 1, 0, 0), some (.ireturn, 0, 0)]]
/-- WheelRide$Wheel.ballastOfAll()I -/
def am_c144 : List (List (Option am_E)) := [[some (.iconst 0, 0, 0), some (.istore_n 1, 0, 0), some (.iconst 0, 0, 0), some (.istore_n 2, 0, 0), some (.iload_n 2, 0, 0), some (.aload_n 0, 0, 0), some (.getfield 36, 900, 146), none, none, some (.if_icmp .ge 18, 27, 0), none, none, some (.iload_n 1, 0, 0), some (.aload_n 0, 0, 0), some (.getfield 9, 905, 166), none],
  [none, some (.iload_n 2, 0, 0), some (.iaload, 0, 0), some (.iadd, 0, 0), some (.istore_n 1, 0, 0), some (.iinc 2 1, 0, 0), none, none, some (.goto (-20), 4, 0), none, none, some (.iload_n 1, 0, 0), some (.ireturn, 0, 0)]]
/-- WheelRide.status()I -/
def am_c145 : List (List (Option am_E)) := [[some (.aload_n 0, 0, 0), some (.getfield 354, 1012, 372), none, none, some (.ireturn, 0, 0)]]
/-- WheelRideModel.<init>()V -/
def am_c146 : List (List (Option am_E)) := [[some (.aload_n 0, 0, 0), some (.invokespecial 1, 1010, 1001), none, none, some (.aload_n 0, 0, 0), some (.bipush 8, 0, 0), none, some (.newarray .int, 0, 0), none, some (.putfield 7, 1100, 1006), none, none, some (.aload_n 0, 0, 0), some (.bipush 8, 0, 0), none, some (.newarray .int, 0, 0)],
  [none, some (.putfield 13, 1101, 1007), none, none, some (.aload_n 0, 0, 0), some (.sipush 320, 0, 0), none, none, some (.newarray .int, 0, 0), none, some (.putfield 16, 1102, 1008), none, none, some (.aload_n 0, 0, 0), some (.bipush 100, 0, 0), none],
  [some (.newarray .int, 0, 0), none, some (.putfield 19, 1104, 1010), none, none, some (.aload_n 0, 0, 0), some (.bipush 6, 0, 0), none, some (.newarray .int, 0, 0), none, some (.putfield 22, 1109, 1015), none, none, some (.aload_n 0, 0, 0), some (.bipush 6, 0, 0), none],
  [some (.newarray .int, 0, 0), none, some (.putfield 25, 1110, 1016), none, none, some (.aload_n 0, 0, 0), some (.bipush 6, 0, 0), none, some (.newarray .int, 0, 0), none, some (.putfield 28, 1111, 1017), none, none, some (.aload_n 0, 0, 0), some (.bipush 39, 0, 0), none],
  [some (.newarray .int, 0, 0), none, some (.putfield 31, 1112, 1018), none, none, some (.aload_n 0, 0, 0), some (.sipush 936, 0, 0), none, none, some (.newarray .int, 0, 0), none, some (.putfield 34, 1113, 1019), none, none, some (.aload_n 0, 0, 0), some (.bipush 118, 0, 0)],
  [none, some (.newarray .int, 0, 0), none, some (.putfield 37, 1115, 1021), none, none, some (.aload_n 0, 0, 0), some (.iconst 2, 0, 0), some (.newarray .boolean, 0, 0), none, some (.putfield 40, 1116, 1022), none, none, some (.aload_n 0, 0, 0), some (.bipush 6, 0, 0), none],
  [some (.newarray .int, 0, 0), none, some (.putfield 44, 1117, 1023), none, none, some (.aload_n 0, 0, 0), some (.bipush 39, 0, 0), none, some (.newarray .int, 0, 0), none, some (.putfield 47, 1118, 1024), none, none, some (.aload_n 0, 0, 0), some (.bipush 16, 0, 0), none],
  [some (.newarray .int, 0, 0), none, some (.putfield 50, 1119, 1025), none, none, some (.aload_n 0, 0, 0), some (.iconst 2, 0, 0), some (.newarray .int, 0, 0), none, some (.putfield 53, 1125, 1031), none, none, some (.aload_n 0, 0, 0), some (.bipush 6, 0, 0), none, some (.newarray .int, 0, 0)],
  [none, some (.putfield 56, 1126, 1032), none, none, some (.aload_n 0, 0, 0), some (.bipush 6, 0, 0), none, some (.newarray .int, 0, 0), none, some (.putfield 59, 1127, 1033), none, none, some (.aload_n 0, 0, 0), some (.bipush 6, 0, 0), none, some (.newarray .int, 0, 0)],
  [none, some (.putfield 62, 1128, 1034), none, none, some (.aload_n 0, 0, 0), some (.bipush 6, 0, 0), none, some (.newarray .int, 0, 0), none, some (.putfield 65, 1129, 1035), none, none, some (.aload_n 0, 0, 0), some (.bipush 16, 0, 0), none, some (.newarray .int, 0, 0)],
  [none, some (.putfield 68, 1130, 1036), none, none, some (.iconst 0, 0, 0), some (.istore_n 1, 0, 0), some (.iload_n 1, 0, 0), some (.bipush 8, 0, 0), none, some (.if_icmp .ge 16, 185, 0), none, none, some (.aload_n 0, 0, 0), some (.getfield 13, 1101, 1007), none, none],
  [some (.iload_n 1, 0, 0), some (.iconst (-1), 0, 0), some (.iastore, 0, 0), some (.iinc 1 1, 0, 0), none, none, some (.goto (-16), 166, 0), none, none, some (.aload_n 0, 0, 0), some (.invokevirtual 71, 147, 1002), none, none, some (.return_, 0, 0)]]
/-- WheelRideModel.byNumbers()V -/
def am_c147 : List (List (Option am_E)) := [[some (.iconst 0, 0, 0), some (.istore_n 1, 0, 0), some (.iload_n 1, 0, 0), some (.bipush 6, 0, 0), none, some (.if_icmp .ge 16, 21, 0), none, none, some (.aload_n 0, 0, 0), some (.getfield 44, 1117, 1023), none, none, some (.iload_n 1, 0, 0), some (.iload_n 1, 0, 0), some (.iastore, 0, 0), some (.iinc 1 1, 0, 0)],
  [none, none, some (.goto (-16), 2, 0), none, none, some (.return_, 0, 0)]]
/-- WheelRideModel.row(III)I -/
def am_c148 : List (List (Option am_E)) := [[some (.aload_n 0, 0, 0), some (.iload_n 1, 0, 0), some (.invokevirtual 89, 149, 1105), none, none, some (.ifCond .eq 18, 23, 0), none, none, some (.iload_n 2, 0, 0), some (.iconst 0, 0, 0), some (.iconst 2, 0, 0), some (.invokestatic 79, 150, 1109), none, none, some (.ifCond .eq 9, 23, 0), none],
  [none, some (.iload_n 3, 0, 0), some (.bipush 40, 0, 0), none, some (.if_icmp .le 6, 26, 0), none, none, some (.ldc 93, 4, 1112), none, some (.ireturn, 0, 0), some (.iload_n 3, 0, 0), some (.ifCond .ge 9, 36, 0), none, none, some (.aload_n 0, 0, 0), some (.iconst 4, 0, 0)],
  [some (.invokevirtual 94, 151, 1113), none, none, some (.ireturn, 0, 0), some (.aload_n 0, 0, 0), some (.iconst 0, 0, 0), some (.putfield 74, 1103, 1009), none, none, some (.aload_n 0, 0, 0), some (.getfield 7, 1100, 1006), none, none, some (.iload_n 1, 0, 0), some (.iload_n 2, 0, 0), some (.iastore, 0, 0)],
  [some (.aload_n 0, 0, 0), some (.getfield 13, 1101, 1007), none, none, some (.iload_n 1, 0, 0), some (.iload_n 3, 0, 0), some (.iastore, 0, 0), some (.iconst 0, 0, 0), some (.istore 4, 0, 0), none, some (.iload 4, 0, 0), none, some (.iload_n 3, 0, 0), some (.if_icmp .ge 22, 83, 0), none, none],
  [some (.aload_n 0, 0, 0), some (.getfield 16, 1102, 1008), none, none, some (.bipush 40, 0, 0), none, some (.iload_n 1, 0, 0), some (.imul, 0, 0), some (.iload 4, 0, 0), none, some (.iadd, 0, 0), some (.iconst 0, 0, 0), some (.iastore, 0, 0), some (.iinc 4 1, 0, 0), none, none],
  [some (.goto (-22), 58, 0), none, none, some (.iload_n 3, 0, 0), some (.ireturn, 0, 0)]]
/-- WheelRideModel.isRow(I)Z -/
def am_c149 : List (List (Option am_E)) := [[some (.iload_n 1, 0, 0), some (.iconst 0, 0, 0), some (.bipush 7, 0, 0), none, some (.invokestatic 79, 150, 1109), none, none, some (.ireturn, 0, 0)]]
/-- WheelRideModel.in(III)Z -/
def am_c150 : List (List (Option am_E)) := [[some (.iload_n 0, 0, 0), some (.iload_n 1, 0, 0), some (.if_icmp .lt 12, 14, 0), none, none, some (.iload_n 0, 0, 0), some (.iload_n 2, 0, 0), some (.if_icmp .gt 7, 14, 0), none, none, some (.iconst 1, 0, 0), some (.goto 4, 15, 0), none, none, some (.iconst 0, 0, 0), some (.ireturn, 0, 0)]]
/-- WheelRideModel.finds(I)I -/
def am_c151 : List (List (Option am_E)) := [[some (.aload_n 0, 0, 0), some (.iload_n 1, 0, 0), some (.putfield 74, 1103, 1009), none, none, some (.ldc 78, 1, 1117), none, some (.iload_n 1, 0, 0), some (.isub, 0, 0), some (.ireturn, 0, 0)]]
/-- WheelRideModel.set(III)I -/
def am_c152 : List (List (Option am_E)) := [[some (.aload_n 0, 0, 0), some (.iload_n 1, 0, 0), some (.invokevirtual 89, 149, 1105), none, none, some (.ifCond .ne 6, 11, 0), none, none, some (.ldc 93, 4, 1112), none, some (.ireturn, 0, 0), some (.aload_n 0, 0, 0), some (.getfield 13, 1101, 1007), none, none, some (.iload_n 1, 0, 0)],
  [some (.iaload, 0, 0), some (.ifCond .ge 9, 26, 0), none, none, some (.aload_n 0, 0, 0), some (.iconst 1, 0, 0), some (.invokevirtual 94, 151, 1113), none, none, some (.ireturn, 0, 0), some (.iload_n 2, 0, 0), some (.iconst 0, 0, 0), some (.aload_n 0, 0, 0), some (.getfield 13, 1101, 1007), none, none],
  [some (.iload_n 1, 0, 0), some (.iaload, 0, 0), some (.iconst 1, 0, 0), some (.isub, 0, 0), some (.invokestatic 79, 150, 1109), none, none, some (.ifCond .ne 9, 48, 0), none, none, some (.aload_n 0, 0, 0), some (.iconst 2, 0, 0), some (.invokevirtual 94, 151, 1113), none, none, some (.ireturn, 0, 0)],
  [some (.aload_n 0, 0, 0), some (.iconst 0, 0, 0), some (.putfield 74, 1103, 1009), none, none, some (.aload_n 0, 0, 0), some (.getfield 16, 1102, 1008), none, none, some (.bipush 40, 0, 0), none, some (.iload_n 1, 0, 0), some (.imul, 0, 0), some (.iload_n 2, 0, 0), some (.iadd, 0, 0), some (.aload_n 0, 0, 0)],
  [some (.getfield 7, 1100, 1006), none, none, some (.iload_n 1, 0, 0), some (.iaload, 0, 0), some (.iload_n 3, 0, 0), some (.invokestatic 98, 153, 1122), none, none, some (.iastore, 0, 0), some (.aload_n 0, 0, 0), some (.getfield 16, 1102, 1008), none, none, some (.bipush 40, 0, 0), none],
  [some (.iload_n 1, 0, 0), some (.imul, 0, 0), some (.iload_n 2, 0, 0), some (.iadd, 0, 0), some (.iaload, 0, 0), some (.ireturn, 0, 0)]]
/-- WheelRideModel.cut(II)I -/
def am_c153 : List (List (Option am_E)) := [[some (.iload_n 0, 0, 0), some (.ifCond .ne 13, 14, 0), none, none, some (.iload_n 1, 0, 0), some (.bipush 24, 0, 0), none, some (.ishl, 0, 0), some (.bipush 24, 0, 0), none, some (.ishr, 0, 0), some (.goto 19, 30, 0), none, none, some (.iload_n 0, 0, 0), some (.iconst 1, 0, 0)],
  [some (.if_icmp .ne 13, 29, 0), none, none, some (.iload_n 1, 0, 0), some (.bipush 16, 0, 0), none, some (.ishl, 0, 0), some (.bipush 16, 0, 0), none, some (.ishr, 0, 0), some (.goto 4, 30, 0), none, none, some (.iload_n 1, 0, 0), some (.ireturn, 0, 0)]]
/-- WheelRideModel.copy(IIIII)I -/
def am_c154 : List (List (Option am_E)) := [[some (.aload_n 0, 0, 0), some (.iload_n 1, 0, 0), some (.invokevirtual 89, 149, 1105), none, none, some (.ifCond .eq 11, 16, 0), none, none, some (.aload_n 0, 0, 0), some (.iload_n 3, 0, 0), some (.invokevirtual 89, 149, 1105), none, none, some (.ifCond .ne 6, 19, 0), none, none],
  [some (.ldc 93, 4, 1112), none, some (.ireturn, 0, 0), some (.aload_n 0, 0, 0), some (.getfield 13, 1101, 1007), none, none, some (.iload_n 1, 0, 0), some (.iaload, 0, 0), some (.ifCond .lt 12, 37, 0), none, none, some (.aload_n 0, 0, 0), some (.getfield 13, 1101, 1007), none, none],
  [some (.iload_n 3, 0, 0), some (.iaload, 0, 0), some (.ifCond .ge 9, 43, 0), none, none, some (.aload_n 0, 0, 0), some (.iconst 1, 0, 0), some (.invokevirtual 94, 151, 1113), none, none, some (.ireturn, 0, 0), some (.aload_n 0, 0, 0), some (.getfield 7, 1100, 1006), none, none, some (.iload_n 1, 0, 0)],
  [some (.iaload, 0, 0), some (.aload_n 0, 0, 0), some (.getfield 7, 1100, 1006), none, none, some (.iload_n 3, 0, 0), some (.iaload, 0, 0), some (.if_icmp .eq 9, 64, 0), none, none, some (.aload_n 0, 0, 0), some (.iconst 5, 0, 0), some (.invokevirtual 94, 151, 1113), none, none, some (.ireturn, 0, 0)],
  [some (.iload_n 2, 0, 0), some (.iload 5, 0, 0), none, some (.aload_n 0, 0, 0), some (.getfield 13, 1101, 1007), none, none, some (.iload_n 1, 0, 0), some (.iaload, 0, 0), some (.invokestatic 102, 155, 1129), none, none, some (.ifCond .eq 19, 95, 0), none, none, some (.iload 4, 0, 0)],
  [none, some (.iload 5, 0, 0), none, some (.aload_n 0, 0, 0), some (.getfield 13, 1101, 1007), none, none, some (.iload_n 3, 0, 0), some (.iaload, 0, 0), some (.invokestatic 102, 155, 1129), none, none, some (.ifCond .ne 9, 101, 0), none, none, some (.aload_n 0, 0, 0)],
  [some (.iconst 2, 0, 0), some (.invokevirtual 94, 151, 1113), none, none, some (.ireturn, 0, 0), some (.aload_n 0, 0, 0), some (.iconst 0, 0, 0), some (.putfield 74, 1103, 1009), none, none, some (.iload 4, 0, 0), none, some (.iload_n 2, 0, 0), some (.if_icmp .le 7, 116, 0), none, none],
  [some (.iconst 1, 0, 0), some (.goto 4, 117, 0), none, none, some (.iconst 0, 0, 0), some (.istore 6, 0, 0), none, some (.iconst 0, 0, 0), some (.istore 7, 0, 0), none, some (.iload 7, 0, 0), none, some (.iload 5, 0, 0), none, some (.if_icmp .ge 57, 183, 0), none],
  [none, some (.iload 6, 0, 0), none, some (.ifCond .eq 13, 144, 0), none, none, some (.iload 5, 0, 0), none, some (.iconst 1, 0, 0), some (.isub, 0, 0), some (.iload 7, 0, 0), none, some (.isub, 0, 0), some (.goto 5, 146, 0), none, none],
  [some (.iload 7, 0, 0), none, some (.istore 8, 0, 0), none, some (.aload_n 0, 0, 0), some (.getfield 16, 1102, 1008), none, none, some (.bipush 40, 0, 0), none, some (.iload_n 3, 0, 0), some (.imul, 0, 0), some (.iload 4, 0, 0), none, some (.iadd, 0, 0), some (.iload 8, 0, 0)],
  [none, some (.iadd, 0, 0), some (.aload_n 0, 0, 0), some (.getfield 16, 1102, 1008), none, none, some (.bipush 40, 0, 0), none, some (.iload_n 1, 0, 0), some (.imul, 0, 0), some (.iload_n 2, 0, 0), some (.iadd, 0, 0), some (.iload 8, 0, 0), none, some (.iadd, 0, 0), some (.iaload, 0, 0)],
  [some (.iastore, 0, 0), some (.iinc 7 1, 0, 0), none, none, some (.goto (-58), 122, 0), none, none, some (.iload 5, 0, 0), none, some (.ireturn, 0, 0)]]
/-- WheelRideModel.isPart(III)Z -/
def am_c155 : List (List (Option am_E)) := [[some (.iload_n 0, 0, 0), some (.ifCond .lt 23, 24, 0), none, none, some (.iload_n 1, 0, 0), some (.ifCond .lt 19, 24, 0), none, none, some (.iload_n 1, 0, 0), some (.iload_n 2, 0, 0), some (.if_icmp .gt 14, 24, 0), none, none, some (.iload_n 0, 0, 0), some (.iload_n 2, 0, 0), some (.iload_n 1, 0, 0)],
  [some (.isub, 0, 0), some (.if_icmp .gt 7, 24, 0), none, none, some (.iconst 1, 0, 0), some (.goto 4, 25, 0), none, none, some (.iconst 0, 0, 0), some (.ireturn, 0, 0)]]
/-- WheelRideModel.drop(I)I -/
def am_c156 : List (List (Option am_E)) := [[some (.aload_n 0, 0, 0), some (.iload_n 1, 0, 0), some (.invokevirtual 89, 149, 1105), none, none, some (.ifCond .ne 6, 11, 0), none, none, some (.ldc 93, 4, 1112), none, some (.ireturn, 0, 0), some (.aload_n 0, 0, 0), some (.getfield 13, 1101, 1007), none, none, some (.iload_n 1, 0, 0)],
  [some (.iaload, 0, 0), some (.ifCond .ge 9, 26, 0), none, none, some (.aload_n 0, 0, 0), some (.iconst 1, 0, 0), some (.invokevirtual 94, 151, 1113), none, none, some (.ireturn, 0, 0), some (.aload_n 0, 0, 0), some (.iconst 0, 0, 0), some (.putfield 74, 1103, 1009), none, none, some (.aload_n 0, 0, 0)],
  [some (.getfield 13, 1101, 1007), none, none, some (.iload_n 1, 0, 0), some (.iaload, 0, 0), some (.istore_n 2, 0, 0), some (.aload_n 0, 0, 0), some (.getfield 13, 1101, 1007), none, none, some (.iload_n 1, 0, 0), some (.iconst (-1), 0, 0), some (.iastore, 0, 0), some (.iload_n 2, 0, 0), some (.ireturn, 0, 0)]]
/-- WheelRideModel.feed(I)I -/
def am_c157 : List (List (Option am_E)) := [[some (.iload_n 1, 0, 0), some (.iconst 0, 0, 0), some (.sipush 255, 0, 0), none, none, some (.invokestatic 79, 150, 1109), none, none, some (.ifCond .ne 6, 14, 0), none, none, some (.ldc 93, 4, 1112), none, some (.ireturn, 0, 0), some (.aload_n 0, 0, 0), some (.getfield 105, 1105, 1011)],
  [none, none, some (.bipush 100, 0, 0), none, some (.if_icmp .ne 6, 26, 0), none, none, some (.ldc 108, 2, 1140), none, some (.ireturn, 0, 0), some (.aload_n 0, 0, 0), some (.getfield 19, 1104, 1010), none, none, some (.aload_n 0, 0, 0), some (.getfield 105, 1105, 1011)],
  [none, none, some (.iload_n 1, 0, 0), some (.iastore, 0, 0), some (.aload_n 0, 0, 0), some (.dup, 0, 0), some (.getfield 105, 1105, 1011), none, none, some (.iconst 1, 0, 0), some (.iadd, 0, 0), some (.putfield 105, 1105, 1011), none, none, some (.aload_n 0, 0, 0), some (.getfield 105, 1105, 1011)],
  [none, none, some (.ireturn, 0, 0)]]
/-- WheelRideModel.wheel()I -/
def am_c158 : List (List (Option am_E)) := [[some (.aload_n 0, 0, 0), some (.invokevirtual 144, 159, 1145), none, none, some (.aload_n 0, 0, 0), some (.iconst 0, 0, 0), some (.putfield 105, 1105, 1011), none, none, some (.aload_n 0, 0, 0), some (.getfield 112, 1123, 1029), none, none, some (.ifCond .eq 19, 32, 0), none, none],
  [some (.aload_n 0, 0, 0), some (.aload_n 0, 0, 0), some (.getfield 112, 1123, 1029), none, none, some (.putfield 147, 1106, 1012), none, none, some (.ldc 150, 0, 1176), none, some (.aload_n 0, 0, 0), some (.getfield 115, 1122, 1028), none, none, some (.isub, 0, 0), some (.ireturn, 0, 0)],
  [some (.aload_n 0, 0, 0), some (.aload_n 0, 0, 0), some (.getfield 132, 1124, 1030), none, none, some (.putfield 83, 1107, 1013), none, none, some (.aload_n 0, 0, 0), some (.aload_n 0, 0, 0), some (.getfield 53, 1125, 1031), none, none, some (.iconst 0, 0, 0), some (.iaload, 0, 0), some (.putfield 86, 1108, 1014)],
  [none, none, some (.aload_n 0, 0, 0), some (.getfield 56, 1126, 1032), none, none, some (.iconst 0, 0, 0), some (.aload_n 0, 0, 0), some (.getfield 22, 1109, 1015), none, none, some (.iconst 0, 0, 0), some (.bipush 6, 0, 0), none, some (.invokestatic 151, 167, 1177), none],
  [none, some (.aload_n 0, 0, 0), some (.getfield 59, 1127, 1033), none, none, some (.iconst 0, 0, 0), some (.aload_n 0, 0, 0), some (.getfield 25, 1110, 1016), none, none, some (.iconst 0, 0, 0), some (.bipush 6, 0, 0), none, some (.invokestatic 151, 167, 1177), none, none],
  [some (.aload_n 0, 0, 0), some (.getfield 62, 1128, 1034), none, none, some (.iconst 0, 0, 0), some (.aload_n 0, 0, 0), some (.getfield 28, 1111, 1017), none, none, some (.iconst 0, 0, 0), some (.bipush 6, 0, 0), none, some (.invokestatic 151, 167, 1177), none, none, some (.iconst 0, 0, 0)],
  [some (.istore_n 1, 0, 0), some (.iload_n 1, 0, 0), some (.bipush 39, 0, 0), none, some (.if_icmp .ge 16, 116, 0), none, none, some (.aload_n 0, 0, 0), some (.getfield 31, 1112, 1018), none, none, some (.iload_n 1, 0, 0), some (.iconst 0, 0, 0), some (.iastore, 0, 0), some (.iinc 1 1, 0, 0), none],
  [none, some (.goto (-16), 97, 0), none, none, some (.aload_n 0, 0, 0), some (.getfield 31, 1112, 1018), none, none, some (.iconst 2, 0, 0), some (.aload_n 0, 0, 0), some (.getfield 53, 1125, 1031), none, none, some (.iconst 1, 0, 0), some (.iaload, 0, 0), some (.iastore, 0, 0)],
  [some (.iconst 0, 0, 0), some (.istore_n 1, 0, 0), some (.iload_n 1, 0, 0), some (.bipush 6, 0, 0), none, some (.if_icmp .ge 20, 153, 0), none, none, some (.aload_n 0, 0, 0), some (.getfield 31, 1112, 1018), none, none, some (.bipush 21, 0, 0), none, some (.iload_n 1, 0, 0), some (.iadd, 0, 0)],
  [some (.ldc 155, 5, 1180), none, some (.iastore, 0, 0), some (.iinc 1 1, 0, 0), none, none, some (.goto (-20), 130, 0), none, none, some (.aload_n 0, 0, 0), some (.iconst 0, 0, 0), some (.putfield 156, 1114, 1020), none, none, some (.aload_n 0, 0, 0), some (.getfield 83, 1107, 1013)],
  [none, none, some (.ireturn, 0, 0)]]
/-- WheelRideModel.readWheel()V -/
def am_c159 : List (List (Option am_E)) := [[some (.aload_n 0, 0, 0), some (.iconst 0, 0, 0), some (.putfield 109, 1121, 1027), none, none, some (.aload_n 0, 0, 0), some (.iconst 0, 0, 0), some (.putfield 112, 1123, 1029), none, none, some (.aload_n 0, 0, 0), some (.iconst 0, 0, 0), some (.putfield 132, 1124, 1030), none, none, some (.aload_n 0, 0, 0)],
  [some (.bipush 119, 0, 0), none, some (.invokevirtual 138, 160, 1149), none, none, some (.aload_n 0, 0, 0), some (.getfield 53, 1125, 1031), none, none, some (.iconst 0, 0, 0), some (.aload_n 0, 0, 0), some (.iconst 4, 0, 0), some (.bipush 12, 0, 0), none, some (.invokevirtual 135, 163, 1161), none],
  [none, some (.iastore, 0, 0), some (.aload_n 0, 0, 0), some (.bipush 44, 0, 0), none, some (.invokevirtual 138, 160, 1149), none, none, some (.aload_n 0, 0, 0), some (.getfield 53, 1125, 1031), none, none, some (.iconst 1, 0, 0), some (.aload_n 0, 0, 0), some (.iconst 1, 0, 0), some (.bipush 99, 0, 0)],
  [none, some (.invokevirtual 135, 163, 1161), none, none, some (.iastore, 0, 0), some (.aload_n 0, 0, 0), some (.bipush 59, 0, 0), none, some (.invokevirtual 138, 160, 1149), none, none, some (.aload_n 0, 0, 0), some (.getfield 112, 1123, 1029), none, none, some (.ifCond .ne 28, 91, 0)],
  [none, none, some (.aload_n 0, 0, 0), some (.getfield 132, 1124, 1030), none, none, some (.ifCond .eq 14, 84, 0), none, none, some (.aload_n 0, 0, 0), some (.getfield 109, 1121, 1027), none, none, some (.aload_n 0, 0, 0), some (.getfield 105, 1105, 1011), none],
  [none, some (.if_icmp .ge 10, 91, 0), none, none, some (.aload_n 0, 0, 0), some (.invokevirtual 141, 165, 1169), none, none, some (.goto (-29), 59, 0), none, none, some (.return_, 0, 0)]]
/-- WheelRideModel.sign(I)V -/
def am_c160 : List (List (Option am_E)) := [[some (.aload_n 0, 0, 0), some (.getfield 112, 1123, 1029), none, none, some (.ifCond .ne 24, 28, 0), none, none, some (.aload_n 0, 0, 0), some (.invokevirtual 118, 161, 1153), none, none, some (.iload_n 1, 0, 0), some (.if_icmp .ne 16, 28, 0), none, none, some (.aload_n 0, 0, 0)],
  [some (.dup, 0, 0), some (.getfield 109, 1121, 1027), none, none, some (.iconst 1, 0, 0), some (.iadd, 0, 0), some (.putfield 109, 1121, 1027), none, none, some (.goto 8, 33, 0), none, none, some (.aload_n 0, 0, 0), some (.iconst 1, 0, 0), some (.invokevirtual 122, 162, 1157), none],
  [none, some (.return_, 0, 0)]]
/-- WheelRideModel.here()I -/
def am_c161 : List (List (Option am_E)) := [[some (.aload_n 0, 0, 0), some (.getfield 109, 1121, 1027), none, none, some (.aload_n 0, 0, 0), some (.getfield 105, 1105, 1011), none, none, some (.if_icmp .ge 15, 23, 0), none, none, some (.aload_n 0, 0, 0), some (.getfield 19, 1104, 1010), none, none, some (.aload_n 0, 0, 0)],
  [some (.getfield 109, 1121, 1027), none, none, some (.iaload, 0, 0), some (.goto 4, 24, 0), none, none, some (.iconst (-1), 0, 0), some (.ireturn, 0, 0)]]
/-- WheelRideModel.fails(I)V -/
def am_c162 : List (List (Option am_E)) := [[some (.aload_n 0, 0, 0), some (.getfield 112, 1123, 1029), none, none, some (.ifCond .ne 16, 20, 0), none, none, some (.aload_n 0, 0, 0), some (.iload_n 1, 0, 0), some (.putfield 112, 1123, 1029), none, none, some (.aload_n 0, 0, 0), some (.aload_n 0, 0, 0), some (.getfield 109, 1121, 1027), none],
  [none, some (.putfield 115, 1122, 1028), none, none, some (.return_, 0, 0)]]
/-- WheelRideModel.number(II)I -/
def am_c163 : List (List (Option am_E)) := [[some (.aload_n 0, 0, 0), some (.invokevirtual 126, 164, 1165), none, none, some (.istore_n 3, 0, 0), some (.aload_n 0, 0, 0), some (.getfield 112, 1123, 1029), none, none, some (.ifCond .ne 12, 21, 0), none, none, some (.iload_n 3, 0, 0), some (.iconst 1, 0, 0), some (.iconst 2, 0, 0), some (.invokestatic 79, 150, 1109)],
  [none, none, some (.ifCond .ne 10, 28, 0), none, none, some (.aload_n 0, 0, 0), some (.iconst 1, 0, 0), some (.invokevirtual 122, 162, 1157), none, none, some (.iconst 0, 0, 0), some (.ireturn, 0, 0), some (.iload_n 3, 0, 0), some (.iconst 1, 0, 0), some (.if_icmp .ne 18, 48, 0), none],
  [none, some (.aload_n 0, 0, 0), some (.getfield 19, 1104, 1010), none, none, some (.aload_n 0, 0, 0), some (.getfield 109, 1121, 1027), none, none, some (.iaload, 0, 0), some (.bipush 48, 0, 0), none, some (.isub, 0, 0), some (.goto 33, 78, 0), none, none],
  [some (.bipush 10, 0, 0), none, some (.aload_n 0, 0, 0), some (.getfield 19, 1104, 1010), none, none, some (.aload_n 0, 0, 0), some (.getfield 109, 1121, 1027), none, none, some (.iaload, 0, 0), some (.bipush 48, 0, 0), none, some (.isub, 0, 0), some (.imul, 0, 0), some (.aload_n 0, 0, 0)],
  [some (.getfield 19, 1104, 1010), none, none, some (.aload_n 0, 0, 0), some (.getfield 109, 1121, 1027), none, none, some (.iconst 1, 0, 0), some (.iadd, 0, 0), some (.iaload, 0, 0), some (.iadd, 0, 0), some (.bipush 48, 0, 0), none, some (.isub, 0, 0), some (.istore 4, 0, 0), none],
  [some (.iload 4, 0, 0), none, some (.iload_n 1, 0, 0), some (.iload_n 2, 0, 0), some (.invokestatic 79, 150, 1109), none, none, some (.ifCond .ne 10, 97, 0), none, none, some (.aload_n 0, 0, 0), some (.iconst 2, 0, 0), some (.invokevirtual 122, 162, 1157), none, none, some (.iconst 0, 0, 0)],
  [some (.ireturn, 0, 0), some (.aload_n 0, 0, 0), some (.dup, 0, 0), some (.getfield 109, 1121, 1027), none, none, some (.iload_n 3, 0, 0), some (.iadd, 0, 0), some (.putfield 109, 1121, 1027), none, none, some (.iload 4, 0, 0), none, some (.ireturn, 0, 0)]]
/-- WheelRideModel.figures()I -/
def am_c164 : List (List (Option am_E)) := [[some (.iconst 0, 0, 0), some (.istore_n 1, 0, 0), some (.aload_n 0, 0, 0), some (.getfield 109, 1121, 1027), none, none, some (.iload_n 1, 0, 0), some (.iadd, 0, 0), some (.aload_n 0, 0, 0), some (.getfield 105, 1105, 1011), none, none, some (.if_icmp .ge 30, 42, 0), none, none, some (.aload_n 0, 0, 0)],
  [some (.getfield 19, 1104, 1010), none, none, some (.aload_n 0, 0, 0), some (.getfield 109, 1121, 1027), none, none, some (.iload_n 1, 0, 0), some (.iadd, 0, 0), some (.iaload, 0, 0), some (.bipush 48, 0, 0), none, some (.bipush 57, 0, 0), none, some (.invokestatic 79, 150, 1109), none],
  [none, some (.ifCond .eq 9, 42, 0), none, none, some (.iinc 1 1, 0, 0), none, none, some (.goto (-37), 2, 0), none, none, some (.iload_n 1, 0, 0), some (.ireturn, 0, 0)]]
/-- WheelRideModel.readParty()V -/
def am_c165 : List (List (Option am_E)) := [[some (.aload_n 0, 0, 0), some (.invokevirtual 118, 161, 1153), none, none, some (.invokestatic 129, 166, 1173), none, none, some (.istore_n 1, 0, 0), some (.iload_n 1, 0, 0), some (.ifCond .eq 12, 21, 0), none, none, some (.aload_n 0, 0, 0), some (.getfield 132, 1124, 1030), none, none],
  [some (.bipush 6, 0, 0), none, some (.if_icmp .ne 17, 35, 0), none, none, some (.aload_n 0, 0, 0), some (.iload_n 1, 0, 0), some (.ifCond .ne 7, 30, 0), none, none, some (.iconst 1, 0, 0), some (.goto 4, 31, 0), none, none, some (.iconst 3, 0, 0), some (.invokevirtual 122, 162, 1157)],
  [none, none, some (.return_, 0, 0), some (.aload_n 0, 0, 0), some (.dup, 0, 0), some (.getfield 109, 1121, 1027), none, none, some (.iconst 1, 0, 0), some (.iadd, 0, 0), some (.putfield 109, 1121, 1027), none, none, some (.aload_n 0, 0, 0), some (.getfield 56, 1126, 1032), none],
  [none, some (.aload_n 0, 0, 0), some (.getfield 132, 1124, 1030), none, none, some (.iload_n 1, 0, 0), some (.iastore, 0, 0), some (.aload_n 0, 0, 0), some (.getfield 59, 1127, 1033), none, none, some (.aload_n 0, 0, 0), some (.getfield 132, 1124, 1030), none, none, some (.aload_n 0, 0, 0)],
  [some (.iconst 1, 0, 0), some (.bipush 9, 0, 0), none, some (.invokevirtual 135, 163, 1161), none, none, some (.iastore, 0, 0), some (.aload_n 0, 0, 0), some (.bipush 44, 0, 0), none, some (.invokevirtual 138, 160, 1149), none, none, some (.aload_n 0, 0, 0), some (.getfield 62, 1128, 1034), none],
  [none, some (.aload_n 0, 0, 0), some (.getfield 132, 1124, 1030), none, none, some (.aload_n 0, 0, 0), some (.iconst 1, 0, 0), some (.iconst 4, 0, 0), some (.invokevirtual 135, 163, 1161), none, none, some (.iastore, 0, 0), some (.aload_n 0, 0, 0), some (.bipush 59, 0, 0), none, some (.invokevirtual 138, 160, 1149)],
  [none, none, some (.aload_n 0, 0, 0), some (.dup, 0, 0), some (.getfield 132, 1124, 1030), none, none, some (.iconst 1, 0, 0), some (.iadd, 0, 0), some (.putfield 132, 1124, 1030), none, none, some (.return_, 0, 0)]]
/-- WheelRideModel.sortBy(I)I -/
def am_c166 : List (List (Option am_E)) := [[some (.iload_n 0, 0, 0), some (.bipush 102, 0, 0), none, some (.if_icmp .ne 7, 10, 0), none, none, some (.iconst 1, 0, 0), some (.goto 44, 51, 0), none, none, some (.iload_n 0, 0, 0), some (.bipush 108, 0, 0), none, some (.if_icmp .ne 7, 20, 0), none, none],
  [some (.iconst 2, 0, 0), some (.goto 34, 51, 0), none, none, some (.iload_n 0, 0, 0), some (.bipush 103, 0, 0), none, some (.if_icmp .ne 7, 30, 0), none, none, some (.iconst 3, 0, 0), some (.goto 24, 51, 0), none, none, some (.iload_n 0, 0, 0), some (.bipush 115, 0, 0)],
  [none, some (.if_icmp .ne 7, 40, 0), none, none, some (.iconst 4, 0, 0), some (.goto 14, 51, 0), none, none, some (.iload_n 0, 0, 0), some (.bipush 99, 0, 0), none, some (.if_icmp .ne 7, 50, 0), none, none, some (.iconst 5, 0, 0), some (.goto 4, 51, 0)],
  [none, none, some (.iconst 0, 0, 0), some (.ireturn, 0, 0)]]
/-- WheelRideModel.bring([II[III)V -/
def am_c167 : List (List (Option am_E)) := [[some (.iconst 0, 0, 0), some (.istore 5, 0, 0), none, some (.iload 5, 0, 0), none, some (.iload 4, 0, 0), none, some (.if_icmp .ge 21, 28, 0), none, none, some (.aload_n 2, 0, 0), some (.iload_n 3, 0, 0), some (.iload 5, 0, 0), none, some (.iadd, 0, 0), some (.aload_n 0, 0, 0)],
  [some (.iload_n 1, 0, 0), some (.iload 5, 0, 0), none, some (.iadd, 0, 0), some (.iaload, 0, 0), some (.iastore, 0, 0), some (.iinc 5 1, 0, 0), none, none, some (.goto (-22), 3, 0), none, none, some (.return_, 0, 0)]]
/-- WheelRideModel.fault()I -/
def am_c168 : List (List (Option am_E)) := [[some (.aload_n 0, 0, 0), some (.getfield 147, 1106, 1012), none, none, some (.ireturn, 0, 0)]]
/-- WheelRideModel.undo()I -/
def am_c169 : List (List (Option am_E)) := [[some (.aload_n 0, 0, 0), some (.getfield 156, 1114, 1020), none, none, some (.ifCond .ne 6, 10, 0), none, none, some (.ldc 193, 3, 1189), none, some (.ireturn, 0, 0), some (.aload_n 0, 0, 0), some (.dup, 0, 0), some (.getfield 156, 1114, 1020), none, none, some (.iconst 1, 0, 0)],
  [some (.isub, 0, 0), some (.putfield 156, 1114, 1020), none, none, some (.aload_n 0, 0, 0), some (.getfield 34, 1113, 1019), none, none, some (.bipush 39, 0, 0), none, some (.aload_n 0, 0, 0), some (.getfield 156, 1114, 1020), none, none, some (.imul, 0, 0), some (.aload_n 0, 0, 0)],
  [some (.getfield 31, 1112, 1018), none, none, some (.iconst 0, 0, 0), some (.bipush 39, 0, 0), none, some (.invokestatic 151, 167, 1177), none, none, some (.aload_n 0, 0, 0), some (.getfield 156, 1114, 1020), none, none, some (.ireturn, 0, 0)]]
/-- WheelRideModel.steps(I)I -/
def am_c170 : List (List (Option am_E)) := [[some (.aload_n 0, 0, 0), some (.invokevirtual 194, 171, 1194), none, none, some (.ifCond .eq 6, 10, 0), none, none, some (.ldc 193, 3, 1189), none, some (.ireturn, 0, 0), some (.iload_n 1, 0, 0), some (.iconst 1, 0, 0), some (.bipush 24, 0, 0), none, some (.invokestatic 79, 150, 1109), none],
  [none, some (.ifCond .ne 6, 23, 0), none, none, some (.ldc 93, 4, 1112), none, some (.ireturn, 0, 0), some (.aload_n 0, 0, 0), some (.getfield 31, 1112, 1018), none, none, some (.iconst 0, 0, 0), some (.iaload, 0, 0), some (.iload_n 1, 0, 0), some (.iadd, 0, 0), some (.sipush 999, 0, 0)],
  [none, none, some (.if_icmp .le 6, 40, 0), none, none, some (.ldc 108, 2, 1140), none, some (.ireturn, 0, 0), some (.iconst 0, 0, 0), some (.istore_n 2, 0, 0), some (.iload_n 2, 0, 0), some (.iload_n 1, 0, 0), some (.if_icmp .ge 22, 66, 0), none, none, some (.aload_n 0, 0, 0)],
  [some (.invokevirtual 198, 172, 1198), none, none, some (.aload_n 0, 0, 0), some (.aload_n 0, 0, 0), some (.getfield 31, 1112, 1018), none, none, some (.invokevirtual 201, 173, 1202), none, none, some (.pop, 0, 0), some (.iinc 2 1, 0, 0), none, none, some (.goto (-21), 42, 0)],
  [none, none, some (.aload_n 0, 0, 0), some (.aload_n 0, 0, 0), some (.getfield 31, 1112, 1018), none, none, some (.iconst 2, 0, 0), some (.invokevirtual 168, 176, 1214), none, none, some (.ireturn, 0, 0)]]
/-- WheelRideModel.isNone()Z -/
def am_c171 : List (List (Option am_E)) := [[some (.aload_n 0, 0, 0), some (.getfield 86, 1108, 1014), none, none, some (.ifCond .ne 7, 11, 0), none, none, some (.iconst 1, 0, 0), some (.goto 4, 12, 0), none, none, some (.iconst 0, 0, 0), some (.ireturn, 0, 0)]]
/-- WheelRideModel.notes()V -/
def am_c172 : List (List (Option am_E)) := [[some (.aload_n 0, 0, 0), some (.getfield 156, 1114, 1020), none, none, some (.bipush 24, 0, 0), none, some (.if_icmp .ne 30, 36, 0), none, none, some (.aload_n 0, 0, 0), some (.getfield 34, 1113, 1019), none, none, some (.bipush 39, 0, 0), none, some (.aload_n 0, 0, 0)],
  [some (.getfield 34, 1113, 1019), none, none, some (.iconst 0, 0, 0), some (.sipush 897, 0, 0), none, none, some (.invokestatic 151, 167, 1177), none, none, some (.aload_n 0, 0, 0), some (.dup, 0, 0), some (.getfield 156, 1114, 1020), none, none, some (.iconst 1, 0, 0)],
  [some (.isub, 0, 0), some (.putfield 156, 1114, 1020), none, none, some (.aload_n 0, 0, 0), some (.getfield 31, 1112, 1018), none, none, some (.iconst 0, 0, 0), some (.aload_n 0, 0, 0), some (.getfield 34, 1113, 1019), none, none, some (.bipush 39, 0, 0), none, some (.aload_n 0, 0, 0)],
  [some (.getfield 156, 1114, 1020), none, none, some (.imul, 0, 0), some (.bipush 39, 0, 0), none, some (.invokestatic 151, 167, 1177), none, none, some (.aload_n 0, 0, 0), some (.dup, 0, 0), some (.getfield 156, 1114, 1020), none, none, some (.iconst 1, 0, 0), some (.iadd, 0, 0)],
  [some (.putfield 156, 1114, 1020), none, none, some (.return_, 0, 0)]]
/-- WheelRideModel.stepOn([I)I -/
def am_c173 : List (List (Option am_E)) := [[some (.aload_n 0, 0, 0), some (.aload_n 1, 0, 0), some (.aload_n 1, 0, 0), some (.iconst 1, 0, 0), some (.iaload, 0, 0), some (.invokevirtual 175, 174, 1206), none, none, some (.istore_n 2, 0, 0), some (.iload_n 2, 0, 0), some (.ifCond .lt 29, 39, 0), none, none, some (.aload_n 0, 0, 0), some (.aload_n 1, 0, 0), some (.iload_n 2, 0, 0)],
  [some (.invokevirtual 178, 175, 1210), none, none, some (.ifCond .eq 20, 39, 0), none, none, some (.aload_n 1, 0, 0), some (.bipush 15, 0, 0), none, some (.iload_n 2, 0, 0), some (.iadd, 0, 0), some (.iconst 2, 0, 0), some (.iastore, 0, 0), some (.aload_n 1, 0, 0), some (.bipush 21, 0, 0), none],
  [some (.iload_n 2, 0, 0), some (.iadd, 0, 0), some (.ldc 155, 5, 1180), none, some (.iastore, 0, 0), some (.iconst (-1), 0, 0), some (.istore_n 2, 0, 0), some (.aload_n 0, 0, 0), some (.aload_n 1, 0, 0), some (.invokevirtual 182, 181, 1233), none, none, some (.istore_n 3, 0, 0), some (.iload_n 2, 0, 0), some (.ifCond .ge 30, 76, 0), none],
  [none, some (.iload_n 3, 0, 0), some (.ifCond .lt 26, 76, 0), none, none, some (.aload_n 1, 0, 0), some (.bipush 15, 0, 0), none, some (.iload_n 3, 0, 0), some (.iadd, 0, 0), some (.iconst 1, 0, 0), some (.iastore, 0, 0), some (.aload_n 1, 0, 0), some (.bipush 21, 0, 0), none, some (.iload_n 3, 0, 0)],
  [some (.iadd, 0, 0), some (.aload_n 1, 0, 0), some (.iconst 1, 0, 0), some (.iaload, 0, 0), some (.iastore, 0, 0), some (.aload_n 1, 0, 0), some (.bipush 27, 0, 0), none, some (.iload_n 3, 0, 0), some (.iadd, 0, 0), some (.iconst 0, 0, 0), some (.iastore, 0, 0), some (.aload_n 0, 0, 0), some (.aload_n 1, 0, 0), some (.invokevirtual 186, 182, 1237), none],
  [none, some (.aload_n 1, 0, 0), some (.iconst 0, 0, 0), some (.dup2, 0, 0), some (.iaload, 0, 0), some (.iconst 1, 0, 0), some (.iadd, 0, 0), some (.iastore, 0, 0), some (.aload_n 1, 0, 0), some (.iconst 1, 0, 0), some (.iaload, 0, 0), some (.iconst 1, 0, 0), some (.iadd, 0, 0), some (.aload_n 0, 0, 0), some (.getfield 86, 1108, 1014), none],
  [none, some (.irem, 0, 0), some (.istore 4, 0, 0), none, some (.aload_n 0, 0, 0), some (.aload_n 1, 0, 0), some (.aload_n 0, 0, 0), some (.aload_n 1, 0, 0), some (.iload 4, 0, 0), none, some (.invokevirtual 172, 177, 1218), none, none, some (.invokevirtual 190, 183, 1241), none, none],
  [some (.ifCond .ne 5, 117, 0), none, none, some (.iconst 1, 0, 0), some (.ireturn, 0, 0), some (.aload_n 1, 0, 0), some (.iconst 1, 0, 0), some (.iload 4, 0, 0), none, some (.iastore, 0, 0), some (.aload_n 0, 0, 0), some (.aload_n 1, 0, 0), some (.iload 4, 0, 0), none, some (.invokevirtual 175, 174, 1206), none],
  [none, some (.istore 5, 0, 0), none, some (.iload 5, 0, 0), none, some (.ifCond .lt 26, 159, 0), none, none, some (.aload_n 1, 0, 0), some (.bipush 27, 0, 0), none, some (.iload 5, 0, 0), none, some (.iadd, 0, 0), some (.iaload, 0, 0), some (.bipush 99, 0, 0)],
  [none, some (.if_icmp .ge 14, 159, 0), none, none, some (.aload_n 1, 0, 0), some (.bipush 27, 0, 0), none, some (.iload 5, 0, 0), none, some (.iadd, 0, 0), some (.dup2, 0, 0), some (.iaload, 0, 0), some (.iconst 1, 0, 0), some (.iadd, 0, 0), some (.iastore, 0, 0), some (.iconst 0, 0, 0)],
  [some (.ireturn, 0, 0)]]
/-- WheelRideModel.partyIn([II)I -/
def am_c174 : List (List (Option am_E)) := [[some (.iconst (-1), 0, 0), some (.istore_n 3, 0, 0), some (.iconst 0, 0, 0), some (.istore 4, 0, 0), none, some (.iload 4, 0, 0), none, some (.aload_n 0, 0, 0), some (.getfield 83, 1107, 1013), none, none, some (.if_icmp .ge 38, 49, 0), none, none, some (.aload_n 1, 0, 0), some (.bipush 15, 0, 0)],
  [none, some (.iload 4, 0, 0), none, some (.iadd, 0, 0), some (.iaload, 0, 0), some (.iconst 1, 0, 0), some (.if_icmp .ne 19, 41, 0), none, none, some (.aload_n 1, 0, 0), some (.bipush 21, 0, 0), none, some (.iload 4, 0, 0), none, some (.iadd, 0, 0), some (.iaload, 0, 0)],
  [some (.iload_n 2, 0, 0), some (.if_icmp .ne 8, 41, 0), none, none, some (.iload 4, 0, 0), none, some (.goto 4, 42, 0), none, none, some (.iload_n 3, 0, 0), some (.istore_n 3, 0, 0), some (.iinc 4 1, 0, 0), none, none, some (.goto (-41), 5, 0), none],
  [none, some (.iload_n 3, 0, 0), some (.ireturn, 0, 0)]]
/-- WheelRideModel.isDone([II)Z -/
def am_c175 : List (List (Option am_E)) := [[some (.aload_n 1, 0, 0), some (.bipush 27, 0, 0), none, some (.iload_n 2, 0, 0), some (.iadd, 0, 0), some (.iaload, 0, 0), some (.aload_n 0, 0, 0), some (.getfield 28, 1111, 1017), none, none, some (.iload_n 2, 0, 0), some (.iaload, 0, 0), some (.if_icmp .lt 7, 19, 0), none, none, some (.iconst 1, 0, 0)],
  [some (.goto 4, 20, 0), none, none, some (.iconst 0, 0, 0), some (.istore_n 3, 0, 0), some (.aload_n 0, 0, 0), some (.getfield 22, 1109, 1015), none, none, some (.iload_n 2, 0, 0), some (.iaload, 0, 0), some (.tableswitch 103 2 5 #[29, 48, 103, 64], 0, 0), none, none, none, none],
  [none, none, none, none, none, none, none, none, none, none, none, none, none, none, none, none],
  [none, none, none, none, none, none, none, none, some (.iload_n 3, 0, 0), some (.ifCond .eq 16, 73, 0), none, none, some (.aload_n 0, 0, 0), some (.aload_n 1, 0, 0), some (.iconst 0, 0, 0), some (.invokevirtual 168, 176, 1214)],
  [none, none, some (.ifCond .eq 7, 73, 0), none, none, some (.iconst 1, 0, 0), some (.goto 4, 74, 0), none, none, some (.iconst 0, 0, 0), some (.ireturn, 0, 0), some (.aload_n 1, 0, 0), some (.bipush 27, 0, 0), none, some (.iload_n 2, 0, 0), some (.iadd, 0, 0)],
  [some (.iaload, 0, 0), some (.iconst 1, 0, 0), some (.if_icmp .lt 7, 89, 0), none, none, some (.iconst 1, 0, 0), some (.goto 4, 90, 0), none, none, some (.iconst 0, 0, 0), some (.ireturn, 0, 0), some (.iload_n 3, 0, 0), some (.ifCond .ne 32, 124, 0), none, none, some (.aload_n 1, 0, 0)],
  [some (.bipush 27, 0, 0), none, some (.iload_n 2, 0, 0), some (.iadd, 0, 0), some (.iaload, 0, 0), some (.iconst 1, 0, 0), some (.if_icmp .lt 26, 128, 0), none, none, some (.aload_n 0, 0, 0), some (.aload_n 1, 0, 0), some (.aload_n 1, 0, 0), some (.iconst 1, 0, 0), some (.iaload, 0, 0), some (.invokevirtual 172, 177, 1218), none],
  [none, some (.invokestatic 165, 180, 1230), none, none, some (.iconst 5, 0, 0), some (.aload_n 1, 0, 0), some (.iconst 2, 0, 0), some (.iaload, 0, 0), some (.imul, 0, 0), some (.if_icmp .lt 7, 128, 0), none, none, some (.iconst 1, 0, 0), some (.goto 4, 129, 0), none, none],
  [some (.iconst 0, 0, 0), some (.ireturn, 0, 0), some (.iload_n 3, 0, 0), some (.ireturn, 0, 0)]]
/-- WheelRideModel.those([II)I -/
def am_c176 : List (List (Option am_E)) := [[some (.iconst 0, 0, 0), some (.istore_n 3, 0, 0), some (.iconst 0, 0, 0), some (.istore 4, 0, 0), none, some (.iload 4, 0, 0), none, some (.aload_n 0, 0, 0), some (.getfield 83, 1107, 1013), none, none, some (.if_icmp .ge 31, 42, 0), none, none, some (.iload_n 3, 0, 0), some (.aload_n 1, 0, 0)],
  [some (.bipush 15, 0, 0), none, some (.iload 4, 0, 0), none, some (.iadd, 0, 0), some (.iaload, 0, 0), some (.iload_n 2, 0, 0), some (.if_icmp .ne 10, 33, 0), none, none, some (.iconst 1, 0, 0), some (.iload 4, 0, 0), none, some (.ishl, 0, 0), some (.goto 4, 34, 0), none],
  [none, some (.iconst 0, 0, 0), some (.ior, 0, 0), some (.istore_n 3, 0, 0), some (.iinc 4 1, 0, 0), none, none, some (.goto (-34), 5, 0), none, none, some (.iload_n 3, 0, 0), some (.ireturn, 0, 0)]]
/-- WheelRideModel.leanBy([II)I -/
def am_c177 : List (List (Option am_E)) := [[some (.iconst 0, 0, 0), some (.istore_n 3, 0, 0), some (.iconst 0, 0, 0), some (.istore 4, 0, 0), none, some (.iload 4, 0, 0), none, some (.aload_n 0, 0, 0), some (.getfield 86, 1108, 1014), none, none, some (.if_icmp .ge 30, 41, 0), none, none, some (.iload_n 3, 0, 0), some (.aload_n 1, 0, 0)],
  [some (.iconst 3, 0, 0), some (.iload 4, 0, 0), none, some (.iadd, 0, 0), some (.iaload, 0, 0), some (.aload_n 0, 0, 0), some (.aload_n 0, 0, 0), some (.iload 4, 0, 0), none, some (.iload_n 2, 0, 0), some (.invokevirtual 159, 178, 1222), none, none, some (.invokevirtual 162, 179, 1226), none, none],
  [some (.imul, 0, 0), some (.iadd, 0, 0), some (.istore_n 3, 0, 0), some (.iinc 4 1, 0, 0), none, none, some (.goto (-33), 5, 0), none, none, some (.iconst 0, 0, 0), some (.istore 4, 0, 0), none, some (.iload 4, 0, 0), none, some (.aload_n 0, 0, 0), some (.getfield 83, 1107, 1013)],
  [none, none, some (.if_icmp .ge 51, 101, 0), none, none, some (.iload_n 3, 0, 0), some (.aload_n 1, 0, 0), some (.bipush 15, 0, 0), none, some (.iload 4, 0, 0), none, some (.iadd, 0, 0), some (.iaload, 0, 0), some (.iconst 1, 0, 0), some (.if_icmp .ne 30, 92, 0), none],
  [none, some (.aload_n 0, 0, 0), some (.getfield 25, 1110, 1016), none, none, some (.iload 4, 0, 0), none, some (.iaload, 0, 0), some (.aload_n 0, 0, 0), some (.aload_n 0, 0, 0), some (.aload_n 1, 0, 0), some (.bipush 21, 0, 0), none, some (.iload 4, 0, 0), none, some (.iadd, 0, 0)],
  [some (.iaload, 0, 0), some (.iload_n 2, 0, 0), some (.invokevirtual 159, 178, 1222), none, none, some (.invokevirtual 162, 179, 1226), none, none, some (.imul, 0, 0), some (.goto 4, 93, 0), none, none, some (.iconst 0, 0, 0), some (.iadd, 0, 0), some (.istore_n 3, 0, 0), some (.iinc 4 1, 0, 0)],
  [none, none, some (.goto (-54), 44, 0), none, none, some (.iload_n 3, 0, 0), some (.ireturn, 0, 0)]]
/-- WheelRideModel.placeOf(II)I -/
def am_c178 : List (List (Option am_E)) := [[some (.iload_n 1, 0, 0), some (.iload_n 2, 0, 0), some (.isub, 0, 0), some (.aload_n 0, 0, 0), some (.getfield 86, 1108, 1014), none, none, some (.iadd, 0, 0), some (.aload_n 0, 0, 0), some (.getfield 86, 1108, 1014), none, none, some (.irem, 0, 0), some (.ireturn, 0, 0)]]
/-- WheelRideModel.pull(I)I -/
def am_c179 : List (List (Option am_E)) := [[some (.aload_n 0, 0, 0), some (.getfield 86, 1108, 1014), none, none, some (.iload_n 1, 0, 0), some (.isub, 0, 0), some (.istore_n 2, 0, 0), some (.iconst 2, 0, 0), some (.iload_n 1, 0, 0), some (.imul, 0, 0), some (.aload_n 0, 0, 0), some (.getfield 86, 1108, 1014), none, none, some (.if_icmp .gt 16, 30, 0), none],
  [none, some (.iload_n 1, 0, 0), some (.aload_n 0, 0, 0), some (.getfield 86, 1108, 1014), none, none, some (.iconst 2, 0, 0), some (.iload_n 1, 0, 0), some (.imul, 0, 0), some (.isub, 0, 0), some (.imul, 0, 0), some (.goto 14, 41, 0), none, none, some (.iload_n 2, 0, 0), some (.ineg, 0, 0)],
  [some (.aload_n 0, 0, 0), some (.getfield 86, 1108, 1014), none, none, some (.iconst 2, 0, 0), some (.iload_n 2, 0, 0), some (.imul, 0, 0), some (.isub, 0, 0), some (.imul, 0, 0), some (.ireturn, 0, 0)]]
/-- WheelRideModel.off(I)I -/
def am_c180 : List (List (Option am_E)) := [[some (.iload_n 0, 0, 0), some (.ifCond .ge 8, 9, 0), none, none, some (.iload_n 0, 0, 0), some (.ineg, 0, 0), some (.goto 4, 10, 0), none, none, some (.iload_n 0, 0, 0), some (.ireturn, 0, 0)]]
/-- WheelRideModel.nextWaiting([I)I -/
def am_c181 : List (List (Option am_E)) := [[some (.iconst 0, 0, 0), some (.istore_n 2, 0, 0), some (.iload_n 2, 0, 0), some (.aload_n 0, 0, 0), some (.getfield 83, 1107, 1013), none, none, some (.if_icmp .ge 30, 37, 0), none, none, some (.aload_n 1, 0, 0), some (.bipush 15, 0, 0), none, some (.aload_n 0, 0, 0), some (.getfield 44, 1117, 1023), none],
  [none, some (.iload_n 2, 0, 0), some (.iaload, 0, 0), some (.iadd, 0, 0), some (.iaload, 0, 0), some (.ifCond .ne 10, 31, 0), none, none, some (.aload_n 0, 0, 0), some (.getfield 44, 1117, 1023), none, none, some (.iload_n 2, 0, 0), some (.iaload, 0, 0), some (.ireturn, 0, 0), some (.iinc 2 1, 0, 0)],
  [none, none, some (.goto (-32), 2, 0), none, none, some (.iconst (-1), 0, 0), some (.ireturn, 0, 0)]]
/-- WheelRideModel.loses([I)V -/
def am_c182 : List (List (Option am_E)) := [[some (.iconst 0, 0, 0), some (.istore_n 2, 0, 0), some (.iload_n 2, 0, 0), some (.aload_n 0, 0, 0), some (.getfield 83, 1107, 1013), none, none, some (.if_icmp .ge 89, 96, 0), none, none, some (.aload_n 1, 0, 0), some (.bipush 15, 0, 0), none, some (.iload_n 2, 0, 0), some (.iadd, 0, 0), some (.iaload, 0, 0)],
  [some (.ifCond .ne 74, 90, 0), none, none, some (.aload_n 1, 0, 0), some (.bipush 33, 0, 0), none, some (.iload_n 2, 0, 0), some (.iadd, 0, 0), some (.dup2, 0, 0), some (.iaload, 0, 0), some (.iconst 1, 0, 0), some (.iadd, 0, 0), some (.iastore, 0, 0), some (.aload_n 0, 0, 0), some (.getfield 22, 1109, 1015), none],
  [none, some (.iload_n 2, 0, 0), some (.iaload, 0, 0), some (.iconst 4, 0, 0), some (.if_icmp .ne 13, 49, 0), none, none, some (.aload_n 1, 0, 0), some (.bipush 33, 0, 0), none, some (.iload_n 2, 0, 0), some (.iadd, 0, 0), some (.iaload, 0, 0), some (.iconst 5, 0, 0), some (.if_icmp .ge 23, 69, 0), none],
  [none, some (.aload_n 0, 0, 0), some (.getfield 22, 1109, 1015), none, none, some (.iload_n 2, 0, 0), some (.iaload, 0, 0), some (.iconst 5, 0, 0), some (.if_icmp .ne 17, 73, 0), none, none, some (.aload_n 1, 0, 0), some (.bipush 33, 0, 0), none, some (.iload_n 2, 0, 0), some (.iadd, 0, 0)],
  [some (.iaload, 0, 0), some (.iconst 2, 0, 0), some (.if_icmp .lt 7, 73, 0), none, none, some (.iconst 1, 0, 0), some (.goto 4, 74, 0), none, none, some (.iconst 0, 0, 0), some (.istore_n 3, 0, 0), some (.aload_n 1, 0, 0), some (.bipush 15, 0, 0), none, some (.iload_n 2, 0, 0), some (.iadd, 0, 0)],
  [some (.iload_n 3, 0, 0), some (.ifCond .eq 7, 88, 0), none, none, some (.iconst 3, 0, 0), some (.goto 4, 89, 0), none, none, some (.iconst 0, 0, 0), some (.iastore, 0, 0), some (.iinc 2 1, 0, 0), none, none, some (.goto (-91), 2, 0), none, none],
  [some (.return_, 0, 0)]]
/-- WheelRideModel.isBalance([II)Z -/
def am_c183 : List (List (Option am_E)) := [[some (.iload_n 2, 0, 0), some (.invokestatic 165, 180, 1230), none, none, some (.bipush 10, 0, 0), none, some (.aload_n 1, 0, 0), some (.iconst 2, 0, 0), some (.iaload, 0, 0), some (.imul, 0, 0), some (.if_icmp .gt 7, 17, 0), none, none, some (.iconst 1, 0, 0), some (.goto 4, 18, 0), none],
  [none, some (.iconst 0, 0, 0), some (.ireturn, 0, 0)]]
/-- WheelRideModel.turnTo(I)I -/
def am_c184 : List (List (Option am_E)) := [[some (.aload_n 0, 0, 0), some (.iload_n 1, 0, 0), some (.invokevirtual 204, 185, 1249), none, none, some (.ifCond .ne 6, 11, 0), none, none, some (.ldc 93, 4, 1112), none, some (.ireturn, 0, 0), some (.aload_n 0, 0, 0), some (.getfield 31, 1112, 1018), none, none, some (.iconst 1, 0, 0)],
  [some (.iaload, 0, 0), some (.iload_n 1, 0, 0), some (.if_icmp .ne 6, 24, 0), none, none, some (.ldc 193, 3, 1189), none, some (.ireturn, 0, 0), some (.aload_n 0, 0, 0), some (.getfield 31, 1112, 1018), none, none, some (.iconst 1, 0, 0), some (.iaload, 0, 0), some (.istore_n 2, 0, 0), some (.aload_n 0, 0, 0)],
  [some (.invokevirtual 198, 172, 1198), none, none, some (.aload_n 0, 0, 0), some (.getfield 31, 1112, 1018), none, none, some (.iconst 1, 0, 0), some (.iload_n 1, 0, 0), some (.iastore, 0, 0), some (.iload_n 2, 0, 0), some (.ireturn, 0, 0)]]
/-- WheelRideModel.isGondola(I)Z -/
def am_c185 : List (List (Option am_E)) := [[some (.iload_n 1, 0, 0), some (.iconst 0, 0, 0), some (.aload_n 0, 0, 0), some (.getfield 86, 1108, 1014), none, none, some (.iconst 1, 0, 0), some (.isub, 0, 0), some (.invokestatic 79, 150, 1109), none, none, some (.ireturn, 0, 0)]]
/-- WheelRideModel.ballast(II)I -/
def am_c186 : List (List (Option am_E)) := [[some (.aload_n 0, 0, 0), some (.iload_n 1, 0, 0), some (.invokevirtual 204, 185, 1249), none, none, some (.ifCond .eq 13, 18, 0), none, none, some (.iload_n 2, 0, 0), some (.iconst 0, 0, 0), some (.bipush 9, 0, 0), none, some (.invokestatic 79, 150, 1109), none, none, some (.ifCond .ne 6, 21, 0)],
  [none, none, some (.ldc 93, 4, 1112), none, some (.ireturn, 0, 0), some (.aload_n 0, 0, 0), some (.getfield 31, 1112, 1018), none, none, some (.iconst 3, 0, 0), some (.iload_n 1, 0, 0), some (.iadd, 0, 0), some (.iaload, 0, 0), some (.istore_n 3, 0, 0), some (.aload_n 0, 0, 0), some (.invokevirtual 198, 172, 1198)],
  [none, none, some (.aload_n 0, 0, 0), some (.getfield 31, 1112, 1018), none, none, some (.iconst 3, 0, 0), some (.iload_n 1, 0, 0), some (.iadd, 0, 0), some (.iload_n 2, 0, 0), some (.iastore, 0, 0), some (.iload_n 3, 0, 0), some (.ireturn, 0, 0)]]
/-- WheelRideModel.limit(I)I -/
def am_c187 : List (List (Option am_E)) := [[some (.aload_n 0, 0, 0), some (.invokevirtual 194, 171, 1194), none, none, some (.ifCond .eq 6, 10, 0), none, none, some (.ldc 193, 3, 1189), none, some (.ireturn, 0, 0), some (.iload_n 1, 0, 0), some (.iconst 1, 0, 0), some (.bipush 99, 0, 0), none, some (.invokestatic 79, 150, 1109), none],
  [none, some (.ifCond .ne 6, 23, 0), none, none, some (.ldc 93, 4, 1112), none, some (.ireturn, 0, 0), some (.aload_n 0, 0, 0), some (.getfield 31, 1112, 1018), none, none, some (.iconst 2, 0, 0), some (.iaload, 0, 0), some (.istore_n 2, 0, 0), some (.aload_n 0, 0, 0), some (.invokevirtual 198, 172, 1198)],
  [none, none, some (.aload_n 0, 0, 0), some (.getfield 31, 1112, 1018), none, none, some (.iconst 2, 0, 0), some (.iload_n 1, 0, 0), some (.iastore, 0, 0), some (.iload_n 2, 0, 0), some (.ireturn, 0, 0)]]
/-- WheelRideModel.again(I)I -/
def am_c188 : List (List (Option am_E)) := [[some (.aload_n 0, 0, 0), some (.iload_n 1, 0, 0), some (.invokevirtual 207, 189, 1265), none, none, some (.ifCond .ne 6, 11, 0), none, none, some (.ldc 93, 4, 1112), none, some (.ireturn, 0, 0), some (.aload_n 0, 0, 0), some (.getfield 31, 1112, 1018), none, none, some (.bipush 15, 0, 0)],
  [none, some (.iload_n 1, 0, 0), some (.iadd, 0, 0), some (.iaload, 0, 0), some (.iconst 2, 0, 0), some (.if_icmp .ge 6, 27, 0), none, none, some (.ldc 193, 3, 1189), none, some (.ireturn, 0, 0), some (.aload_n 0, 0, 0), some (.invokevirtual 198, 172, 1198), none, none, some (.aload_n 0, 0, 0)],
  [some (.getfield 31, 1112, 1018), none, none, some (.iload_n 1, 0, 0), some (.invokestatic 210, 190, 1269), none, none, some (.aload_n 0, 0, 0), some (.aload_n 0, 0, 0), some (.getfield 31, 1112, 1018), none, none, some (.iconst 0, 0, 0), some (.invokevirtual 168, 176, 1214), none, none],
  [some (.ireturn, 0, 0)]]
/-- WheelRideModel.isParty(I)Z -/
def am_c189 : List (List (Option am_E)) := [[some (.iload_n 1, 0, 0), some (.iconst 0, 0, 0), some (.aload_n 0, 0, 0), some (.getfield 83, 1107, 1013), none, none, some (.iconst 1, 0, 0), some (.isub, 0, 0), some (.invokestatic 79, 150, 1109), none, none, some (.ireturn, 0, 0)]]
/-- WheelRideModel.comes([II)V -/
def am_c190 : List (List (Option am_E)) := [[some (.aload_n 0, 0, 0), some (.bipush 15, 0, 0), none, some (.iload_n 1, 0, 0), some (.iadd, 0, 0), some (.iconst 0, 0, 0), some (.iastore, 0, 0), some (.aload_n 0, 0, 0), some (.bipush 27, 0, 0), none, some (.iload_n 1, 0, 0), some (.iadd, 0, 0), some (.iconst 0, 0, 0), some (.iastore, 0, 0), some (.aload_n 0, 0, 0), some (.bipush 33, 0, 0)],
  [none, some (.iload_n 1, 0, 0), some (.iadd, 0, 0), some (.iconst 0, 0, 0), some (.iastore, 0, 0), some (.return_, 0, 0)]]
/-- WheelRideModel.party(II)I -/
def am_c191 : List (List (Option am_E)) := [[some (.aload_n 0, 0, 0), some (.iload_n 1, 0, 0), some (.invokevirtual 207, 189, 1265), none, none, some (.ifCond .ne 6, 11, 0), none, none, some (.ldc 93, 4, 1112), none, some (.ireturn, 0, 0), some (.iload_n 2, 0, 0), some (.tableswitch 94 0 5 #[40, 50, 60, 67, 74, 84], 0, 0), none, none, none],
  [none, none, none, none, none, none, none, none, none, none, none, none, none, none, none, none],
  [none, none, none, none, none, none, none, none, none, none, none, none, none, none, none, none],
  [none, none, none, none, some (.aload_n 0, 0, 0), some (.getfield 31, 1112, 1018), none, none, some (.bipush 15, 0, 0), none, some (.iload_n 1, 0, 0), some (.iadd, 0, 0), some (.iaload, 0, 0), some (.ireturn, 0, 0), some (.aload_n 0, 0, 0), some (.getfield 31, 1112, 1018)],
  [none, none, some (.bipush 21, 0, 0), none, some (.iload_n 1, 0, 0), some (.iadd, 0, 0), some (.iaload, 0, 0), some (.ireturn, 0, 0), some (.aload_n 0, 0, 0), some (.getfield 25, 1110, 1016), none, none, some (.iload_n 1, 0, 0), some (.iaload, 0, 0), some (.ireturn, 0, 0), some (.aload_n 0, 0, 0)],
  [some (.getfield 28, 1111, 1017), none, none, some (.iload_n 1, 0, 0), some (.iaload, 0, 0), some (.ireturn, 0, 0), some (.aload_n 0, 0, 0), some (.getfield 31, 1112, 1018), none, none, some (.bipush 27, 0, 0), none, some (.iload_n 1, 0, 0), some (.iadd, 0, 0), some (.iaload, 0, 0), some (.ireturn, 0, 0)],
  [some (.aload_n 0, 0, 0), some (.getfield 31, 1112, 1018), none, none, some (.bipush 33, 0, 0), none, some (.iload_n 1, 0, 0), some (.iadd, 0, 0), some (.iaload, 0, 0), some (.ireturn, 0, 0), some (.ldc 93, 4, 1112), none, some (.ireturn, 0, 0)]]
/-- WheelRideModel.gondola(II)I -/
def am_c192 : List (List (Option am_E)) := [[some (.aload_n 0, 0, 0), some (.iload_n 1, 0, 0), some (.invokevirtual 204, 185, 1249), none, none, some (.ifCond .ne 6, 11, 0), none, none, some (.ldc 93, 4, 1112), none, some (.ireturn, 0, 0), some (.aload_n 0, 0, 0), some (.iload_n 1, 0, 0), some (.aload_n 0, 0, 0), some (.getfield 31, 1112, 1018), none],
  [none, some (.iconst 1, 0, 0), some (.iaload, 0, 0), some (.invokevirtual 159, 178, 1222), none, none, some (.istore_n 3, 0, 0), some (.aload_n 0, 0, 0), some (.aload_n 0, 0, 0), some (.getfield 31, 1112, 1018), none, none, some (.iload_n 1, 0, 0), some (.invokevirtual 175, 174, 1206), none, none],
  [some (.istore 4, 0, 0), none, some (.iload_n 2, 0, 0), some (.tableswitch 59 0 3 #[29, 31, 37, 46], 0, 0), none, none, none, none, none, none, none, none, none, none, none, none],
  [none, none, none, none, none, none, none, none, none, none, none, none, none, none, none, none],
  [some (.iload_n 3, 0, 0), some (.ireturn, 0, 0), some (.aload_n 0, 0, 0), some (.iload_n 3, 0, 0), some (.invokevirtual 162, 179, 1226), none, none, some (.ireturn, 0, 0), some (.aload_n 0, 0, 0), some (.getfield 31, 1112, 1018), none, none, some (.iconst 3, 0, 0), some (.iload_n 1, 0, 0), some (.iadd, 0, 0), some (.iaload, 0, 0)],
  [some (.ireturn, 0, 0), some (.iload 4, 0, 0), none, some (.ifCond .ge 8, 91, 0), none, none, some (.ldc 155, 5, 1180), none, some (.goto 5, 93, 0), none, none, some (.iload 4, 0, 0), none, some (.ireturn, 0, 0), some (.ldc 93, 4, 1112), none],
  [some (.ireturn, 0, 0)]]
/-- WheelRideModel.stand(I)I -/
def am_c193 : List (List (Option am_E)) := [[some (.aload_n 0, 0, 0), some (.invokevirtual 194, 171, 1194), none, none, some (.ifCond .eq 6, 10, 0), none, none, some (.ldc 193, 3, 1189), none, some (.ireturn, 0, 0), some (.aload_n 0, 0, 0), some (.aload_n 0, 0, 0), some (.getfield 31, 1112, 1018), none, none, some (.aload_n 0, 0, 0)],
  [some (.getfield 31, 1112, 1018), none, none, some (.iconst 1, 0, 0), some (.iaload, 0, 0), some (.invokevirtual 172, 177, 1218), none, none, some (.istore_n 2, 0, 0), some (.iload_n 1, 0, 0), some (.tableswitch 73 0 4 #[34, 39, 46, 53, 55], 0, 0), none, none, none, none, none],
  [none, none, none, none, none, none, none, none, none, none, none, none, none, none, none, none],
  [none, none, none, none, none, none, none, none, none, none, none, none, some (.aload_n 0, 0, 0), some (.getfield 86, 1108, 1014), none, none],
  [some (.ireturn, 0, 0), some (.aload_n 0, 0, 0), some (.getfield 31, 1112, 1018), none, none, some (.iconst 1, 0, 0), some (.iaload, 0, 0), some (.ireturn, 0, 0), some (.aload_n 0, 0, 0), some (.getfield 31, 1112, 1018), none, none, some (.iconst 2, 0, 0), some (.iaload, 0, 0), some (.ireturn, 0, 0), some (.iload_n 2, 0, 0)],
  [some (.ireturn, 0, 0), some (.aload_n 0, 0, 0), some (.aload_n 0, 0, 0), some (.getfield 31, 1112, 1018), none, none, some (.iload_n 2, 0, 0), some (.invokevirtual 190, 183, 1241), none, none, some (.ifCond .eq 7, 97, 0), none, none, some (.iconst 1, 0, 0), some (.goto 4, 98, 0), none],
  [none, some (.iconst 0, 0, 0), some (.ireturn, 0, 0), some (.iload_n 1, 0, 0), some (.iconst 5, 0, 0), some (.bipush 8, 0, 0), none, some (.invokestatic 79, 150, 1109), none, none, some (.ifCond .eq 17, 123, 0), none, none, some (.aload_n 0, 0, 0), some (.aload_n 0, 0, 0), some (.getfield 31, 1112, 1018)],
  [none, none, some (.iload_n 1, 0, 0), some (.iconst 5, 0, 0), some (.isub, 0, 0), some (.invokevirtual 168, 176, 1214), none, none, some (.goto 5, 125, 0), none, none, some (.ldc 93, 4, 1112), none, some (.ireturn, 0, 0)]]
/-- WheelRideModel.ahead(III)I -/
def am_c194 : List (List (Option am_E)) := [[some (.aload_n 0, 0, 0), some (.iload_n 1, 0, 0), some (.invokevirtual 207, 189, 1265), none, none, some (.ifCond .eq 22, 27, 0), none, none, some (.iload_n 2, 0, 0), some (.iconst 0, 0, 0), some (.bipush 60, 0, 0), none, some (.invokestatic 79, 150, 1109), none, none, some (.ifCond .eq 12, 27, 0)],
  [none, none, some (.iload_n 3, 0, 0), some (.iconst 0, 0, 0), some (.iconst 3, 0, 0), some (.invokestatic 79, 150, 1109), none, none, some (.ifCond .ne 6, 30, 0), none, none, some (.ldc 93, 4, 1112), none, some (.ireturn, 0, 0), some (.aload_n 0, 0, 0), some (.invokevirtual 214, 195, 1288)],
  [none, none, some (.aload_n 0, 0, 0), some (.iload_n 2, 0, 0), some (.invokevirtual 217, 196, 1292), none, none, some (.pop, 0, 0), some (.aload_n 0, 0, 0), some (.getfield 47, 1118, 1024), none, none, some (.iload_n 3, 0, 0), some (.ifCond .ne 10, 55, 0), none, none],
  [some (.bipush 15, 0, 0), none, some (.iload_n 1, 0, 0), some (.iadd, 0, 0), some (.goto 31, 83, 0), none, none, some (.iload_n 3, 0, 0), some (.iconst 1, 0, 0), some (.if_icmp .ne 10, 67, 0), none, none, some (.bipush 21, 0, 0), none, some (.iload_n 1, 0, 0), some (.iadd, 0, 0)],
  [some (.goto 19, 83, 0), none, none, some (.iload_n 3, 0, 0), some (.iconst 2, 0, 0), some (.if_icmp .ne 10, 79, 0), none, none, some (.bipush 27, 0, 0), none, some (.iload_n 1, 0, 0), some (.iadd, 0, 0), some (.goto 7, 83, 0), none, none, some (.bipush 33, 0, 0)],
  [none, some (.iload_n 1, 0, 0), some (.iadd, 0, 0), some (.iaload, 0, 0), some (.ireturn, 0, 0)]]
/-- WheelRideModel.asItIs()V -/
def am_c195 : List (List (Option am_E)) := [[some (.aload_n 0, 0, 0), some (.getfield 31, 1112, 1018), none, none, some (.iconst 0, 0, 0), some (.aload_n 0, 0, 0), some (.getfield 47, 1118, 1024), none, none, some (.iconst 0, 0, 0), some (.bipush 39, 0, 0), none, some (.invokestatic 151, 167, 1177), none, none, some (.return_, 0, 0)]]
/-- WheelRideModel.goes(I)I -/
def am_c196 : List (List (Option am_E)) := [[some (.iconst 0, 0, 0), some (.istore_n 2, 0, 0), some (.iconst 0, 0, 0), some (.istore_n 3, 0, 0), some (.iload_n 3, 0, 0), some (.iload_n 1, 0, 0), some (.if_icmp .ge 20, 26, 0), none, none, some (.iload_n 2, 0, 0), some (.aload_n 0, 0, 0), some (.aload_n 0, 0, 0), some (.getfield 47, 1118, 1024), none, none, some (.invokevirtual 201, 173, 1202)],
  [none, none, some (.iadd, 0, 0), some (.istore_n 2, 0, 0), some (.iinc 3 1, 0, 0), none, none, some (.goto (-19), 4, 0), none, none, some (.iload_n 2, 0, 0), some (.ireturn, 0, 0)]]
/-- WheelRideModel.leans(I)I -/
def am_c197 : List (List (Option am_E)) := [[some (.aload_n 0, 0, 0), some (.invokevirtual 194, 171, 1194), none, none, some (.ifCond .eq 6, 10, 0), none, none, some (.ldc 193, 3, 1189), none, some (.ireturn, 0, 0), some (.iload_n 1, 0, 0), some (.iconst 0, 0, 0), some (.bipush 60, 0, 0), none, some (.invokestatic 79, 150, 1109), none],
  [none, some (.ifCond .ne 6, 23, 0), none, none, some (.ldc 93, 4, 1112), none, some (.ireturn, 0, 0), some (.aload_n 0, 0, 0), some (.invokevirtual 214, 195, 1288), none, none, some (.aload_n 0, 0, 0), some (.iload_n 1, 0, 0), some (.invokevirtual 217, 196, 1292), none, none],
  [some (.pop, 0, 0), some (.aload_n 0, 0, 0), some (.aload_n 0, 0, 0), some (.getfield 47, 1118, 1024), none, none, some (.aload_n 0, 0, 0), some (.getfield 47, 1118, 1024), none, none, some (.iconst 1, 0, 0), some (.iaload, 0, 0), some (.invokevirtual 172, 177, 1218), none, none, some (.ireturn, 0, 0)]]
/-- WheelRideModel.when(II)I -/
def am_c198 : List (List (Option am_E)) := [[some (.aload_n 0, 0, 0), some (.iload_n 1, 0, 0), some (.invokevirtual 207, 189, 1265), none, none, some (.ifCond .eq 12, 17, 0), none, none, some (.iload_n 2, 0, 0), some (.iconst 1, 0, 0), some (.iconst 3, 0, 0), some (.invokestatic 79, 150, 1109), none, none, some (.ifCond .ne 6, 20, 0), none],
  [none, some (.ldc 93, 4, 1112), none, some (.ireturn, 0, 0), some (.aload_n 0, 0, 0), some (.invokevirtual 214, 195, 1288), none, none, some (.iconst 0, 0, 0), some (.istore_n 3, 0, 0), some (.iload_n 3, 0, 0), some (.bipush 60, 0, 0), none, some (.if_icmp .gt 30, 59, 0), none, none],
  [some (.aload_n 0, 0, 0), some (.getfield 47, 1118, 1024), none, none, some (.bipush 15, 0, 0), none, some (.iload_n 1, 0, 0), some (.iadd, 0, 0), some (.iaload, 0, 0), some (.iload_n 2, 0, 0), some (.if_icmp .ne 5, 47, 0), none, none, some (.iload_n 3, 0, 0), some (.ireturn, 0, 0), some (.aload_n 0, 0, 0)],
  [some (.iconst 1, 0, 0), some (.invokevirtual 217, 196, 1292), none, none, some (.pop, 0, 0), some (.iinc 3 1, 0, 0), none, none, some (.goto (-30), 26, 0), none, none, some (.ldc 155, 5, 1180), none, some (.ireturn, 0, 0)]]
/-- WheelRideModel.first(I)I -/
def am_c199 : List (List (Option am_E)) := [[some (.aload_n 0, 0, 0), some (.invokevirtual 194, 171, 1194), none, none, some (.ifCond .eq 6, 10, 0), none, none, some (.ldc 193, 3, 1189), none, some (.ireturn, 0, 0), some (.iload_n 1, 0, 0), some (.iconst 0, 0, 0), some (.iconst 1, 0, 0), some (.invokestatic 79, 150, 1109), none, none],
  [some (.ifCond .ne 6, 22, 0), none, none, some (.ldc 93, 4, 1112), none, some (.ireturn, 0, 0), some (.aload_n 0, 0, 0), some (.invokevirtual 214, 195, 1288), none, none, some (.iconst 0, 0, 0), some (.istore_n 2, 0, 0), some (.iload_n 2, 0, 0), some (.bipush 60, 0, 0), none, some (.if_icmp .gt 61, 92, 0)],
  [none, none, some (.iload_n 1, 0, 0), some (.iconst 1, 0, 0), some (.if_icmp .ne 27, 63, 0), none, none, some (.aload_n 0, 0, 0), some (.aload_n 0, 0, 0), some (.getfield 47, 1118, 1024), none, none, some (.iconst 0, 0, 0), some (.invokevirtual 168, 176, 1214), none, none],
  [some (.aload_n 0, 0, 0), some (.aload_n 0, 0, 0), some (.getfield 47, 1118, 1024), none, none, some (.iconst 1, 0, 0), some (.invokevirtual 168, 176, 1214), none, none, some (.ior, 0, 0), some (.ifCond .ne 5, 63, 0), none, none, some (.iload_n 2, 0, 0), some (.ireturn, 0, 0), some (.aload_n 0, 0, 0)],
  [some (.iconst 1, 0, 0), some (.invokevirtual 217, 196, 1292), none, none, some (.iconst 1, 0, 0), some (.if_icmp .ne 17, 86, 0), none, none, some (.iload_n 1, 0, 0), some (.ifCond .ne 13, 86, 0), none, none, some (.iload_n 2, 0, 0), some (.bipush 60, 0, 0), none, some (.if_icmp .ge 7, 86, 0)],
  [none, none, some (.iload_n 2, 0, 0), some (.iconst 1, 0, 0), some (.iadd, 0, 0), some (.ireturn, 0, 0), some (.iinc 2 1, 0, 0), none, none, some (.goto (-61), 28, 0), none, none, some (.ldc 155, 5, 1180), none, some (.ireturn, 0, 0)]]
/-- WheelRideModel.order(II)I -/
def am_c200 : List (List (Option am_E)) := [[some (.aload_n 0, 0, 0), some (.invokevirtual 194, 171, 1194), none, none, some (.ifCond .eq 6, 10, 0), none, none, some (.ldc 193, 3, 1189), none, some (.ireturn, 0, 0), some (.iload_n 1, 0, 0), some (.iconst 1, 0, 0), some (.bipush 40, 0, 0), none, some (.invokestatic 79, 150, 1109), none],
  [none, some (.ifCond .eq 8, 25, 0), none, none, some (.iload_n 2, 0, 0), some (.iconst (-1), 0, 0), some (.if_icmp .ge 6, 28, 0), none, none, some (.ldc 93, 4, 1112), none, some (.ireturn, 0, 0), some (.iconst (-1), 0, 0), some (.istore_n 3, 0, 0), some (.iconst (-1), 0, 0), some (.istore 4, 0, 0)],
  [none, some (.iconst 1, 0, 0), some (.istore 5, 0, 0), none, some (.aload_n 0, 0, 0), some (.invokevirtual 71, 147, 1002), none, none, some (.iload 5, 0, 0), none, some (.ifCond .eq 87, 129, 0), none, none, some (.aload_n 0, 0, 0), some (.invokevirtual 214, 195, 1288), none],
  [none, some (.aload_n 0, 0, 0), some (.iload_n 1, 0, 0), some (.invokevirtual 217, 196, 1292), none, none, some (.pop, 0, 0), some (.aload_n 0, 0, 0), some (.aload_n 0, 0, 0), some (.getfield 47, 1118, 1024), none, none, some (.iconst 2, 0, 0), some (.invokevirtual 168, 176, 1214), none, none],
  [some (.invokestatic 220, 201, 1312), none, none, some (.istore 6, 0, 0), none, some (.aload_n 0, 0, 0), some (.aload_n 0, 0, 0), some (.getfield 47, 1118, 1024), none, none, some (.invokevirtual 223, 202, 1315), none, none, some (.istore 7, 0, 0), none, some (.iload 6, 0, 0)],
  [none, some (.iload_n 3, 0, 0), some (.if_icmp .gt 16, 98, 0), none, none, some (.iload 6, 0, 0), none, some (.iload_n 3, 0, 0), some (.if_icmp .ne 32, 120, 0), none, none, some (.iload 7, 0, 0), none, some (.iload 4, 0, 0), none, some (.if_icmp .le 25, 120, 0)],
  [none, none, some (.iload 6, 0, 0), none, some (.istore_n 3, 0, 0), some (.iload 7, 0, 0), none, some (.istore 4, 0, 0), none, some (.aload_n 0, 0, 0), some (.getfield 44, 1117, 1023), none, none, some (.iconst 0, 0, 0), some (.aload_n 0, 0, 0), some (.getfield 65, 1129, 1035)],
  [none, none, some (.iconst 0, 0, 0), some (.bipush 6, 0, 0), none, some (.invokestatic 151, 167, 1177), none, none, some (.aload_n 0, 0, 0), some (.invokevirtual 226, 203, 1319), none, none, some (.istore 5, 0, 0), none, some (.goto (-86), 40, 0), none],
  [none, some (.aload_n 0, 0, 0), some (.invokevirtual 71, 147, 1002), none, none, some (.iload_n 2, 0, 0), some (.ifCond .ge 7, 141, 0), none, none, some (.iload_n 3, 0, 0), some (.goto 22, 160, 0), none, none, some (.iload_n 2, 0, 0), some (.aload_n 0, 0, 0), some (.getfield 83, 1107, 1013)],
  [none, none, some (.if_icmp .ge 12, 158, 0), none, none, some (.aload_n 0, 0, 0), some (.getfield 65, 1129, 1035), none, none, some (.iload_n 2, 0, 0), some (.iaload, 0, 0), some (.goto 5, 160, 0), none, none, some (.ldc 155, 5, 1180), none],
  [some (.ireturn, 0, 0)]]
/-- WheelRideModel.bits(I)I -/
def am_c201 : List (List (Option am_E)) := [[some (.iconst 0, 0, 0), some (.istore_n 1, 0, 0), some (.iconst 0, 0, 0), some (.istore_n 2, 0, 0), some (.iload_n 2, 0, 0), some (.bipush 6, 0, 0), none, some (.if_icmp .ge 17, 24, 0), none, none, some (.iload_n 1, 0, 0), some (.iload_n 0, 0, 0), some (.iload_n 2, 0, 0), some (.ishr, 0, 0), some (.iconst 1, 0, 0), some (.iand, 0, 0)],
  [some (.iadd, 0, 0), some (.istore_n 1, 0, 0), some (.iinc 2 1, 0, 0), none, none, some (.goto (-17), 4, 0), none, none, some (.iload_n 1, 0, 0), some (.ireturn, 0, 0)]]
/-- WheelRideModel.riddenOf([I)I -/
def am_c202 : List (List (Option am_E)) := [[some (.iconst 0, 0, 0), some (.istore_n 2, 0, 0), some (.iconst 0, 0, 0), some (.istore_n 3, 0, 0), some (.iload_n 3, 0, 0), some (.aload_n 0, 0, 0), some (.getfield 83, 1107, 1013), none, none, some (.if_icmp .ge 18, 27, 0), none, none, some (.iload_n 2, 0, 0), some (.aload_n 1, 0, 0), some (.bipush 27, 0, 0), none],
  [some (.iload_n 3, 0, 0), some (.iadd, 0, 0), some (.iaload, 0, 0), some (.iadd, 0, 0), some (.istore_n 2, 0, 0), some (.iinc 3 1, 0, 0), none, none, some (.goto (-20), 4, 0), none, none, some (.iload_n 2, 0, 0), some (.ireturn, 0, 0)]]
/-- WheelRideModel.nextOrder()Z -/
def am_c203 : List (List (Option am_E)) := [[some (.aload_n 0, 0, 0), some (.getfield 83, 1107, 1013), none, none, some (.iconst 2, 0, 0), some (.isub, 0, 0), some (.istore_n 1, 0, 0), some (.iload_n 1, 0, 0), some (.ifCond .lt 26, 34, 0), none, none, some (.aload_n 0, 0, 0), some (.getfield 44, 1117, 1023), none, none, some (.iload_n 1, 0, 0)],
  [some (.iaload, 0, 0), some (.aload_n 0, 0, 0), some (.getfield 44, 1117, 1023), none, none, some (.iload_n 1, 0, 0), some (.iconst 1, 0, 0), some (.iadd, 0, 0), some (.iaload, 0, 0), some (.if_icmp .le 9, 34, 0), none, none, some (.iinc 1 (-1), 0, 0), none, none, some (.goto (-24), 7, 0)],
  [none, none, some (.iload_n 1, 0, 0), some (.ifCond .ge 5, 40, 0), none, none, some (.iconst 0, 0, 0), some (.ireturn, 0, 0), some (.aload_n 0, 0, 0), some (.getfield 83, 1107, 1013), none, none, some (.iconst 1, 0, 0), some (.isub, 0, 0), some (.istore_n 2, 0, 0), some (.aload_n 0, 0, 0)],
  [some (.getfield 44, 1117, 1023), none, none, some (.iload_n 2, 0, 0), some (.iaload, 0, 0), some (.aload_n 0, 0, 0), some (.getfield 44, 1117, 1023), none, none, some (.iload_n 1, 0, 0), some (.iaload, 0, 0), some (.if_icmp .ge 9, 68, 0), none, none, some (.iinc 2 (-1), 0, 0), none],
  [none, some (.goto (-18), 47, 0), none, none, some (.aload_n 0, 0, 0), some (.getfield 44, 1117, 1023), none, none, some (.iload_n 1, 0, 0), some (.iaload, 0, 0), some (.istore_n 3, 0, 0), some (.aload_n 0, 0, 0), some (.getfield 44, 1117, 1023), none, none, some (.iload_n 1, 0, 0)],
  [some (.aload_n 0, 0, 0), some (.getfield 44, 1117, 1023), none, none, some (.iload_n 2, 0, 0), some (.iaload, 0, 0), some (.iastore, 0, 0), some (.aload_n 0, 0, 0), some (.getfield 44, 1117, 1023), none, none, some (.iload_n 2, 0, 0), some (.iload_n 3, 0, 0), some (.iastore, 0, 0), some (.iload_n 1, 0, 0), some (.iconst 1, 0, 0)],
  [some (.iadd, 0, 0), some (.istore 4, 0, 0), none, some (.aload_n 0, 0, 0), some (.getfield 83, 1107, 1013), none, none, some (.iconst 1, 0, 0), some (.isub, 0, 0), some (.istore 5, 0, 0), none, some (.iload 4, 0, 0), none, some (.iload 5, 0, 0), none, some (.if_icmp .ge 42, 153, 0)],
  [none, none, some (.aload_n 0, 0, 0), some (.getfield 44, 1117, 1023), none, none, some (.iload 4, 0, 0), none, some (.iaload, 0, 0), some (.istore_n 3, 0, 0), some (.aload_n 0, 0, 0), some (.getfield 44, 1117, 1023), none, none, some (.iload 4, 0, 0), none],
  [some (.aload_n 0, 0, 0), some (.getfield 44, 1117, 1023), none, none, some (.iload 5, 0, 0), none, some (.iaload, 0, 0), some (.iastore, 0, 0), some (.aload_n 0, 0, 0), some (.getfield 44, 1117, 1023), none, none, some (.iload 5, 0, 0), none, some (.iload_n 3, 0, 0), some (.iastore, 0, 0)],
  [some (.iinc 4 1, 0, 0), none, none, some (.iinc 5 (-1), 0, 0), none, none, some (.goto (-43), 107, 0), none, none, some (.iconst 1, 0, 0), some (.ireturn, 0, 0)]]
/-- WheelRideModel.load(II)I -/
def am_c204 : List (List (Option am_E)) := [[some (.aload_n 0, 0, 0), some (.invokevirtual 194, 171, 1194), none, none, some (.ifCond .eq 6, 10, 0), none, none, some (.ldc 193, 3, 1189), none, some (.ireturn, 0, 0), some (.iload_n 1, 0, 0), some (.iconst 1, 0, 0), some (.bipush 40, 0, 0), none, some (.invokestatic 79, 150, 1109), none],
  [none, some (.ifCond .eq 12, 29, 0), none, none, some (.iload_n 2, 0, 0), some (.iconst 0, 0, 0), some (.iconst 1, 0, 0), some (.invokestatic 79, 150, 1109), none, none, some (.ifCond .ne 6, 32, 0), none, none, some (.ldc 93, 4, 1112), none, some (.ireturn, 0, 0)],
  [some (.ldc 155, 5, 1180), none, some (.istore_n 3, 0, 0), some (.iconst 0, 0, 0), some (.istore 4, 0, 0), none, some (.iconst 0, 0, 0), some (.istore 5, 0, 0), none, some (.iload 5, 0, 0), none, some (.aload_n 0, 0, 0), some (.getfield 86, 1108, 1014), none, none, some (.if_icmp .ge 99, 146, 0)],
  [none, none, some (.iconst 1, 0, 0), some (.istore 6, 0, 0), none, some (.iload 6, 0, 0), none, some (.bipush 10, 0, 0), none, some (.if_icmp .ge 83, 140, 0), none, none, some (.aload_n 0, 0, 0), some (.invokevirtual 214, 195, 1288), none, none],
  [some (.aload_n 0, 0, 0), some (.getfield 47, 1118, 1024), none, none, some (.iconst 3, 0, 0), some (.iload 5, 0, 0), none, some (.iadd, 0, 0), some (.iload 6, 0, 0), none, some (.iastore, 0, 0), some (.aload_n 0, 0, 0), some (.iload_n 1, 0, 0), some (.invokevirtual 217, 196, 1292), none, none],
  [some (.istore 7, 0, 0), none, some (.iload_n 3, 0, 0), some (.ldc 155, 5, 1180), none, some (.if_icmp .eq 10, 95, 0), none, none, some (.iload 7, 0, 0), none, some (.iload 4, 0, 0), none, some (.if_icmp .ge 7, 99, 0), none, none, some (.iconst 1, 0, 0)],
  [some (.goto 4, 100, 0), none, none, some (.iconst 0, 0, 0), some (.istore 8, 0, 0), none, some (.iload 8, 0, 0), none, some (.ifCond .eq 14, 118, 0), none, none, some (.bipush 10, 0, 0), none, some (.iload 5, 0, 0), none, some (.imul, 0, 0)],
  [some (.iload 6, 0, 0), none, some (.iadd, 0, 0), some (.goto 4, 119, 0), none, none, some (.iload_n 3, 0, 0), some (.istore_n 3, 0, 0), some (.iload 8, 0, 0), none, some (.ifCond .eq 8, 130, 0), none, none, some (.iload 7, 0, 0), none, some (.goto 5, 132, 0)],
  [none, none, some (.iload 4, 0, 0), none, some (.istore 4, 0, 0), none, some (.iinc 6 1, 0, 0), none, none, some (.goto (-84), 53, 0), none, none, some (.iinc 5 1, 0, 0), none, none, some (.goto (-102), 41, 0)],
  [none, none, some (.iload_n 2, 0, 0), some (.ifCond .ne 7, 154, 0), none, none, some (.iload_n 3, 0, 0), some (.goto 5, 156, 0), none, none, some (.iload 4, 0, 0), none, some (.ireturn, 0, 0)]]
/-- WheelRideModel.bear(I)I -/
def am_c205 : List (List (Option am_E)) := [[some (.aload_n 0, 0, 0), some (.invokevirtual 194, 171, 1194), none, none, some (.ifCond .eq 6, 10, 0), none, none, some (.ldc 193, 3, 1189), none, some (.ireturn, 0, 0), some (.iload_n 1, 0, 0), some (.iconst 1, 0, 0), some (.bipush 40, 0, 0), none, some (.invokestatic 79, 150, 1109), none],
  [none, some (.ifCond .ne 6, 23, 0), none, none, some (.ldc 93, 4, 1112), none, some (.ireturn, 0, 0), some (.iconst 1, 0, 0), some (.istore_n 2, 0, 0), some (.iload_n 2, 0, 0), some (.bipush 99, 0, 0), none, some (.if_icmp .gt 30, 58, 0), none, none, some (.aload_n 0, 0, 0)],
  [some (.invokevirtual 214, 195, 1288), none, none, some (.aload_n 0, 0, 0), some (.getfield 47, 1118, 1024), none, none, some (.iconst 2, 0, 0), some (.iload_n 2, 0, 0), some (.iastore, 0, 0), some (.aload_n 0, 0, 0), some (.iload_n 1, 0, 0), some (.invokevirtual 217, 196, 1292), none, none, some (.ifCond .ne 5, 52, 0)],
  [none, none, some (.iload_n 2, 0, 0), some (.ireturn, 0, 0), some (.iinc 2 1, 0, 0), none, none, some (.goto (-30), 25, 0), none, none, some (.ldc 155, 5, 1180), none, some (.ireturn, 0, 0)]]
/-- WheelRideModel.sets(II)I -/
def am_c206 : List (List (Option am_E)) := [[some (.aload_n 0, 0, 0), some (.invokevirtual 194, 171, 1194), none, none, some (.ifCond .eq 6, 10, 0), none, none, some (.ldc 193, 3, 1189), none, some (.ireturn, 0, 0), some (.iload_n 1, 0, 0), some (.iconst 0, 0, 0), some (.bipush 54, 0, 0), none, some (.invokestatic 79, 150, 1109), none],
  [none, some (.ifCond .eq 12, 29, 0), none, none, some (.iload_n 2, 0, 0), some (.iconst 0, 0, 0), some (.iconst 2, 0, 0), some (.invokestatic 79, 150, 1109), none, none, some (.ifCond .ne 6, 32, 0), none, none, some (.ldc 93, 4, 1112), none, some (.ireturn, 0, 0)],
  [some (.aload_n 0, 0, 0), some (.aload_n 0, 0, 0), some (.getfield 31, 1112, 1018), none, none, some (.iconst 0, 0, 0), some (.invokevirtual 168, 176, 1214), none, none, some (.aload_n 0, 0, 0), some (.aload_n 0, 0, 0), some (.getfield 31, 1112, 1018), none, none, some (.iconst 1, 0, 0), some (.invokevirtual 168, 176, 1214)],
  [none, none, some (.ior, 0, 0), some (.istore_n 3, 0, 0), some (.iconst 0, 0, 0), some (.istore 4, 0, 0), none, some (.iload_n 3, 0, 0), some (.istore 5, 0, 0), none, some (.iconst 0, 0, 0), some (.istore 6, 0, 0), none, some (.iconst 0, 0, 0), some (.istore 7, 0, 0), none],
  [some (.iload 7, 0, 0), none, some (.iconst 1, 0, 0), some (.aload_n 0, 0, 0), some (.getfield 83, 1107, 1013), none, none, some (.ishl, 0, 0), some (.if_icmp .ge 45, 117, 0), none, none, some (.iload 7, 0, 0), none, some (.iload_n 3, 0, 0), some (.iconst (-1), 0, 0), some (.ixor, 0, 0)],
  [some (.iand, 0, 0), some (.ifCond .ne 30, 111, 0), none, none, some (.aload_n 0, 0, 0), some (.iload 7, 0, 0), none, some (.invokevirtual 229, 207, 1335), none, none, some (.iload_n 1, 0, 0), some (.if_icmp .ne 20, 111, 0), none, none, some (.iinc 4 1, 0, 0), none],
  [none, some (.iload 5, 0, 0), none, some (.iload 7, 0, 0), none, some (.iand, 0, 0), some (.istore 5, 0, 0), none, some (.iload 6, 0, 0), none, some (.iload 7, 0, 0), none, some (.ior, 0, 0), some (.istore 6, 0, 0), none, some (.iinc 7 1, 0, 0)],
  [none, none, some (.goto (-50), 64, 0), none, none, some (.iload_n 2, 0, 0), some (.ifCond .ne 8, 126, 0), none, none, some (.iload 4, 0, 0), none, some (.goto 24, 147, 0), none, none, some (.iload 4, 0, 0), none],
  [some (.ifCond .ne 7, 135, 0), none, none, some (.iconst 0, 0, 0), some (.goto 15, 147, 0), none, none, some (.iload_n 2, 0, 0), some (.iconst 1, 0, 0), some (.if_icmp .ne 8, 145, 0), none, none, some (.iload 5, 0, 0), none, some (.goto 5, 147, 0), none],
  [none, some (.iload 6, 0, 0), none, some (.ireturn, 0, 0)]]
/-- WheelRideModel.weightOf(I)I -/
def am_c207 : List (List (Option am_E)) := [[some (.iconst 0, 0, 0), some (.istore_n 2, 0, 0), some (.iconst 0, 0, 0), some (.istore_n 3, 0, 0), some (.iload_n 3, 0, 0), some (.aload_n 0, 0, 0), some (.getfield 83, 1107, 1013), none, none, some (.if_icmp .ge 24, 33, 0), none, none, some (.iload_n 2, 0, 0), some (.iload_n 1, 0, 0), some (.iload_n 3, 0, 0), some (.ishr, 0, 0)],
  [some (.iconst 1, 0, 0), some (.iand, 0, 0), some (.aload_n 0, 0, 0), some (.getfield 25, 1110, 1016), none, none, some (.iload_n 3, 0, 0), some (.iaload, 0, 0), some (.imul, 0, 0), some (.iadd, 0, 0), some (.istore_n 2, 0, 0), some (.iinc 3 1, 0, 0), none, none, some (.goto (-26), 4, 0), none],
  [none, some (.iload_n 2, 0, 0), some (.ireturn, 0, 0)]]
/-- WheelRideModel.share(II)I -/
def am_c208 : List (List (Option am_E)) := [[some (.aload_n 0, 0, 0), some (.iload_n 1, 0, 0), some (.invokevirtual 207, 189, 1265), none, none, some (.ifCond .eq 14, 19, 0), none, none, some (.iload_n 2, 0, 0), some (.iconst 0, 0, 0), some (.sipush 999, 0, 0), none, none, some (.invokestatic 79, 150, 1109), none, none],
  [some (.ifCond .ne 6, 22, 0), none, none, some (.ldc 93, 4, 1112), none, some (.ireturn, 0, 0), some (.iconst 0, 0, 0), some (.istore_n 3, 0, 0), some (.iconst 0, 0, 0), some (.istore 4, 0, 0), none, some (.iload 4, 0, 0), none, some (.aload_n 0, 0, 0), some (.getfield 83, 1107, 1013), none],
  [none, some (.if_icmp .ge 40, 73, 0), none, none, some (.iload_n 3, 0, 0), some (.aload_n 0, 0, 0), some (.getfield 31, 1112, 1018), none, none, some (.bipush 15, 0, 0), none, some (.iload 4, 0, 0), none, some (.iadd, 0, 0), some (.iaload, 0, 0), some (.iconst 2, 0, 0)],
  [some (.if_icmp .ne 16, 64, 0), none, none, some (.aload_n 0, 0, 0), some (.getfield 31, 1112, 1018), none, none, some (.bipush 27, 0, 0), none, some (.iload 4, 0, 0), none, some (.iadd, 0, 0), some (.iaload, 0, 0), some (.goto 4, 65, 0), none, none],
  [some (.iconst 0, 0, 0), some (.iadd, 0, 0), some (.istore_n 3, 0, 0), some (.iinc 4 1, 0, 0), none, none, some (.goto (-43), 27, 0), none, none, some (.iload_n 3, 0, 0), some (.ifCond .ne 7, 81, 0), none, none, some (.iconst 0, 0, 0), some (.goto 4, 82, 0), none],
  [none, some (.iload_n 2, 0, 0), some (.istore 4, 0, 0), none, some (.iconst 0, 0, 0), some (.istore 5, 0, 0), none, some (.iload 5, 0, 0), none, some (.aload_n 0, 0, 0), some (.getfield 83, 1107, 1013), none, none, some (.if_icmp .ge 22, 115, 0), none, none],
  [some (.iload 4, 0, 0), none, some (.aload_n 0, 0, 0), some (.iload 5, 0, 0), none, some (.iload_n 2, 0, 0), some (.iload_n 3, 0, 0), some (.invokevirtual 232, 209, 1343), none, none, some (.isub, 0, 0), some (.istore 4, 0, 0), none, some (.iinc 5 1, 0, 0), none, none],
  [some (.goto (-25), 87, 0), none, none, some (.iconst 0, 0, 0), some (.istore 5, 0, 0), none, some (.iconst 0, 0, 0), some (.istore 6, 0, 0), none, some (.iload 6, 0, 0), none, some (.iload_n 1, 0, 0), some (.if_icmp .ge 46, 170, 0), none, none, some (.iload 5, 0, 0)],
  [none, some (.aload_n 0, 0, 0), some (.getfield 31, 1112, 1018), none, none, some (.bipush 15, 0, 0), none, some (.iload 6, 0, 0), none, some (.iadd, 0, 0), some (.iaload, 0, 0), some (.iconst 2, 0, 0), some (.if_icmp .ne 20, 160, 0), none, none, some (.aload_n 0, 0, 0)],
  [some (.getfield 31, 1112, 1018), none, none, some (.bipush 27, 0, 0), none, some (.iload 6, 0, 0), none, some (.iadd, 0, 0), some (.iaload, 0, 0), some (.ifCond .le 7, 160, 0), none, none, some (.iconst 1, 0, 0), some (.goto 4, 161, 0), none, none],
  [some (.iconst 0, 0, 0), some (.iadd, 0, 0), some (.istore 5, 0, 0), none, some (.iinc 6 1, 0, 0), none, none, some (.goto (-46), 121, 0), none, none, some (.aload_n 0, 0, 0), some (.getfield 31, 1112, 1018), none, none, some (.bipush 15, 0, 0), none],
  [some (.iload_n 1, 0, 0), some (.iadd, 0, 0), some (.iaload, 0, 0), some (.iconst 2, 0, 0), some (.if_icmp .ne 19, 199, 0), none, none, some (.aload_n 0, 0, 0), some (.getfield 31, 1112, 1018), none, none, some (.bipush 27, 0, 0), none, some (.iload_n 1, 0, 0), some (.iadd, 0, 0), some (.iaload, 0, 0)],
  [some (.ifCond .le 7, 199, 0), none, none, some (.iconst 1, 0, 0), some (.goto 4, 200, 0), none, none, some (.iconst 0, 0, 0), some (.istore 6, 0, 0), none, some (.aload_n 0, 0, 0), some (.iload_n 1, 0, 0), some (.iload_n 2, 0, 0), some (.iload_n 3, 0, 0), some (.invokevirtual 232, 209, 1343), none],
  [none, some (.iload 6, 0, 0), none, some (.ifCond .eq 14, 225, 0), none, none, some (.iload 5, 0, 0), none, some (.iload 4, 0, 0), none, some (.if_icmp .ge 7, 225, 0), none, none, some (.iconst 1, 0, 0), some (.goto 4, 226, 0), none],
  [none, some (.iconst 0, 0, 0), some (.iadd, 0, 0), some (.ireturn, 0, 0)]]
/-- WheelRideModel.sharesOf(III)I -/
def am_c209 : List (List (Option am_E)) := [[some (.iload_n 3, 0, 0), some (.ifCond .eq 16, 17, 0), none, none, some (.aload_n 0, 0, 0), some (.getfield 31, 1112, 1018), none, none, some (.bipush 15, 0, 0), none, some (.iload_n 1, 0, 0), some (.iadd, 0, 0), some (.iaload, 0, 0), some (.iconst 2, 0, 0), some (.if_icmp .eq 7, 21, 0), none],
  [none, some (.iconst 0, 0, 0), some (.goto 16, 34, 0), none, none, some (.iload_n 2, 0, 0), some (.aload_n 0, 0, 0), some (.getfield 31, 1112, 1018), none, none, some (.bipush 27, 0, 0), none, some (.iload_n 1, 0, 0), some (.iadd, 0, 0), some (.iaload, 0, 0), some (.imul, 0, 0)],
  [some (.iload_n 3, 0, 0), some (.idiv, 0, 0), some (.ireturn, 0, 0)]]
/-- WheelRideModel.byTurns(II)I -/
def am_c210 : List (List (Option am_E)) := [[some (.aload_n 0, 0, 0), some (.invokevirtual 194, 171, 1194), none, none, some (.ifCond .eq 6, 10, 0), none, none, some (.ldc 193, 3, 1189), none, some (.ireturn, 0, 0), some (.iload_n 1, 0, 0), some (.iconst 0, 0, 0), some (.iconst 4, 0, 0), some (.invokestatic 79, 150, 1109), none, none],
  [some (.ifCond .eq 13, 29, 0), none, none, some (.iload_n 2, 0, 0), some (.iconst 1, 0, 0), some (.bipush 20, 0, 0), none, some (.invokestatic 79, 150, 1109), none, none, some (.ifCond .ne 6, 32, 0), none, none, some (.ldc 93, 4, 1112), none, some (.ireturn, 0, 0)],
  [some (.iconst 0, 0, 0), some (.istore_n 3, 0, 0), some (.iload_n 3, 0, 0), some (.iconst 1, 0, 0), some (.iload_n 1, 0, 0), some (.ishl, 0, 0), some (.if_icmp .ge 22, 60, 0), none, none, some (.aload_n 0, 0, 0), some (.getfield 68, 1130, 1036), none, none, some (.iload_n 3, 0, 0), some (.aload_n 0, 0, 0), some (.iload_n 3, 0, 0)],
  [some (.iload_n 1, 0, 0), some (.iload_n 2, 0, 0), some (.invokevirtual 236, 211, 1351), none, none, some (.iastore, 0, 0), some (.iinc 3 1, 0, 0), none, none, some (.goto (-23), 34, 0), none, none, some (.iload_n 1, 0, 0), some (.iconst 1, 0, 0), some (.isub, 0, 0), some (.istore_n 3, 0, 0)],
  [some (.iload_n 3, 0, 0), some (.ifCond .lt 90, 155, 0), none, none, some (.iconst 0, 0, 0), some (.istore 4, 0, 0), none, some (.iload 4, 0, 0), none, some (.iconst 1, 0, 0), some (.iload_n 3, 0, 0), some (.ishl, 0, 0), some (.if_icmp .ge 73, 149, 0), none, none, some (.aload_n 0, 0, 0)],
  [some (.getfield 68, 1130, 1036), none, none, some (.iconst 2, 0, 0), some (.iload 4, 0, 0), none, some (.imul, 0, 0), some (.iaload, 0, 0), some (.istore 5, 0, 0), none, some (.aload_n 0, 0, 0), some (.getfield 68, 1130, 1036), none, none, some (.iconst 2, 0, 0), some (.iload 4, 0, 0)],
  [none, some (.imul, 0, 0), some (.iconst 1, 0, 0), some (.iadd, 0, 0), some (.iaload, 0, 0), some (.istore 6, 0, 0), none, some (.aload_n 0, 0, 0), some (.getfield 68, 1130, 1036), none, none, some (.iload 4, 0, 0), none, some (.iload_n 3, 0, 0), some (.iconst 2, 0, 0), some (.irem, 0, 0)],
  [some (.ifCond .ne 7, 119, 0), none, none, some (.iconst 1, 0, 0), some (.goto 4, 120, 0), none, none, some (.iconst 0, 0, 0), some (.iload 5, 0, 0), none, some (.iload 6, 0, 0), none, some (.if_icmp .le 7, 131, 0), none, none, some (.iconst 1, 0, 0)],
  [some (.goto 4, 132, 0), none, none, some (.iconst 0, 0, 0), some (.if_icmp .ne 8, 140, 0), none, none, some (.iload 5, 0, 0), none, some (.goto 5, 142, 0), none, none, some (.iload 6, 0, 0), none, some (.iastore, 0, 0), some (.iinc 4 1, 0, 0)],
  [none, none, some (.goto (-75), 71, 0), none, none, some (.iinc 3 (-1), 0, 0), none, none, some (.goto (-88), 64, 0), none, none, some (.aload_n 0, 0, 0), some (.getfield 68, 1130, 1036), none, none, some (.iconst 0, 0, 0)],
  [some (.iaload, 0, 0), some (.ireturn, 0, 0)]]
/-- WheelRideModel.worthOf(III)I -/
def am_c211 : List (List (Option am_E)) := [[some (.aload_n 0, 0, 0), some (.invokevirtual 214, 195, 1288), none, none, some (.iconst 0, 0, 0), some (.istore 4, 0, 0), none, some (.iload 4, 0, 0), none, some (.iload_n 2, 0, 0), some (.if_icmp .ge 112, 122, 0), none, none, some (.iload_n 1, 0, 0), some (.iload_n 2, 0, 0), some (.iconst 1, 0, 0)],
  [some (.isub, 0, 0), some (.iload 4, 0, 0), none, some (.isub, 0, 0), some (.ishr, 0, 0), some (.iconst 1, 0, 0), some (.iand, 0, 0), some (.iconst 1, 0, 0), some (.if_icmp .ne 7, 31, 0), none, none, some (.iconst 1, 0, 0), some (.goto 4, 32, 0), none, none, some (.iconst 0, 0, 0)],
  [some (.istore 5, 0, 0), none, some (.iconst 3, 0, 0), some (.aload_n 0, 0, 0), some (.getfield 47, 1118, 1024), none, none, some (.iconst 1, 0, 0), some (.iaload, 0, 0), some (.iadd, 0, 0), some (.istore 6, 0, 0), none, some (.iload 5, 0, 0), none, some (.ifCond .eq 46, 92, 0), none],
  [none, some (.iload 4, 0, 0), none, some (.iconst 2, 0, 0), some (.irem, 0, 0), some (.ifCond .ne 39, 92, 0), none, none, some (.aload_n 0, 0, 0), some (.getfield 47, 1118, 1024), none, none, some (.iload 6, 0, 0), none, some (.aload_n 0, 0, 0), some (.getfield 47, 1118, 1024)],
  [none, none, some (.iload 6, 0, 0), none, some (.iaload, 0, 0), some (.bipush 6, 0, 0), none, some (.if_icmp .le 8, 79, 0), none, none, some (.bipush 9, 0, 0), none, some (.goto 12, 88, 0), none, none, some (.aload_n 0, 0, 0)],
  [some (.getfield 47, 1118, 1024), none, none, some (.iload 6, 0, 0), none, some (.iaload, 0, 0), some (.iconst 3, 0, 0), some (.iadd, 0, 0), some (.iastore, 0, 0), some (.goto 27, 116, 0), none, none, some (.iload 5, 0, 0), none, some (.ifCond .eq 22, 116, 0), none],
  [none, some (.aload_n 0, 0, 0), some (.getfield 47, 1118, 1024), none, none, some (.iconst 1, 0, 0), some (.aload_n 0, 0, 0), some (.getfield 47, 1118, 1024), none, none, some (.iconst 1, 0, 0), some (.iaload, 0, 0), some (.iconst 1, 0, 0), some (.iadd, 0, 0), some (.aload_n 0, 0, 0), some (.getfield 86, 1108, 1014)],
  [none, none, some (.irem, 0, 0), some (.iastore, 0, 0), some (.iinc 4 1, 0, 0), none, none, some (.goto (-112), 7, 0), none, none, some (.aload_n 0, 0, 0), some (.iload_n 3, 0, 0), some (.invokevirtual 217, 196, 1292), none, none, some (.pop, 0, 0)],
  [some (.aload_n 0, 0, 0), some (.aload_n 0, 0, 0), some (.getfield 47, 1118, 1024), none, none, some (.invokevirtual 223, 202, 1315), none, none, some (.ireturn, 0, 0)]]
/-- WheelRideModel.who(IIIII)I -/
def am_c212 : List (List (Option am_E)) := [[some (.aload_n 0, 0, 0), some (.iload_n 1, 0, 0), some (.invokevirtual 207, 189, 1265), none, none, some (.ifCond .eq 31, 36, 0), none, none, some (.iload_n 2, 0, 0), some (.iconst 0, 0, 0), some (.iconst 4, 0, 0), some (.invokestatic 79, 150, 1109), none, none, some (.ifCond .eq 22, 36, 0), none],
  [none, some (.aload_n 0, 0, 0), some (.iload_n 3, 0, 0), some (.invokevirtual 89, 149, 1105), none, none, some (.ifCond .eq 14, 36, 0), none, none, some (.iload 5, 0, 0), none, some (.iconst 1, 0, 0), some (.bipush 12, 0, 0), none, some (.invokestatic 79, 150, 1109), none],
  [none, some (.ifCond .ne 6, 39, 0), none, none, some (.ldc 93, 4, 1112), none, some (.ireturn, 0, 0), some (.aload_n 0, 0, 0), some (.getfield 13, 1101, 1007), none, none, some (.iload_n 3, 0, 0), some (.iaload, 0, 0), some (.ifCond .ge 9, 54, 0), none, none],
  [some (.aload_n 0, 0, 0), some (.iconst 1, 0, 0), some (.invokevirtual 94, 151, 1113), none, none, some (.ireturn, 0, 0), some (.iload 4, 0, 0), none, some (.iload 5, 0, 0), none, some (.aload_n 0, 0, 0), some (.getfield 13, 1101, 1007), none, none, some (.iload_n 3, 0, 0), some (.iaload, 0, 0)],
  [some (.invokestatic 102, 155, 1129), none, none, some (.ifCond .ne 9, 76, 0), none, none, some (.aload_n 0, 0, 0), some (.iconst 2, 0, 0), some (.invokevirtual 94, 151, 1113), none, none, some (.ireturn, 0, 0), some (.aload_n 0, 0, 0), some (.iconst 0, 0, 0), some (.putfield 74, 1103, 1009), none],
  [none, some (.bipush 40, 0, 0), none, some (.iload_n 3, 0, 0), some (.imul, 0, 0), some (.iload 4, 0, 0), none, some (.iadd, 0, 0), some (.istore 6, 0, 0), none, some (.iload_n 2, 0, 0), some (.tableswitch 71 0 2 #[25, 40, 56], 0, 0), none, none, none, none],
  [none, none, none, none, none, none, none, none, none, none, none, none, none, none, none, none],
  [none, none, none, none, some (.aload_n 0, 0, 0), some (.aload_n 0, 0, 0), some (.getfield 22, 1109, 1015), none, none, some (.iload_n 1, 0, 0), some (.iconst 5, 0, 0), some (.iload 6, 0, 0), none, some (.iload 5, 0, 0), none, some (.invokevirtual 242, 213, 1359)],
  [none, none, some (.ireturn, 0, 0), some (.aload_n 0, 0, 0), some (.aload_n 0, 0, 0), some (.getfield 25, 1110, 1016), none, none, some (.iload_n 1, 0, 0), some (.bipush 9, 0, 0), none, some (.iload 6, 0, 0), none, some (.iload 5, 0, 0), none, some (.invokevirtual 242, 213, 1359)],
  [none, none, some (.ireturn, 0, 0), some (.aload_n 0, 0, 0), some (.aload_n 0, 0, 0), some (.getfield 28, 1111, 1017), none, none, some (.iload_n 1, 0, 0), some (.iconst 4, 0, 0), some (.iload 6, 0, 0), none, some (.iload 5, 0, 0), none, some (.invokevirtual 242, 213, 1359), none],
  [none, some (.ireturn, 0, 0), some (.aload_n 0, 0, 0), some (.iload_n 2, 0, 0), some (.iload_n 3, 0, 0), some (.iload 4, 0, 0), none, some (.iload 5, 0, 0), none, some (.invokevirtual 246, 215, 1367), none, none, some (.ireturn, 0, 0)]]
/-- WheelRideModel.byRow([IIIII)I -/
def am_c213 : List (List (Option am_E)) := [[some (.aload_n 1, 0, 0), some (.iload_n 2, 0, 0), some (.iaload, 0, 0), some (.istore 6, 0, 0), none, some (.iconst 0, 0, 0), some (.istore 7, 0, 0), none, some (.iconst 1, 0, 0), some (.istore 8, 0, 0), none, some (.iload 8, 0, 0), none, some (.iload_n 3, 0, 0), some (.if_icmp .gt 50, 64, 0), none],
  [none, some (.aload_n 1, 0, 0), some (.iload_n 2, 0, 0), some (.iload 8, 0, 0), none, some (.iastore, 0, 0), some (.aload_n 0, 0, 0), some (.invokevirtual 214, 195, 1288), none, none, some (.iload 7, 0, 0), none, some (.aload_n 0, 0, 0), some (.iload 4, 0, 0), none, some (.bipush 40, 0, 0)],
  [none, some (.idiv, 0, 0), some (.iload 4, 0, 0), none, some (.bipush 40, 0, 0), none, some (.irem, 0, 0), some (.iload 5, 0, 0), none, some (.invokevirtual 239, 214, 1363), none, none, some (.ifCond .eq 10, 54, 0), none, none, some (.iconst 1, 0, 0)],
  [some (.iload 8, 0, 0), none, some (.ishl, 0, 0), some (.goto 4, 55, 0), none, none, some (.iconst 0, 0, 0), some (.ior, 0, 0), some (.istore 7, 0, 0), none, some (.iinc 8 1, 0, 0), none, none, some (.goto (-50), 11, 0), none, none],
  [some (.aload_n 1, 0, 0), some (.iload_n 2, 0, 0), some (.iload 6, 0, 0), none, some (.iastore, 0, 0), some (.iload 7, 0, 0), none, some (.ireturn, 0, 0)]]
/-- WheelRideModel.isSo(III)Z -/
def am_c214 : List (List (Option am_E)) := [[some (.iconst 1, 0, 0), some (.istore 4, 0, 0), none, some (.iconst 0, 0, 0), some (.istore 5, 0, 0), none, some (.iload 5, 0, 0), none, some (.iload_n 3, 0, 0), some (.if_icmp .ge 58, 67, 0), none, none, some (.aload_n 0, 0, 0), some (.iconst 1, 0, 0), some (.invokevirtual 217, 196, 1292), none],
  [none, some (.pop, 0, 0), some (.iload 4, 0, 0), none, some (.ifCond .eq 38, 58, 0), none, none, some (.aload_n 0, 0, 0), some (.aload_n 0, 0, 0), some (.getfield 47, 1118, 1024), none, none, some (.aload_n 0, 0, 0), some (.getfield 47, 1118, 1024), none, none],
  [some (.iconst 1, 0, 0), some (.iaload, 0, 0), some (.invokevirtual 172, 177, 1218), none, none, some (.aload_n 0, 0, 0), some (.getfield 16, 1102, 1008), none, none, some (.bipush 40, 0, 0), none, some (.iload_n 1, 0, 0), some (.imul, 0, 0), some (.iload_n 2, 0, 0), some (.iadd, 0, 0), some (.iload 5, 0, 0)],
  [none, some (.iadd, 0, 0), some (.iaload, 0, 0), some (.if_icmp .ne 7, 58, 0), none, none, some (.iconst 1, 0, 0), some (.goto 4, 59, 0), none, none, some (.iconst 0, 0, 0), some (.istore 4, 0, 0), none, some (.iinc 5 1, 0, 0), none, none],
  [some (.goto (-58), 6, 0), none, none, some (.iload 4, 0, 0), none, some (.ireturn, 0, 0)]]
/-- WheelRideModel.limitsBy(IIII)I -/
def am_c215 : List (List (Option am_E)) := [[some (.iconst 0, 0, 0), some (.istore 5, 0, 0), none, some (.ldc 155, 5, 1180), none, some (.istore 6, 0, 0), none, some (.bipush 99, 0, 0), none, some (.istore 7, 0, 0), none, some (.iload 7, 0, 0), none, some (.ifCond .le 39, 52, 0), none, none],
  [some (.aload_n 0, 0, 0), some (.invokevirtual 214, 195, 1288), none, none, some (.aload_n 0, 0, 0), some (.getfield 47, 1118, 1024), none, none, some (.iconst 2, 0, 0), some (.iload 7, 0, 0), none, some (.iastore, 0, 0), some (.aload_n 0, 0, 0), some (.iload_n 2, 0, 0), some (.iload_n 3, 0, 0), some (.iload 4, 0, 0)],
  [none, some (.invokevirtual 239, 214, 1363), none, none, some (.ifCond .eq 10, 46, 0), none, none, some (.iinc 5 1, 0, 0), none, none, some (.iload 7, 0, 0), none, some (.istore 6, 0, 0), none, some (.iinc 7 (-1), 0, 0), none],
  [none, some (.goto (-38), 11, 0), none, none, some (.iload_n 1, 0, 0), some (.iconst 3, 0, 0), some (.if_icmp .ne 8, 62, 0), none, none, some (.iload 5, 0, 0), none, some (.goto 5, 64, 0), none, none, some (.iload 6, 0, 0), none],
  [some (.ireturn, 0, 0)]]
/-- WheelRideModel.away(III)J -/
def am_c216 : List (List (Option am_E)) := [[some (.aload_n 0, 0, 0), some (.invokevirtual 194, 171, 1194), none, none, some (.ifCond .eq 7, 11, 0), none, none, some (.ldc2_w 250, 0, 1375), none, none, some (.lreturn, 0, 0), some (.iload_n 1, 0, 0), some (.iconst 0, 0, 0), some (.bipush 40, 0, 0), none, some (.invokestatic 79, 150, 1109)],
  [none, none, some (.ifCond .eq 22, 40, 0), none, none, some (.iload_n 2, 0, 0), some (.iconst 0, 0, 0), some (.bipush 10, 0, 0), none, some (.invokestatic 79, 150, 1109), none, none, some (.ifCond .eq 12, 40, 0), none, none, some (.iload_n 3, 0, 0)],
  [some (.iconst 0, 0, 0), some (.iconst 1, 0, 0), some (.invokestatic 79, 150, 1109), none, none, some (.ifCond .ne 7, 44, 0), none, none, some (.ldc2_w 252, 1, 1376), none, none, some (.lreturn, 0, 0), some (.aload_n 0, 0, 0), some (.aload_n 0, 0, 0), some (.getfield 31, 1112, 1018), none],
  [none, some (.iconst 0, 0, 0), some (.invokevirtual 168, 176, 1214), none, none, some (.istore 4, 0, 0), none, some (.lconst 0, 0, 0), some (.lstore 5, 0, 0), none, some (.lconst 0, 0, 0), some (.lstore 7, 0, 0), none, some (.iconst 0, 0, 0), some (.istore 9, 0, 0), none],
  [some (.iload 9, 0, 0), none, some (.iconst 1, 0, 0), some (.aload_n 0, 0, 0), some (.getfield 83, 1107, 1013), none, none, some (.ishl, 0, 0), some (.if_icmp .ge 151, 223, 0), none, none, some (.iload 9, 0, 0), none, some (.iload 4, 0, 0), none, some (.iconst (-1), 0, 0)],
  [some (.ixor, 0, 0), some (.iand, 0, 0), some (.ifCond .ne 135, 217, 0), none, none, some (.lconst 1, 0, 0), some (.lstore 10, 0, 0), none, some (.aload_n 0, 0, 0), some (.invokevirtual 214, 195, 1288), none, none, some (.iconst 0, 0, 0), some (.istore 12, 0, 0), none, some (.iload 12, 0, 0)],
  [none, some (.aload_n 0, 0, 0), some (.getfield 83, 1107, 1013), none, none, some (.if_icmp .ge 90, 191, 0), none, none, some (.iload 9, 0, 0), none, some (.iload 12, 0, 0), none, some (.ishr, 0, 0), some (.iconst 1, 0, 0), some (.iand, 0, 0), some (.iconst 1, 0, 0)],
  [some (.if_icmp .ne 7, 119, 0), none, none, some (.iconst 1, 0, 0), some (.goto 4, 120, 0), none, none, some (.iconst 0, 0, 0), some (.istore 13, 0, 0), none, some (.lload 10, 0, 0), none, some (.iload 4, 0, 0), none, some (.iload 12, 0, 0), none],
  [some (.ishr, 0, 0), some (.iconst 1, 0, 0), some (.iand, 0, 0), some (.ifCond .ne 7, 138, 0), none, none, some (.lconst 1, 0, 0), some (.goto 18, 153, 0), none, none, some (.iload 13, 0, 0), none, some (.ifCond .eq 8, 148, 0), none, none, some (.iload_n 2, 0, 0)],
  [some (.i2l, 0, 0), some (.goto 8, 153, 0), none, none, some (.bipush 10, 0, 0), none, some (.iload_n 2, 0, 0), some (.isub, 0, 0), some (.i2l, 0, 0), some (.lmul, 0, 0), some (.lstore 10, 0, 0), none, some (.aload_n 0, 0, 0), some (.getfield 47, 1118, 1024), none, none],
  [some (.bipush 15, 0, 0), none, some (.iload 12, 0, 0), none, some (.iadd, 0, 0), some (.iload 13, 0, 0), none, some (.ifCond .eq 7, 174, 0), none, none, some (.iconst 3, 0, 0), some (.goto 13, 184, 0), none, none, some (.aload_n 0, 0, 0), some (.getfield 47, 1118, 1024)],
  [none, none, some (.bipush 15, 0, 0), none, some (.iload 12, 0, 0), none, some (.iadd, 0, 0), some (.iaload, 0, 0), some (.iastore, 0, 0), some (.iinc 12 1, 0, 0), none, none, some (.goto (-93), 95, 0), none, none, some (.lload 5, 0, 0)],
  [none, some (.aload_n 0, 0, 0), some (.iload_n 1, 0, 0), some (.invokevirtual 217, 196, 1292), none, none, some (.ifCond .ne 8, 206, 0), none, none, some (.lload 10, 0, 0), none, some (.goto 4, 207, 0), none, none, some (.lconst 0, 0, 0), some (.ladd, 0, 0)],
  [some (.lstore 5, 0, 0), none, some (.lload 7, 0, 0), none, some (.lload 10, 0, 0), none, some (.ladd, 0, 0), some (.lstore 7, 0, 0), none, some (.iinc 9 1, 0, 0), none, none, some (.goto (-156), 64, 0), none, none, some (.lload 5, 0, 0)],
  [none, some (.lload 7, 0, 0), none, some (.invokestatic 254, 217, 1377), none, none, some (.lstore 9, 0, 0), none, some (.iload_n 3, 0, 0), some (.ifCond .ne 11, 244, 0), none, none, some (.lload 5, 0, 0), none, some (.lload 9, 0, 0), none],
  [some (.ldiv, 0, 0), some (.goto 8, 249, 0), none, none, some (.lload 7, 0, 0), none, some (.lload 9, 0, 0), none, some (.ldiv, 0, 0), some (.lreturn, 0, 0)]]
/-- WheelRideModel.common(JJ)J -/
def am_c217 : List (List (Option am_E)) := [[some (.lload_n 0, 0, 0), some (.lstore 4, 0, 0), none, some (.lload_n 2, 0, 0), some (.lstore 6, 0, 0), none, some (.lload 6, 0, 0), none, some (.lconst 0, 0, 0), some (.lcmp, 0, 0), some (.ifCond .eq 21, 31, 0), none, none, some (.lload 4, 0, 0), none, some (.lload 6, 0, 0)],
  [none, some (.lrem, 0, 0), some (.lstore 8, 0, 0), none, some (.lload 6, 0, 0), none, some (.lstore 4, 0, 0), none, some (.lload 8, 0, 0), none, some (.lstore 6, 0, 0), none, some (.goto (-22), 6, 0), none, none, some (.lload 4, 0, 0)],
  [none, some (.lreturn, 0, 0)]]
/-- WheelRideModel.drawn(III)I -/
def am_c218 : List (List (Option am_E)) := [[some (.aload_n 0, 0, 0), some (.invokevirtual 194, 171, 1194), none, none, some (.ifCond .eq 6, 10, 0), none, none, some (.ldc 193, 3, 1189), none, some (.ireturn, 0, 0), some (.iload_n 1, 0, 0), some (.iconst 0, 0, 0), some (.bipush 60, 0, 0), none, some (.invokestatic 79, 150, 1109), none],
  [none, some (.ifCond .eq 23, 40, 0), none, none, some (.iload_n 2, 0, 0), some (.iconst 1, 0, 0), some (.ldc_w 258, 6, 1384), none, none, some (.invokestatic 79, 150, 1109), none, none, some (.ifCond .eq 12, 40, 0), none, none, some (.iload_n 3, 0, 0)],
  [some (.iconst 0, 0, 0), some (.iconst 1, 0, 0), some (.invokestatic 79, 150, 1109), none, none, some (.ifCond .ne 6, 43, 0), none, none, some (.ldc 93, 4, 1112), none, some (.ireturn, 0, 0), some (.iload_n 2, 0, 0), some (.i2l, 0, 0), some (.lstore 4, 0, 0), none, some (.iconst 0, 0, 0)],
  [some (.istore 6, 0, 0), none, some (.aload_n 0, 0, 0), some (.invokevirtual 214, 195, 1288), none, none, some (.iconst 0, 0, 0), some (.istore 7, 0, 0), none, some (.iload 7, 0, 0), none, some (.iload_n 1, 0, 0), some (.if_icmp .ge 102, 162, 0), none, none, some (.lload 4, 0, 0)],
  [none, some (.ldc2_w 259, 4, 1385), none, none, some (.lmul, 0, 0), some (.ldc2_w 261, 5, 1386), none, none, some (.lrem, 0, 0), some (.lstore 4, 0, 0), none, some (.lload 4, 0, 0), none, some (.aload_n 0, 0, 0), some (.getfield 83, 1107, 1013), none],
  [none, some (.i2l, 0, 0), some (.lrem, 0, 0), some (.l2i, 0, 0), some (.istore 8, 0, 0), none, some (.aload_n 0, 0, 0), some (.getfield 47, 1118, 1024), none, none, some (.bipush 15, 0, 0), none, some (.iload 8, 0, 0), none, some (.iadd, 0, 0), some (.iaload, 0, 0)],
  [some (.iconst 2, 0, 0), some (.if_icmp .lt 15, 112, 0), none, none, some (.aload_n 0, 0, 0), some (.getfield 47, 1118, 1024), none, none, some (.iload 8, 0, 0), none, some (.invokestatic 210, 190, 1269), none, none, some (.goto 37, 146, 0), none, none],
  [some (.lload 4, 0, 0), none, some (.ldc2_w 263, 2, 1387), none, none, some (.lrem, 0, 0), some (.lconst 0, 0, 0), some (.lcmp, 0, 0), some (.ifCond .ne 26, 146, 0), none, none, some (.aload_n 0, 0, 0), some (.getfield 47, 1118, 1024), none, none, some (.iconst 3, 0, 0)],
  [some (.lload 4, 0, 0), none, some (.aload_n 0, 0, 0), some (.getfield 86, 1108, 1014), none, none, some (.i2l, 0, 0), some (.lrem, 0, 0), some (.l2i, 0, 0), some (.iadd, 0, 0), some (.lload 4, 0, 0), none, some (.ldc2_w 265, 3, 1388), none, none, some (.lrem, 0, 0)],
  [some (.l2i, 0, 0), some (.iastore, 0, 0), some (.iload 6, 0, 0), none, some (.aload_n 0, 0, 0), some (.iconst 1, 0, 0), some (.invokevirtual 217, 196, 1292), none, none, some (.iadd, 0, 0), some (.istore 6, 0, 0), none, some (.iinc 7 1, 0, 0), none, none, some (.goto (-102), 57, 0)],
  [none, none, some (.iload_n 3, 0, 0), some (.ifCond .ne 8, 171, 0), none, none, some (.iload 6, 0, 0), none, some (.goto 11, 179, 0), none, none, some (.aload_n 0, 0, 0), some (.aload_n 0, 0, 0), some (.getfield 47, 1118, 1024), none, none],
  [some (.invokevirtual 223, 202, 1315), none, none, some (.ireturn, 0, 0)]]
/-- WheelRideModel.image(I)I -/
def am_c219 : List (List (Option am_E)) := [[some (.iload_n 1, 0, 0), some (.iconst 0, 0, 0), some (.iconst 1, 0, 0), some (.invokestatic 79, 150, 1109), none, none, some (.ifCond .ne 6, 12, 0), none, none, some (.ldc 93, 4, 1112), none, some (.ireturn, 0, 0), some (.aload_n 0, 0, 0), some (.invokevirtual 194, 171, 1194), none, none],
  [some (.ifCond .eq 6, 22, 0), none, none, some (.ldc 193, 3, 1189), none, some (.ireturn, 0, 0), some (.bipush 59, 0, 0), none, some (.iload_n 1, 0, 0), some (.imul, 0, 0), some (.istore_n 2, 0, 0), some (.aload_n 0, 0, 0), some (.getfield 40, 1116, 1022), none, none, some (.iload_n 1, 0, 0)],
  [some (.iconst 1, 0, 0), some (.bastore, 0, 0), some (.aload_n 0, 0, 0), some (.getfield 37, 1115, 1021), none, none, some (.iload_n 2, 0, 0), some (.aload_n 0, 0, 0), some (.getfield 83, 1107, 1013), none, none, some (.iastore, 0, 0), some (.aload_n 0, 0, 0), some (.getfield 37, 1115, 1021), none, none],
  [some (.iload_n 2, 0, 0), some (.iconst 1, 0, 0), some (.iadd, 0, 0), some (.aload_n 0, 0, 0), some (.getfield 86, 1108, 1014), none, none, some (.iastore, 0, 0), some (.aload_n 0, 0, 0), some (.getfield 22, 1109, 1015), none, none, some (.iconst 0, 0, 0), some (.aload_n 0, 0, 0), some (.getfield 37, 1115, 1021), none],
  [none, some (.iload_n 2, 0, 0), some (.iconst 2, 0, 0), some (.iadd, 0, 0), some (.bipush 6, 0, 0), none, some (.invokestatic 151, 167, 1177), none, none, some (.aload_n 0, 0, 0), some (.getfield 25, 1110, 1016), none, none, some (.iconst 0, 0, 0), some (.aload_n 0, 0, 0), some (.getfield 37, 1115, 1021)],
  [none, none, some (.iload_n 2, 0, 0), some (.bipush 8, 0, 0), none, some (.iadd, 0, 0), some (.bipush 6, 0, 0), none, some (.invokestatic 151, 167, 1177), none, none, some (.aload_n 0, 0, 0), some (.getfield 28, 1111, 1017), none, none, some (.iconst 0, 0, 0)],
  [some (.aload_n 0, 0, 0), some (.getfield 37, 1115, 1021), none, none, some (.iload_n 2, 0, 0), some (.bipush 14, 0, 0), none, some (.iadd, 0, 0), some (.bipush 6, 0, 0), none, some (.invokestatic 151, 167, 1177), none, none, some (.aload_n 0, 0, 0), some (.getfield 31, 1112, 1018), none],
  [none, some (.iconst 0, 0, 0), some (.aload_n 0, 0, 0), some (.getfield 37, 1115, 1021), none, none, some (.iload_n 2, 0, 0), some (.bipush 20, 0, 0), none, some (.iadd, 0, 0), some (.bipush 39, 0, 0), none, some (.invokestatic 151, 167, 1177), none, none, some (.iconst 1, 0, 0)],
  [some (.ireturn, 0, 0)]]
/-- WheelRideModel.restore(I)I -/
def am_c220 : List (List (Option am_E)) := [[some (.iload_n 1, 0, 0), some (.iconst 0, 0, 0), some (.iconst 1, 0, 0), some (.invokestatic 79, 150, 1109), none, none, some (.ifCond .ne 6, 12, 0), none, none, some (.ldc 93, 4, 1112), none, some (.ireturn, 0, 0), some (.aload_n 0, 0, 0), some (.getfield 40, 1116, 1022), none, none],
  [some (.iload_n 1, 0, 0), some (.baload, 0, 0), some (.ifCond .ne 6, 24, 0), none, none, some (.ldc 193, 3, 1189), none, some (.ireturn, 0, 0), some (.bipush 59, 0, 0), none, some (.iload_n 1, 0, 0), some (.imul, 0, 0), some (.istore_n 2, 0, 0), some (.aload_n 0, 0, 0), some (.aload_n 0, 0, 0), some (.getfield 37, 1115, 1021)],
  [none, none, some (.iload_n 2, 0, 0), some (.iaload, 0, 0), some (.putfield 83, 1107, 1013), none, none, some (.aload_n 0, 0, 0), some (.aload_n 0, 0, 0), some (.getfield 37, 1115, 1021), none, none, some (.iload_n 2, 0, 0), some (.iconst 1, 0, 0), some (.iadd, 0, 0), some (.iaload, 0, 0)],
  [some (.putfield 86, 1108, 1014), none, none, some (.aload_n 0, 0, 0), some (.getfield 37, 1115, 1021), none, none, some (.iload_n 2, 0, 0), some (.iconst 2, 0, 0), some (.iadd, 0, 0), some (.aload_n 0, 0, 0), some (.getfield 22, 1109, 1015), none, none, some (.iconst 0, 0, 0), some (.bipush 6, 0, 0)],
  [none, some (.invokestatic 151, 167, 1177), none, none, some (.aload_n 0, 0, 0), some (.getfield 37, 1115, 1021), none, none, some (.iload_n 2, 0, 0), some (.bipush 8, 0, 0), none, some (.iadd, 0, 0), some (.aload_n 0, 0, 0), some (.getfield 25, 1110, 1016), none, none],
  [some (.iconst 0, 0, 0), some (.bipush 6, 0, 0), none, some (.invokestatic 151, 167, 1177), none, none, some (.aload_n 0, 0, 0), some (.getfield 37, 1115, 1021), none, none, some (.iload_n 2, 0, 0), some (.bipush 14, 0, 0), none, some (.iadd, 0, 0), some (.aload_n 0, 0, 0), some (.getfield 28, 1111, 1017)],
  [none, none, some (.iconst 0, 0, 0), some (.bipush 6, 0, 0), none, some (.invokestatic 151, 167, 1177), none, none, some (.aload_n 0, 0, 0), some (.getfield 37, 1115, 1021), none, none, some (.iload_n 2, 0, 0), some (.bipush 20, 0, 0), none, some (.iadd, 0, 0)],
  [some (.aload_n 0, 0, 0), some (.getfield 31, 1112, 1018), none, none, some (.iconst 0, 0, 0), some (.bipush 39, 0, 0), none, some (.invokestatic 151, 167, 1177), none, none, some (.aload_n 0, 0, 0), some (.iconst 0, 0, 0), some (.putfield 156, 1114, 1020), none, none, some (.iconst 1, 0, 0)],
  [some (.ireturn, 0, 0)]]
/-- WheelRideModel.kind(I)I -/
def am_c221 : List (List (Option am_E)) := [[some (.aload_n 0, 0, 0), some (.iload_n 1, 0, 0), some (.invokevirtual 207, 189, 1265), none, none, some (.ifCond .eq 12, 17, 0), none, none, some (.aload_n 0, 0, 0), some (.getfield 22, 1109, 1015), none, none, some (.iload_n 1, 0, 0), some (.iaload, 0, 0), some (.goto 5, 19, 0), none],
  [none, some (.ldc 93, 4, 1112), none, some (.ireturn, 0, 0)]]
/-- WheelRideModel.as(II)I -/
def am_c222 : List (List (Option am_E)) := [[some (.aload_n 0, 0, 0), some (.iload_n 1, 0, 0), some (.invokevirtual 207, 189, 1265), none, none, some (.ifCond .eq 12, 17, 0), none, none, some (.iload_n 2, 0, 0), some (.iconst 0, 0, 0), some (.iconst 5, 0, 0), some (.invokestatic 79, 150, 1109), none, none, some (.ifCond .ne 6, 20, 0), none],
  [none, some (.ldc 93, 4, 1112), none, some (.ireturn, 0, 0), some (.aload_n 0, 0, 0), some (.iload_n 1, 0, 0), some (.iload_n 2, 0, 0), some (.invokevirtual 267, 223, 1405), none, none, some (.ifCond .ne 9, 35, 0), none, none, some (.aload_n 0, 0, 0), some (.iconst 3, 0, 0), some (.invokevirtual 94, 151, 1113)],
  [none, none, some (.ireturn, 0, 0), some (.aload_n 0, 0, 0), some (.iconst 0, 0, 0), some (.putfield 74, 1103, 1009), none, none, some (.iload_n 1, 0, 0), some (.ireturn, 0, 0)]]
/-- WheelRideModel.isA(II)Z -/
def am_c223 : List (List (Option am_E)) := [[some (.aload_n 0, 0, 0), some (.getfield 22, 1109, 1015), none, none, some (.iload_n 1, 0, 0), some (.iaload, 0, 0), some (.istore_n 3, 0, 0), some (.iload_n 2, 0, 0), some (.ifCond .eq 28, 36, 0), none, none, some (.iload_n 2, 0, 0), some (.iload_n 3, 0, 0), some (.if_icmp .eq 23, 36, 0), none, none],
  [some (.iload_n 2, 0, 0), some (.iconst 1, 0, 0), some (.if_icmp .ne 8, 26, 0), none, none, some (.iload_n 3, 0, 0), some (.iconst 4, 0, 0), some (.if_icmp .lt 13, 36, 0), none, none, some (.iload_n 2, 0, 0), some (.iconst 4, 0, 0), some (.if_icmp .ne 12, 40, 0), none, none, some (.iload_n 3, 0, 0)],
  [some (.iconst 5, 0, 0), some (.if_icmp .ne 7, 40, 0), none, none, some (.iconst 1, 0, 0), some (.goto 4, 41, 0), none, none, some (.iconst 0, 0, 0), some (.ireturn, 0, 0)]]
/-- WheelRideModel.ask(II)I -/
def am_c224 : List (List (Option am_E)) := [[some (.aload_n 0, 0, 0), some (.iload_n 1, 0, 0), some (.invokevirtual 207, 189, 1265), none, none, some (.ifCond .eq 12, 17, 0), none, none, some (.iload_n 2, 0, 0), some (.iconst 0, 0, 0), some (.iconst 1, 0, 0), some (.invokestatic 79, 150, 1109), none, none, some (.ifCond .ne 6, 20, 0), none],
  [none, some (.ldc 93, 4, 1112), none, some (.ireturn, 0, 0), some (.aload_n 0, 0, 0), some (.iconst 0, 0, 0), some (.putfield 271, 1120, 1026), none, none, some (.aload_n 0, 0, 0), some (.getfield 22, 1109, 1015), none, none, some (.iload_n 1, 0, 0), some (.iaload, 0, 0), some (.iconst 4, 0, 0)],
  [some (.if_icmp .ge 21, 53, 0), none, none, some (.iload_n 2, 0, 0), some (.ifCond .ne 11, 47, 0), none, none, some (.aload_n 0, 0, 0), some (.iload_n 1, 0, 0), some (.invokevirtual 292, 225, 1413), none, none, some (.goto 8, 52, 0), none, none, some (.aload_n 0, 0, 0)],
  [some (.iload_n 1, 0, 0), some (.invokevirtual 286, 228, 1425), none, none, some (.ireturn, 0, 0), some (.iload_n 2, 0, 0), some (.ifCond .ne 11, 65, 0), none, none, some (.aload_n 0, 0, 0), some (.iload_n 1, 0, 0), some (.invokevirtual 289, 231, 1437), none, none, some (.goto 8, 70, 0), none],
  [none, some (.aload_n 0, 0, 0), some (.iload_n 1, 0, 0), some (.invokevirtual 295, 232, 1441), none, none, some (.ireturn, 0, 0)]]
/-- WheelRideModel.familySize(I)I -/
def am_c225 : List (List (Option am_E)) := [[some (.aload_n 0, 0, 0), some (.getfield 22, 1109, 1015), none, none, some (.iload_n 1, 0, 0), some (.iaload, 0, 0), some (.iconst 2, 0, 0), some (.if_icmp .ne 9, 16, 0), none, none, some (.aload_n 0, 0, 0), some (.bipush 12, 0, 0), none, some (.invokevirtual 274, 226, 1417), none, none],
  [some (.aload_n 0, 0, 0), some (.bipush 11, 0, 0), none, some (.invokevirtual 274, 226, 1417), none, none, some (.aload_n 0, 0, 0), some (.iload_n 1, 0, 0), some (.invokevirtual 283, 227, 1421), none, none, some (.aload_n 0, 0, 0), some (.iload_n 1, 0, 0), some (.invokevirtual 286, 228, 1425), none, none],
  [some (.iadd, 0, 0), some (.istore_n 2, 0, 0), some (.aload_n 0, 0, 0), some (.getfield 22, 1109, 1015), none, none, some (.iload_n 1, 0, 0), some (.iaload, 0, 0), some (.iconst 2, 0, 0), some (.if_icmp .ne 8, 49, 0), none, none, some (.iload_n 2, 0, 0), some (.ineg, 0, 0), some (.goto 4, 50, 0), none],
  [none, some (.iload_n 2, 0, 0), some (.ireturn, 0, 0)]]
/-- WheelRideModel.leaves(I)V -/
def am_c226 : List (List (Option am_E)) := [[some (.aload_n 0, 0, 0), some (.getfield 271, 1120, 1026), none, none, some (.bipush 16, 0, 0), none, some (.if_icmp .ge 23, 29, 0), none, none, some (.aload_n 0, 0, 0), some (.getfield 50, 1119, 1025), none, none, some (.aload_n 0, 0, 0), some (.getfield 271, 1120, 1026), none],
  [none, some (.iload_n 1, 0, 0), some (.iastore, 0, 0), some (.aload_n 0, 0, 0), some (.dup, 0, 0), some (.getfield 271, 1120, 1026), none, none, some (.iconst 1, 0, 0), some (.iadd, 0, 0), some (.putfield 271, 1120, 1026), none, none, some (.return_, 0, 0)]]
/-- WheelRideModel.ten(I)I -/
def am_c227 : List (List (Option am_E)) := [[some (.aload_n 0, 0, 0), some (.bipush 10, 0, 0), none, some (.invokevirtual 274, 226, 1417), none, none, some (.aload_n 0, 0, 0), some (.getfield 25, 1110, 1016), none, none, some (.iload_n 1, 0, 0), some (.iaload, 0, 0), some (.ireturn, 0, 0)]]
/-- WheelRideModel.familyMark(I)I -/
def am_c228 : List (List (Option am_E)) := [[some (.aload_n 0, 0, 0), some (.getfield 22, 1109, 1015), none, none, some (.iload_n 1, 0, 0), some (.iaload, 0, 0), some (.iconst 3, 0, 0), some (.if_icmp .ne 19, 26, 0), none, none, some (.aload_n 0, 0, 0), some (.bipush 22, 0, 0), none, some (.invokevirtual 274, 226, 1417), none, none],
  [some (.aload_n 0, 0, 0), some (.iload_n 1, 0, 0), some (.invokevirtual 280, 229, 1429), none, none, some (.sipush 1000, 0, 0), none, none, some (.isub, 0, 0), some (.ireturn, 0, 0), some (.aload_n 0, 0, 0), some (.getfield 22, 1109, 1015), none, none, some (.iload_n 1, 0, 0), some (.iaload, 0, 0)],
  [some (.iconst 2, 0, 0), some (.if_icmp .ne 17, 50, 0), none, none, some (.aload_n 0, 0, 0), some (.bipush 24, 0, 0), none, some (.invokevirtual 274, 226, 1417), none, none, some (.iconst 2, 0, 0), some (.aload_n 0, 0, 0), some (.iload_n 1, 0, 0), some (.invokevirtual 280, 229, 1429), none, none],
  [some (.imul, 0, 0), some (.ireturn, 0, 0), some (.aload_n 0, 0, 0), some (.iload_n 1, 0, 0), some (.invokevirtual 280, 229, 1429), none, none, some (.ireturn, 0, 0)]]
/-- WheelRideModel.twentyOne(I)I -/
def am_c229 : List (List (Option am_E)) := [[some (.aload_n 0, 0, 0), some (.bipush 21, 0, 0), none, some (.invokevirtual 274, 226, 1417), none, none, some (.aload_n 0, 0, 0), some (.iload_n 1, 0, 0), some (.invokevirtual 277, 230, 1433), none, none, some (.aload_n 0, 0, 0), some (.getfield 31, 1112, 1018), none, none, some (.bipush 27, 0, 0)],
  [none, some (.iload_n 1, 0, 0), some (.iadd, 0, 0), some (.iaload, 0, 0), some (.iadd, 0, 0), some (.ireturn, 0, 0)]]
/-- WheelRideModel.twenty(I)I -/
def am_c230 : List (List (Option am_E)) := [[some (.aload_n 0, 0, 0), some (.bipush 20, 0, 0), none, some (.invokevirtual 274, 226, 1417), none, none, some (.iload_n 1, 0, 0), some (.ireturn, 0, 0)]]
/-- WheelRideModel.solitarySize(I)I -/
def am_c231 : List (List (Option am_E)) := [[some (.aload_n 0, 0, 0), some (.getfield 22, 1109, 1015), none, none, some (.iload_n 1, 0, 0), some (.iaload, 0, 0), some (.iconst 5, 0, 0), some (.if_icmp .ne 9, 16, 0), none, none, some (.aload_n 0, 0, 0), some (.bipush 14, 0, 0), none, some (.invokevirtual 274, 226, 1417), none, none],
  [some (.aload_n 0, 0, 0), some (.bipush 13, 0, 0), none, some (.invokevirtual 274, 226, 1417), none, none, some (.aload_n 0, 0, 0), some (.iload_n 1, 0, 0), some (.invokevirtual 283, 227, 1421), none, none, some (.bipush 100, 0, 0), none, some (.isub, 0, 0), some (.istore_n 2, 0, 0), some (.aload_n 0, 0, 0)],
  [some (.getfield 22, 1109, 1015), none, none, some (.iload_n 1, 0, 0), some (.iaload, 0, 0), some (.iconst 5, 0, 0), some (.if_icmp .ne 9, 47, 0), none, none, some (.iconst 2, 0, 0), some (.iload_n 2, 0, 0), some (.imul, 0, 0), some (.goto 4, 48, 0), none, none, some (.iload_n 2, 0, 0)],
  [some (.ireturn, 0, 0)]]
/-- WheelRideModel.solitaryMark(I)I -/
def am_c232 : List (List (Option am_E)) := [[some (.aload_n 0, 0, 0), some (.bipush 23, 0, 0), none, some (.invokevirtual 274, 226, 1417), none, none, some (.aload_n 0, 0, 0), some (.iload_n 1, 0, 0), some (.invokevirtual 277, 230, 1433), none, none, some (.istore_n 2, 0, 0), some (.iload_n 2, 0, 0), some (.aload_n 0, 0, 0), some (.iload_n 1, 0, 0), some (.invokevirtual 289, 231, 1437)],
  [none, none, some (.isub, 0, 0), some (.ireturn, 0, 0)]]
/-- WheelRideModel.trace(I)I -/
def am_c233 : List (List (Option am_E)) := [[some (.iload_n 1, 0, 0), some (.iconst 0, 0, 0), some (.aload_n 0, 0, 0), some (.getfield 271, 1120, 1026), none, none, some (.iconst 1, 0, 0), some (.isub, 0, 0), some (.invokestatic 79, 150, 1109), none, none, some (.ifCond .eq 12, 23, 0), none, none, some (.aload_n 0, 0, 0), some (.getfield 50, 1119, 1025)],
  [none, none, some (.iload_n 1, 0, 0), some (.iaload, 0, 0), some (.goto 5, 25, 0), none, none, some (.ldc 155, 5, 1180), none, some (.ireturn, 0, 0)]]
/-- WheelRideModel.count(I)I -/
def am_c234 : List (List (Option am_E)) := [[some (.iload_n 1, 0, 0), some (.tableswitch 93 0 7 #[47, 52, 57, 62, 69, 74, 83, 88], 0, 0), none, none, none, none, none, none, none, none, none, none, none, none, none, none],
  [none, none, none, none, none, none, none, none, none, none, none, none, none, none, none, none],
  [none, none, none, none, none, none, none, none, none, none, none, none, none, none, none, none],
  [some (.aload_n 0, 0, 0), some (.invokevirtual 298, 235, 1453), none, none, some (.ireturn, 0, 0), some (.aload_n 0, 0, 0), some (.getfield 83, 1107, 1013), none, none, some (.ireturn, 0, 0), some (.aload_n 0, 0, 0), some (.getfield 86, 1108, 1014), none, none, some (.ireturn, 0, 0), some (.aload_n 0, 0, 0)],
  [some (.getfield 31, 1112, 1018), none, none, some (.iconst 0, 0, 0), some (.iaload, 0, 0), some (.ireturn, 0, 0), some (.aload_n 0, 0, 0), some (.invokevirtual 301, 236, 1457), none, none, some (.ireturn, 0, 0), some (.aload_n 0, 0, 0), some (.aload_n 0, 0, 0), some (.getfield 31, 1112, 1018), none, none],
  [some (.invokevirtual 223, 202, 1315), none, none, some (.ireturn, 0, 0), some (.aload_n 0, 0, 0), some (.getfield 156, 1114, 1020), none, none, some (.ireturn, 0, 0), some (.aload_n 0, 0, 0), some (.getfield 105, 1105, 1011), none, none, some (.ireturn, 0, 0), some (.ldc 93, 4, 1112), none],
  [some (.ireturn, 0, 0)]]
/-- WheelRideModel.rowsThere()I -/
def am_c235 : List (List (Option am_E)) := [[some (.iconst 0, 0, 0), some (.istore_n 1, 0, 0), some (.iconst 0, 0, 0), some (.istore_n 2, 0, 0), some (.iload_n 2, 0, 0), some (.bipush 8, 0, 0), none, some (.if_icmp .ge 26, 33, 0), none, none, some (.iload_n 1, 0, 0), some (.aload_n 0, 0, 0), some (.getfield 13, 1101, 1007), none, none, some (.iload_n 2, 0, 0)],
  [some (.iaload, 0, 0), some (.ifCond .ge 7, 24, 0), none, none, some (.iconst 0, 0, 0), some (.goto 4, 25, 0), none, none, some (.iconst 1, 0, 0), some (.iadd, 0, 0), some (.istore_n 1, 0, 0), some (.iinc 2 1, 0, 0), none, none, some (.goto (-26), 4, 0), none],
  [none, some (.iload_n 1, 0, 0), some (.ireturn, 0, 0)]]
/-- WheelRideModel.ballastOfAll()I -/
def am_c236 : List (List (Option am_E)) := [[some (.iconst 0, 0, 0), some (.istore_n 1, 0, 0), some (.iconst 0, 0, 0), some (.istore_n 2, 0, 0), some (.iload_n 2, 0, 0), some (.aload_n 0, 0, 0), some (.getfield 86, 1108, 1014), none, none, some (.if_icmp .ge 20, 29, 0), none, none, some (.iload_n 1, 0, 0), some (.aload_n 0, 0, 0), some (.getfield 31, 1112, 1018), none],
  [none, some (.iconst 3, 0, 0), some (.iload_n 2, 0, 0), some (.iadd, 0, 0), some (.iaload, 0, 0), some (.iadd, 0, 0), some (.istore_n 1, 0, 0), some (.iinc 2 1, 0, 0), none, none, some (.goto (-22), 4, 0), none, none, some (.iload_n 1, 0, 0), some (.ireturn, 0, 0)]]
/-- WheelRideModel.status()I -/
def am_c237 : List (List (Option am_E)) := [[some (.aload_n 0, 0, 0), some (.getfield 74, 1103, 1009), none, none, some (.ireturn, 0, 0)]]
/-- WheelRide$Asks.begin(II)I -/
def am_c238 : List (List (Option am_E)) := [[some (.aload_n 0, 0, 0), some (.iconst 0, 0, 0), some (.putfield 26, 102, 351), none, none, some (.aload_n 0, 0, 0), some (.iload_n 1, 0, 0), some (.iload_n 2, 0, 0), some (.iconst 0, 0, 0), some (.invokevirtual 30, 137, 955), none, none, some (.ireturn, 0, 0)]]
/-- WheelRideLaw.law([I)Z -/
def am_c239 : List (List (Option am_E)) := [[some (.new 7, 10, 91), none, none, some (.dup, 0, 0), some (.invokespecial 9, 0, 93), none, none, some (.astore_n 1, 0, 0), some (.new 10, 11, 996), none, none, some (.dup, 0, 0), some (.invokespecial 12, 146, 998), none, none, some (.astore_n 2, 0, 0)],
  [some (.iconst 0, 0, 0), some (.istore_n 3, 0, 0), some (.iload_n 3, 0, 0), some (.aload_n 0, 0, 0), some (.arraylength, 0, 0), some (.bipush 6, 0, 0), none, some (.isub, 0, 0), some (.if_icmp .gt 1280, 1304, 0), none, none, some (.aload_n 0, 0, 0), some (.iload_n 3, 0, 0), some (.iaload, 0, 0), some (.bipush 63, 0, 0), none],
  [some (.iand, 0, 0), some (.tableswitch 1265 0 36 #[163, 206, 249, 312, 335, 358, 371, 384, 397, 420, 443, 476, 499, 522, 555, 588, 611, 654, 677, 710, 733, 766, 799, 822, 855, 888, 921, 984, 1028, 1071, 1094, 1117, 1140, 1173, 1206, 1229, 1252], 0, 0), none, none, none, none, none, none, none, none, none, none, none, none, none, none],
  [none, none, none, none, none, none, none, none, none, none, none, none, none, none, none, none],
  [none, none, none, none, none, none, none, none, none, none, none, none, none, none, none, none],
  [none, none, none, none, none, none, none, none, none, none, none, none, none, none, none, none],
  [none, none, none, none, none, none, none, none, none, none, none, none, none, none, none, none],
  [none, none, none, none, none, none, none, none, none, none, none, none, none, none, none, none],
  [none, none, none, none, none, none, none, none, none, none, none, none, none, none, none, none],
  [none, none, none, none, none, none, none, none, none, none, none, none, none, none, none, none],
  [none, none, none, none, none, none, none, none, none, none, none, none, none, none, none, none],
  [none, none, none, none, none, none, none, none, none, none, none, none, none, none, none, none],
  [none, none, none, none, some (.aload_n 1, 0, 0), some (.aload_n 0, 0, 0), some (.iload_n 3, 0, 0), some (.iconst 1, 0, 0), some (.iadd, 0, 0), some (.iaload, 0, 0), some (.aload_n 0, 0, 0), some (.iload_n 3, 0, 0), some (.iconst 2, 0, 0), some (.iadd, 0, 0), some (.iaload, 0, 0), some (.aload_n 0, 0, 0)],
  [some (.iload_n 3, 0, 0), some (.iconst 3, 0, 0), some (.iadd, 0, 0), some (.iaload, 0, 0), some (.invokevirtual 13, 11, 400), none, none, some (.aload_n 2, 0, 0), some (.aload_n 0, 0, 0), some (.iload_n 3, 0, 0), some (.iconst 1, 0, 0), some (.iadd, 0, 0), some (.iaload, 0, 0), some (.aload_n 0, 0, 0), some (.iload_n 3, 0, 0), some (.iconst 2, 0, 0)],
  [some (.iadd, 0, 0), some (.iaload, 0, 0), some (.aload_n 0, 0, 0), some (.iload_n 3, 0, 0), some (.iconst 3, 0, 0), some (.iadd, 0, 0), some (.iaload, 0, 0), some (.invokevirtual 17, 148, 1101), none, none, some (.if_icmp .eq 1064, 1298, 0), none, none, some (.iconst 0, 0, 0), some (.ireturn, 0, 0), some (.aload_n 1, 0, 0)],
  [some (.aload_n 0, 0, 0), some (.iload_n 3, 0, 0), some (.iconst 1, 0, 0), some (.iadd, 0, 0), some (.iaload, 0, 0), some (.aload_n 0, 0, 0), some (.iload_n 3, 0, 0), some (.iconst 2, 0, 0), some (.iadd, 0, 0), some (.iaload, 0, 0), some (.aload_n 0, 0, 0), some (.iload_n 3, 0, 0), some (.iconst 3, 0, 0), some (.iadd, 0, 0), some (.iaload, 0, 0), some (.invokevirtual 18, 16, 421)],
  [none, none, some (.aload_n 2, 0, 0), some (.aload_n 0, 0, 0), some (.iload_n 3, 0, 0), some (.iconst 1, 0, 0), some (.iadd, 0, 0), some (.iaload, 0, 0), some (.aload_n 0, 0, 0), some (.iload_n 3, 0, 0), some (.iconst 2, 0, 0), some (.iadd, 0, 0), some (.iaload, 0, 0), some (.aload_n 0, 0, 0), some (.iload_n 3, 0, 0), some (.iconst 3, 0, 0)],
  [some (.iadd, 0, 0), some (.iaload, 0, 0), some (.invokevirtual 21, 152, 1118), none, none, some (.if_icmp .eq 1021, 1298, 0), none, none, some (.iconst 0, 0, 0), some (.ireturn, 0, 0), some (.aload_n 1, 0, 0), some (.aload_n 0, 0, 0), some (.iload_n 3, 0, 0), some (.iconst 1, 0, 0), some (.iadd, 0, 0), some (.iaload, 0, 0)],
  [some (.aload_n 0, 0, 0), some (.iload_n 3, 0, 0), some (.iconst 2, 0, 0), some (.iadd, 0, 0), some (.iaload, 0, 0), some (.aload_n 0, 0, 0), some (.iload_n 3, 0, 0), some (.iconst 3, 0, 0), some (.iadd, 0, 0), some (.iaload, 0, 0), some (.aload_n 0, 0, 0), some (.iload_n 3, 0, 0), some (.iconst 4, 0, 0), some (.iadd, 0, 0), some (.iaload, 0, 0), some (.aload_n 0, 0, 0)],
  [some (.iload_n 3, 0, 0), some (.iconst 5, 0, 0), some (.iadd, 0, 0), some (.iaload, 0, 0), some (.invokevirtual 22, 21, 440), none, none, some (.aload_n 2, 0, 0), some (.aload_n 0, 0, 0), some (.iload_n 3, 0, 0), some (.iconst 1, 0, 0), some (.iadd, 0, 0), some (.iaload, 0, 0), some (.aload_n 0, 0, 0), some (.iload_n 3, 0, 0), some (.iconst 2, 0, 0)],
  [some (.iadd, 0, 0), some (.iaload, 0, 0), some (.aload_n 0, 0, 0), some (.iload_n 3, 0, 0), some (.iconst 3, 0, 0), some (.iadd, 0, 0), some (.iaload, 0, 0), some (.aload_n 0, 0, 0), some (.iload_n 3, 0, 0), some (.iconst 4, 0, 0), some (.iadd, 0, 0), some (.iaload, 0, 0), some (.aload_n 0, 0, 0), some (.iload_n 3, 0, 0), some (.iconst 5, 0, 0), some (.iadd, 0, 0)],
  [some (.iaload, 0, 0), some (.invokevirtual 26, 154, 1125), none, none, some (.if_icmp .eq 958, 1298, 0), none, none, some (.iconst 0, 0, 0), some (.ireturn, 0, 0), some (.aload_n 1, 0, 0), some (.aload_n 0, 0, 0), some (.iload_n 3, 0, 0), some (.iconst 1, 0, 0), some (.iadd, 0, 0), some (.iaload, 0, 0), some (.invokevirtual 27, 24, 455)],
  [none, none, some (.aload_n 2, 0, 0), some (.aload_n 0, 0, 0), some (.iload_n 3, 0, 0), some (.iconst 1, 0, 0), some (.iadd, 0, 0), some (.iaload, 0, 0), some (.invokevirtual 31, 156, 1132), none, none, some (.if_icmp .eq 935, 1298, 0), none, none, some (.iconst 0, 0, 0), some (.ireturn, 0, 0)],
  [some (.aload_n 1, 0, 0), some (.aload_n 0, 0, 0), some (.iload_n 3, 0, 0), some (.iconst 1, 0, 0), some (.iadd, 0, 0), some (.iaload, 0, 0), some (.invokevirtual 32, 26, 463), none, none, some (.aload_n 2, 0, 0), some (.aload_n 0, 0, 0), some (.iload_n 3, 0, 0), some (.iconst 1, 0, 0), some (.iadd, 0, 0), some (.iaload, 0, 0), some (.invokevirtual 35, 157, 1136)],
  [none, none, some (.if_icmp .eq 912, 1298, 0), none, none, some (.iconst 0, 0, 0), some (.ireturn, 0, 0), some (.aload_n 1, 0, 0), some (.invokevirtual 36, 28, 472), none, none, some (.aload_n 2, 0, 0), some (.invokevirtual 40, 158, 1141), none, none, some (.if_icmp .eq 899, 1298, 0)],
  [none, none, some (.iconst 0, 0, 0), some (.ireturn, 0, 0), some (.aload_n 1, 0, 0), some (.invokevirtual 41, 46, 543), none, none, some (.aload_n 2, 0, 0), some (.invokevirtual 44, 168, 1181), none, none, some (.if_icmp .eq 886, 1298, 0), none, none, some (.iconst 0, 0, 0)],
  [some (.ireturn, 0, 0), some (.aload_n 1, 0, 0), some (.invokevirtual 45, 47, 547), none, none, some (.aload_n 2, 0, 0), some (.invokevirtual 48, 169, 1185), none, none, some (.if_icmp .eq 873, 1298, 0), none, none, some (.iconst 0, 0, 0), some (.ireturn, 0, 0), some (.aload_n 1, 0, 0), some (.aload_n 0, 0, 0)],
  [some (.iload_n 3, 0, 0), some (.iconst 1, 0, 0), some (.iadd, 0, 0), some (.iaload, 0, 0), some (.invokevirtual 49, 49, 557), none, none, some (.aload_n 2, 0, 0), some (.aload_n 0, 0, 0), some (.iload_n 3, 0, 0), some (.iconst 1, 0, 0), some (.iadd, 0, 0), some (.iaload, 0, 0), some (.invokevirtual 52, 170, 1190), none, none],
  [some (.if_icmp .eq 850, 1298, 0), none, none, some (.iconst 0, 0, 0), some (.ireturn, 0, 0), some (.aload_n 1, 0, 0), some (.aload_n 0, 0, 0), some (.iload_n 3, 0, 0), some (.iconst 1, 0, 0), some (.iadd, 0, 0), some (.iaload, 0, 0), some (.invokevirtual 53, 69, 641), none, none, some (.aload_n 2, 0, 0), some (.aload_n 0, 0, 0)],
  [some (.iload_n 3, 0, 0), some (.iconst 1, 0, 0), some (.iadd, 0, 0), some (.iaload, 0, 0), some (.invokevirtual 56, 184, 1245), none, none, some (.if_icmp .eq 827, 1298, 0), none, none, some (.iconst 0, 0, 0), some (.ireturn, 0, 0), some (.aload_n 1, 0, 0), some (.aload_n 0, 0, 0), some (.iload_n 3, 0, 0), some (.iconst 1, 0, 0)],
  [some (.iadd, 0, 0), some (.iaload, 0, 0), some (.aload_n 0, 0, 0), some (.iload_n 3, 0, 0), some (.iconst 2, 0, 0), some (.iadd, 0, 0), some (.iaload, 0, 0), some (.invokevirtual 57, 71, 649), none, none, some (.aload_n 2, 0, 0), some (.aload_n 0, 0, 0), some (.iload_n 3, 0, 0), some (.iconst 1, 0, 0), some (.iadd, 0, 0), some (.iaload, 0, 0)],
  [some (.aload_n 0, 0, 0), some (.iload_n 3, 0, 0), some (.iconst 2, 0, 0), some (.iadd, 0, 0), some (.iaload, 0, 0), some (.invokevirtual 61, 186, 1253), none, none, some (.if_icmp .eq 794, 1298, 0), none, none, some (.iconst 0, 0, 0), some (.ireturn, 0, 0), some (.aload_n 1, 0, 0), some (.aload_n 0, 0, 0), some (.iload_n 3, 0, 0)],
  [some (.iconst 1, 0, 0), some (.iadd, 0, 0), some (.iaload, 0, 0), some (.invokevirtual 62, 72, 653), none, none, some (.aload_n 2, 0, 0), some (.aload_n 0, 0, 0), some (.iload_n 3, 0, 0), some (.iconst 1, 0, 0), some (.iadd, 0, 0), some (.iaload, 0, 0), some (.invokevirtual 65, 187, 1257), none, none, some (.if_icmp .eq 771, 1298, 0)],
  [none, none, some (.iconst 0, 0, 0), some (.ireturn, 0, 0), some (.aload_n 1, 0, 0), some (.aload_n 0, 0, 0), some (.iload_n 3, 0, 0), some (.iconst 1, 0, 0), some (.iadd, 0, 0), some (.iaload, 0, 0), some (.invokevirtual 66, 73, 657), none, none, some (.aload_n 2, 0, 0), some (.aload_n 0, 0, 0), some (.iload_n 3, 0, 0)],
  [some (.iconst 1, 0, 0), some (.iadd, 0, 0), some (.iaload, 0, 0), some (.invokevirtual 69, 188, 1261), none, none, some (.if_icmp .eq 748, 1298, 0), none, none, some (.iconst 0, 0, 0), some (.ireturn, 0, 0), some (.aload_n 1, 0, 0), some (.aload_n 0, 0, 0), some (.iload_n 3, 0, 0), some (.iconst 1, 0, 0), some (.iadd, 0, 0)],
  [some (.iaload, 0, 0), some (.aload_n 0, 0, 0), some (.iload_n 3, 0, 0), some (.iconst 2, 0, 0), some (.iadd, 0, 0), some (.iaload, 0, 0), some (.invokevirtual 70, 75, 667), none, none, some (.aload_n 2, 0, 0), some (.aload_n 0, 0, 0), some (.iload_n 3, 0, 0), some (.iconst 1, 0, 0), some (.iadd, 0, 0), some (.iaload, 0, 0), some (.aload_n 0, 0, 0)],
  [some (.iload_n 3, 0, 0), some (.iconst 2, 0, 0), some (.iadd, 0, 0), some (.iaload, 0, 0), some (.invokevirtual 73, 191, 1272), none, none, some (.if_icmp .eq 715, 1298, 0), none, none, some (.iconst 0, 0, 0), some (.ireturn, 0, 0), some (.aload_n 1, 0, 0), some (.aload_n 0, 0, 0), some (.iload_n 3, 0, 0), some (.iconst 1, 0, 0)],
  [some (.iadd, 0, 0), some (.iaload, 0, 0), some (.aload_n 0, 0, 0), some (.iload_n 3, 0, 0), some (.iconst 2, 0, 0), some (.iadd, 0, 0), some (.iaload, 0, 0), some (.invokevirtual 74, 77, 675), none, none, some (.aload_n 2, 0, 0), some (.aload_n 0, 0, 0), some (.iload_n 3, 0, 0), some (.iconst 1, 0, 0), some (.iadd, 0, 0), some (.iaload, 0, 0)],
  [some (.aload_n 0, 0, 0), some (.iload_n 3, 0, 0), some (.iconst 2, 0, 0), some (.iadd, 0, 0), some (.iaload, 0, 0), some (.invokevirtual 77, 192, 1276), none, none, some (.if_icmp .eq 682, 1298, 0), none, none, some (.iconst 0, 0, 0), some (.ireturn, 0, 0), some (.aload_n 1, 0, 0), some (.aload_n 0, 0, 0), some (.iload_n 3, 0, 0)],
  [some (.iconst 1, 0, 0), some (.iadd, 0, 0), some (.iaload, 0, 0), some (.invokevirtual 78, 79, 685), none, none, some (.aload_n 2, 0, 0), some (.aload_n 0, 0, 0), some (.iload_n 3, 0, 0), some (.iconst 1, 0, 0), some (.iadd, 0, 0), some (.iaload, 0, 0), some (.invokevirtual 81, 193, 1280), none, none, some (.if_icmp .eq 659, 1298, 0)],
  [none, none, some (.iconst 0, 0, 0), some (.ireturn, 0, 0), some (.aload_n 1, 0, 0), some (.aload_n 0, 0, 0), some (.iload_n 3, 0, 0), some (.iconst 1, 0, 0), some (.iadd, 0, 0), some (.iaload, 0, 0), some (.aload_n 0, 0, 0), some (.iload_n 3, 0, 0), some (.iconst 2, 0, 0), some (.iadd, 0, 0), some (.iaload, 0, 0), some (.aload_n 0, 0, 0)],
  [some (.iload_n 3, 0, 0), some (.iconst 3, 0, 0), some (.iadd, 0, 0), some (.iaload, 0, 0), some (.invokevirtual 82, 80, 691), none, none, some (.aload_n 2, 0, 0), some (.aload_n 0, 0, 0), some (.iload_n 3, 0, 0), some (.iconst 1, 0, 0), some (.iadd, 0, 0), some (.iaload, 0, 0), some (.aload_n 0, 0, 0), some (.iload_n 3, 0, 0), some (.iconst 2, 0, 0)],
  [some (.iadd, 0, 0), some (.iaload, 0, 0), some (.aload_n 0, 0, 0), some (.iload_n 3, 0, 0), some (.iconst 3, 0, 0), some (.iadd, 0, 0), some (.iaload, 0, 0), some (.invokevirtual 85, 194, 1284), none, none, some (.if_icmp .eq 616, 1298, 0), none, none, some (.iconst 0, 0, 0), some (.ireturn, 0, 0), some (.aload_n 1, 0, 0)],
  [some (.aload_n 0, 0, 0), some (.iload_n 3, 0, 0), some (.iconst 1, 0, 0), some (.iadd, 0, 0), some (.iaload, 0, 0), some (.invokevirtual 86, 82, 702), none, none, some (.aload_n 2, 0, 0), some (.aload_n 0, 0, 0), some (.iload_n 3, 0, 0), some (.iconst 1, 0, 0), some (.iadd, 0, 0), some (.iaload, 0, 0), some (.invokevirtual 89, 197, 1296), none],
  [none, some (.if_icmp .eq 593, 1298, 0), none, none, some (.iconst 0, 0, 0), some (.ireturn, 0, 0), some (.aload_n 1, 0, 0), some (.aload_n 0, 0, 0), some (.iload_n 3, 0, 0), some (.iconst 1, 0, 0), some (.iadd, 0, 0), some (.iaload, 0, 0), some (.aload_n 0, 0, 0), some (.iload_n 3, 0, 0), some (.iconst 2, 0, 0), some (.iadd, 0, 0)],
  [some (.iaload, 0, 0), some (.invokevirtual 90, 83, 706), none, none, some (.aload_n 2, 0, 0), some (.aload_n 0, 0, 0), some (.iload_n 3, 0, 0), some (.iconst 1, 0, 0), some (.iadd, 0, 0), some (.iaload, 0, 0), some (.aload_n 0, 0, 0), some (.iload_n 3, 0, 0), some (.iconst 2, 0, 0), some (.iadd, 0, 0), some (.iaload, 0, 0), some (.invokevirtual 93, 198, 1300)],
  [none, none, some (.if_icmp .eq 560, 1298, 0), none, none, some (.iconst 0, 0, 0), some (.ireturn, 0, 0), some (.aload_n 1, 0, 0), some (.aload_n 0, 0, 0), some (.iload_n 3, 0, 0), some (.iconst 1, 0, 0), some (.iadd, 0, 0), some (.iaload, 0, 0), some (.invokevirtual 94, 85, 715), none, none],
  [some (.aload_n 2, 0, 0), some (.aload_n 0, 0, 0), some (.iload_n 3, 0, 0), some (.iconst 1, 0, 0), some (.iadd, 0, 0), some (.iaload, 0, 0), some (.invokevirtual 97, 199, 1304), none, none, some (.if_icmp .eq 537, 1298, 0), none, none, some (.iconst 0, 0, 0), some (.ireturn, 0, 0), some (.aload_n 1, 0, 0), some (.aload_n 0, 0, 0)],
  [some (.iload_n 3, 0, 0), some (.iconst 1, 0, 0), some (.iadd, 0, 0), some (.iaload, 0, 0), some (.aload_n 0, 0, 0), some (.iload_n 3, 0, 0), some (.iconst 2, 0, 0), some (.iadd, 0, 0), some (.iaload, 0, 0), some (.invokevirtual 98, 88, 728), none, none, some (.aload_n 2, 0, 0), some (.aload_n 0, 0, 0), some (.iload_n 3, 0, 0), some (.iconst 1, 0, 0)],
  [some (.iadd, 0, 0), some (.iaload, 0, 0), some (.aload_n 0, 0, 0), some (.iload_n 3, 0, 0), some (.iconst 2, 0, 0), some (.iadd, 0, 0), some (.iaload, 0, 0), some (.invokevirtual 101, 200, 1308), none, none, some (.if_icmp .eq 504, 1298, 0), none, none, some (.iconst 0, 0, 0), some (.ireturn, 0, 0), some (.aload_n 1, 0, 0)],
  [some (.aload_n 0, 0, 0), some (.iload_n 3, 0, 0), some (.iconst 1, 0, 0), some (.iadd, 0, 0), some (.iaload, 0, 0), some (.aload_n 0, 0, 0), some (.iload_n 3, 0, 0), some (.iconst 2, 0, 0), some (.iadd, 0, 0), some (.iaload, 0, 0), some (.invokevirtual 102, 96, 768), none, none, some (.aload_n 2, 0, 0), some (.aload_n 0, 0, 0), some (.iload_n 3, 0, 0)],
  [some (.iconst 1, 0, 0), some (.iadd, 0, 0), some (.iaload, 0, 0), some (.aload_n 0, 0, 0), some (.iload_n 3, 0, 0), some (.iconst 2, 0, 0), some (.iadd, 0, 0), some (.iaload, 0, 0), some (.invokevirtual 105, 204, 1323), none, none, some (.if_icmp .eq 471, 1298, 0), none, none, some (.iconst 0, 0, 0), some (.ireturn, 0, 0)],
  [some (.aload_n 1, 0, 0), some (.aload_n 0, 0, 0), some (.iload_n 3, 0, 0), some (.iconst 1, 0, 0), some (.iadd, 0, 0), some (.iaload, 0, 0), some (.invokevirtual 106, 99, 783), none, none, some (.aload_n 2, 0, 0), some (.aload_n 0, 0, 0), some (.iload_n 3, 0, 0), some (.iconst 1, 0, 0), some (.iadd, 0, 0), some (.iaload, 0, 0), some (.invokevirtual 109, 205, 1327)],
  [none, none, some (.if_icmp .eq 448, 1298, 0), none, none, some (.iconst 0, 0, 0), some (.ireturn, 0, 0), some (.aload_n 1, 0, 0), some (.aload_n 0, 0, 0), some (.iload_n 3, 0, 0), some (.iconst 1, 0, 0), some (.iadd, 0, 0), some (.iaload, 0, 0), some (.aload_n 0, 0, 0), some (.iload_n 3, 0, 0), some (.iconst 2, 0, 0)],
  [some (.iadd, 0, 0), some (.iaload, 0, 0), some (.invokevirtual 110, 101, 791), none, none, some (.aload_n 2, 0, 0), some (.aload_n 0, 0, 0), some (.iload_n 3, 0, 0), some (.iconst 1, 0, 0), some (.iadd, 0, 0), some (.iaload, 0, 0), some (.aload_n 0, 0, 0), some (.iload_n 3, 0, 0), some (.iconst 2, 0, 0), some (.iadd, 0, 0), some (.iaload, 0, 0)],
  [some (.invokevirtual 113, 206, 1331), none, none, some (.if_icmp .eq 415, 1298, 0), none, none, some (.iconst 0, 0, 0), some (.ireturn, 0, 0), some (.aload_n 1, 0, 0), some (.aload_n 0, 0, 0), some (.iload_n 3, 0, 0), some (.iconst 1, 0, 0), some (.iadd, 0, 0), some (.iaload, 0, 0), some (.aload_n 0, 0, 0), some (.iload_n 3, 0, 0)],
  [some (.iconst 2, 0, 0), some (.iadd, 0, 0), some (.iaload, 0, 0), some (.invokevirtual 114, 104, 802), none, none, some (.aload_n 2, 0, 0), some (.aload_n 0, 0, 0), some (.iload_n 3, 0, 0), some (.iconst 1, 0, 0), some (.iadd, 0, 0), some (.iaload, 0, 0), some (.aload_n 0, 0, 0), some (.iload_n 3, 0, 0), some (.iconst 2, 0, 0), some (.iadd, 0, 0)],
  [some (.iaload, 0, 0), some (.invokevirtual 117, 208, 1339), none, none, some (.if_icmp .eq 382, 1298, 0), none, none, some (.iconst 0, 0, 0), some (.ireturn, 0, 0), some (.aload_n 1, 0, 0), some (.aload_n 0, 0, 0), some (.iload_n 3, 0, 0), some (.iconst 1, 0, 0), some (.iadd, 0, 0), some (.iaload, 0, 0), some (.aload_n 0, 0, 0)],
  [some (.iload_n 3, 0, 0), some (.iconst 2, 0, 0), some (.iadd, 0, 0), some (.iaload, 0, 0), some (.invokevirtual 118, 107, 812), none, none, some (.aload_n 2, 0, 0), some (.aload_n 0, 0, 0), some (.iload_n 3, 0, 0), some (.iconst 1, 0, 0), some (.iadd, 0, 0), some (.iaload, 0, 0), some (.aload_n 0, 0, 0), some (.iload_n 3, 0, 0), some (.iconst 2, 0, 0)],
  [some (.iadd, 0, 0), some (.iaload, 0, 0), some (.invokevirtual 121, 210, 1347), none, none, some (.if_icmp .eq 349, 1298, 0), none, none, some (.iconst 0, 0, 0), some (.ireturn, 0, 0), some (.aload_n 1, 0, 0), some (.aload_n 0, 0, 0), some (.iload_n 3, 0, 0), some (.iconst 1, 0, 0), some (.iadd, 0, 0), some (.iaload, 0, 0)],
  [some (.aload_n 0, 0, 0), some (.iload_n 3, 0, 0), some (.iconst 2, 0, 0), some (.iadd, 0, 0), some (.iaload, 0, 0), some (.aload_n 0, 0, 0), some (.iload_n 3, 0, 0), some (.iconst 3, 0, 0), some (.iadd, 0, 0), some (.iaload, 0, 0), some (.aload_n 0, 0, 0), some (.iload_n 3, 0, 0), some (.iconst 4, 0, 0), some (.iadd, 0, 0), some (.iaload, 0, 0), some (.aload_n 0, 0, 0)],
  [some (.iload_n 3, 0, 0), some (.iconst 5, 0, 0), some (.iadd, 0, 0), some (.iaload, 0, 0), some (.invokevirtual 122, 114, 842), none, none, some (.aload_n 2, 0, 0), some (.aload_n 0, 0, 0), some (.iload_n 3, 0, 0), some (.iconst 1, 0, 0), some (.iadd, 0, 0), some (.iaload, 0, 0), some (.aload_n 0, 0, 0), some (.iload_n 3, 0, 0), some (.iconst 2, 0, 0)],
  [some (.iadd, 0, 0), some (.iaload, 0, 0), some (.aload_n 0, 0, 0), some (.iload_n 3, 0, 0), some (.iconst 3, 0, 0), some (.iadd, 0, 0), some (.iaload, 0, 0), some (.aload_n 0, 0, 0), some (.iload_n 3, 0, 0), some (.iconst 4, 0, 0), some (.iadd, 0, 0), some (.iaload, 0, 0), some (.aload_n 0, 0, 0), some (.iload_n 3, 0, 0), some (.iconst 5, 0, 0), some (.iadd, 0, 0)],
  [some (.iaload, 0, 0), some (.invokevirtual 125, 212, 1355), none, none, some (.if_icmp .eq 286, 1298, 0), none, none, some (.iconst 0, 0, 0), some (.ireturn, 0, 0), some (.aload_n 1, 0, 0), some (.aload_n 0, 0, 0), some (.iload_n 3, 0, 0), some (.iconst 1, 0, 0), some (.iadd, 0, 0), some (.iaload, 0, 0), some (.aload_n 0, 0, 0)],
  [some (.iload_n 3, 0, 0), some (.iconst 2, 0, 0), some (.iadd, 0, 0), some (.iaload, 0, 0), some (.aload_n 0, 0, 0), some (.iload_n 3, 0, 0), some (.iconst 3, 0, 0), some (.iadd, 0, 0), some (.iaload, 0, 0), some (.invokevirtual 126, 119, 866), none, none, some (.aload_n 2, 0, 0), some (.aload_n 0, 0, 0), some (.iload_n 3, 0, 0), some (.iconst 1, 0, 0)],
  [some (.iadd, 0, 0), some (.iaload, 0, 0), some (.aload_n 0, 0, 0), some (.iload_n 3, 0, 0), some (.iconst 2, 0, 0), some (.iadd, 0, 0), some (.iaload, 0, 0), some (.aload_n 0, 0, 0), some (.iload_n 3, 0, 0), some (.iconst 3, 0, 0), some (.iadd, 0, 0), some (.iaload, 0, 0), some (.invokevirtual 130, 216, 1371), none, none, some (.lcmp, 0, 0)],
  [some (.ifCond .eq 242, 1298, 0), none, none, some (.iconst 0, 0, 0), some (.ireturn, 0, 0), some (.aload_n 1, 0, 0), some (.aload_n 0, 0, 0), some (.iload_n 3, 0, 0), some (.iconst 1, 0, 0), some (.iadd, 0, 0), some (.iaload, 0, 0), some (.aload_n 0, 0, 0), some (.iload_n 3, 0, 0), some (.iconst 2, 0, 0), some (.iadd, 0, 0), some (.iaload, 0, 0)],
  [some (.aload_n 0, 0, 0), some (.iload_n 3, 0, 0), some (.iconst 3, 0, 0), some (.iadd, 0, 0), some (.iaload, 0, 0), some (.invokevirtual 131, 124, 890), none, none, some (.aload_n 2, 0, 0), some (.aload_n 0, 0, 0), some (.iload_n 3, 0, 0), some (.iconst 1, 0, 0), some (.iadd, 0, 0), some (.iaload, 0, 0), some (.aload_n 0, 0, 0), some (.iload_n 3, 0, 0)],
  [some (.iconst 2, 0, 0), some (.iadd, 0, 0), some (.iaload, 0, 0), some (.aload_n 0, 0, 0), some (.iload_n 3, 0, 0), some (.iconst 3, 0, 0), some (.iadd, 0, 0), some (.iaload, 0, 0), some (.invokevirtual 134, 218, 1380), none, none, some (.if_icmp .eq 199, 1298, 0), none, none, some (.iconst 0, 0, 0), some (.ireturn, 0, 0)],
  [some (.aload_n 1, 0, 0), some (.aload_n 0, 0, 0), some (.iload_n 3, 0, 0), some (.iconst 1, 0, 0), some (.iadd, 0, 0), some (.iaload, 0, 0), some (.invokevirtual 135, 127, 909), none, none, some (.aload_n 2, 0, 0), some (.aload_n 0, 0, 0), some (.iload_n 3, 0, 0), some (.iconst 1, 0, 0), some (.iadd, 0, 0), some (.iaload, 0, 0), some (.invokevirtual 138, 219, 1389)],
  [none, none, some (.if_icmp .eq 176, 1298, 0), none, none, some (.iconst 0, 0, 0), some (.ireturn, 0, 0), some (.aload_n 1, 0, 0), some (.aload_n 0, 0, 0), some (.iload_n 3, 0, 0), some (.iconst 1, 0, 0), some (.iadd, 0, 0), some (.iaload, 0, 0), some (.invokevirtual 139, 129, 918), none, none],
  [some (.aload_n 2, 0, 0), some (.aload_n 0, 0, 0), some (.iload_n 3, 0, 0), some (.iconst 1, 0, 0), some (.iadd, 0, 0), some (.iaload, 0, 0), some (.invokevirtual 142, 220, 1393), none, none, some (.if_icmp .eq 153, 1298, 0), none, none, some (.iconst 0, 0, 0), some (.ireturn, 0, 0), some (.aload_n 1, 0, 0), some (.aload_n 0, 0, 0)],
  [some (.iload_n 3, 0, 0), some (.iconst 1, 0, 0), some (.iadd, 0, 0), some (.iaload, 0, 0), some (.invokevirtual 143, 132, 931), none, none, some (.aload_n 2, 0, 0), some (.aload_n 0, 0, 0), some (.iload_n 3, 0, 0), some (.iconst 1, 0, 0), some (.iadd, 0, 0), some (.iaload, 0, 0), some (.invokevirtual 146, 221, 1397), none, none],
  [some (.if_icmp .eq 130, 1298, 0), none, none, some (.iconst 0, 0, 0), some (.ireturn, 0, 0), some (.aload_n 1, 0, 0), some (.aload_n 0, 0, 0), some (.iload_n 3, 0, 0), some (.iconst 1, 0, 0), some (.iadd, 0, 0), some (.iaload, 0, 0), some (.aload_n 0, 0, 0), some (.iload_n 3, 0, 0), some (.iconst 2, 0, 0), some (.iadd, 0, 0), some (.iaload, 0, 0)],
  [some (.invokevirtual 147, 133, 935), none, none, some (.aload_n 2, 0, 0), some (.aload_n 0, 0, 0), some (.iload_n 3, 0, 0), some (.iconst 1, 0, 0), some (.iadd, 0, 0), some (.iaload, 0, 0), some (.aload_n 0, 0, 0), some (.iload_n 3, 0, 0), some (.iconst 2, 0, 0), some (.iadd, 0, 0), some (.iaload, 0, 0), some (.invokevirtual 150, 222, 1401), none],
  [none, some (.if_icmp .eq 97, 1298, 0), none, none, some (.iconst 0, 0, 0), some (.ireturn, 0, 0), some (.aload_n 1, 0, 0), some (.aload_n 0, 0, 0), some (.iload_n 3, 0, 0), some (.iconst 1, 0, 0), some (.iadd, 0, 0), some (.iaload, 0, 0), some (.aload_n 0, 0, 0), some (.iload_n 3, 0, 0), some (.iconst 2, 0, 0), some (.iadd, 0, 0)],
  [some (.iaload, 0, 0), some (.invokevirtual 151, 136, 947), none, none, some (.aload_n 2, 0, 0), some (.aload_n 0, 0, 0), some (.iload_n 3, 0, 0), some (.iconst 1, 0, 0), some (.iadd, 0, 0), some (.iaload, 0, 0), some (.aload_n 0, 0, 0), some (.iload_n 3, 0, 0), some (.iconst 2, 0, 0), some (.iadd, 0, 0), some (.iaload, 0, 0), some (.invokevirtual 154, 224, 1409)],
  [none, none, some (.if_icmp .eq 64, 1298, 0), none, none, some (.iconst 0, 0, 0), some (.ireturn, 0, 0), some (.aload_n 1, 0, 0), some (.aload_n 0, 0, 0), some (.iload_n 3, 0, 0), some (.iconst 1, 0, 0), some (.iadd, 0, 0), some (.iaload, 0, 0), some (.invokevirtual 155, 141, 975), none, none],
  [some (.aload_n 2, 0, 0), some (.aload_n 0, 0, 0), some (.iload_n 3, 0, 0), some (.iconst 1, 0, 0), some (.iadd, 0, 0), some (.iaload, 0, 0), some (.invokevirtual 158, 233, 1445), none, none, some (.if_icmp .eq 41, 1298, 0), none, none, some (.iconst 0, 0, 0), some (.ireturn, 0, 0), some (.aload_n 1, 0, 0), some (.aload_n 0, 0, 0)],
  [some (.iload_n 3, 0, 0), some (.iconst 1, 0, 0), some (.iadd, 0, 0), some (.iaload, 0, 0), some (.invokevirtual 159, 142, 979), none, none, some (.aload_n 2, 0, 0), some (.aload_n 0, 0, 0), some (.iload_n 3, 0, 0), some (.iconst 1, 0, 0), some (.iadd, 0, 0), some (.iaload, 0, 0), some (.invokevirtual 162, 234, 1449), none, none],
  [some (.if_icmp .eq 18, 1298, 0), none, none, some (.iconst 0, 0, 0), some (.ireturn, 0, 0), some (.aload_n 1, 0, 0), some (.invokevirtual 163, 145, 992), none, none, some (.aload_n 2, 0, 0), some (.invokevirtual 166, 237, 1461), none, none, some (.if_icmp .eq 5, 1298, 0), none, none],
  [some (.iconst 0, 0, 0), some (.ireturn, 0, 0), some (.iinc 3 6, 0, 0), none, none, some (.goto (-1283), 18, 0), none, none, some (.iconst 1, 0, 0), some (.ireturn, 0, 0)]]
def am_cL : List (List (List (List (Option am_E)))) := [[am_c0, am_c1, am_c2, am_c3, am_c4, am_c5, am_c6, am_c7, am_c8, am_c9, am_c10, am_c11, am_c12, am_c13, am_c14, am_c15],
  [am_c16, am_c17, am_c18, am_c19, am_c20, am_c21, am_c22, am_c23, am_c24, am_c25, am_c26, am_c27, am_c28, am_c29, am_c30, am_c31],
  [am_c32, am_c33, am_c34, am_c35, am_c36, am_c37, am_c38, am_c39, am_c40, am_c41, am_c42, am_c43, am_c44, am_c45, am_c46, am_c47],
  [am_c48, am_c49, am_c50, am_c51, am_c52, am_c53, am_c54, am_c55, am_c56, am_c57, am_c58, am_c59, am_c60, am_c61, am_c62, am_c63],
  [am_c64, am_c65, am_c66, am_c67, am_c68, am_c69, am_c70, am_c71, am_c72, am_c73, am_c74, am_c75, am_c76, am_c77, am_c78, am_c79],
  [am_c80, am_c81, am_c82, am_c83, am_c84, am_c85, am_c86, am_c87, am_c88, am_c89, am_c90, am_c91, am_c92, am_c93, am_c94, am_c95],
  [am_c96, am_c97, am_c98, am_c99, am_c100, am_c101, am_c102, am_c103, am_c104, am_c105, am_c106, am_c107, am_c108, am_c109, am_c110, am_c111],
  [am_c112, am_c113, am_c114, am_c115, am_c116, am_c117, am_c118, am_c119, am_c120, am_c121, am_c122, am_c123, am_c124, am_c125, am_c126, am_c127],
  [am_c128, am_c129, am_c130, am_c131, am_c132, am_c133, am_c134, am_c135, am_c136, am_c137, am_c138, am_c139, am_c140, am_c141, am_c142, am_c143],
  [am_c144, am_c145, am_c146, am_c147, am_c148, am_c149, am_c150, am_c151, am_c152, am_c153, am_c154, am_c155, am_c156, am_c157, am_c158, am_c159],
  [am_c160, am_c161, am_c162, am_c163, am_c164, am_c165, am_c166, am_c167, am_c168, am_c169, am_c170, am_c171, am_c172, am_c173, am_c174, am_c175],
  [am_c176, am_c177, am_c178, am_c179, am_c180, am_c181, am_c182, am_c183, am_c184, am_c185, am_c186, am_c187, am_c188, am_c189, am_c190, am_c191],
  [am_c192, am_c193, am_c194, am_c195, am_c196, am_c197, am_c198, am_c199, am_c200, am_c201, am_c202, am_c203, am_c204, am_c205, am_c206, am_c207],
  [am_c208, am_c209, am_c210, am_c211, am_c212, am_c213, am_c214, am_c215, am_c216, am_c217, am_c218, am_c219, am_c220, am_c221, am_c222, am_c223],
  [am_c224, am_c225, am_c226, am_c227, am_c228, am_c229, am_c230, am_c231, am_c232, am_c233, am_c234, am_c235, am_c236, am_c237, am_c238, am_c239]]
def am_cod (y : Nat) : List (List (Option am_E)) := (am_cL.getD (y / 16) []).getD (y % 16) []
def am_P (y pc : Nat) : Option am_E := ((am_cod y).getD (pc / 16) []).getD (pc % 16) none
def am_law : Nat := 239
/-- lw_tbl in stretches of forty -/
def am_t0 : List Jvm.Cond := [(Jvm.Cond.selects "WheelRide" ⟨"WheelRide", "found", "(I)I"⟩ ⟨"WheelRide", "found", "(I)I"⟩),
  (Jvm.Cond.selects "WheelRide" ⟨"WheelRide", "well", "(I)I"⟩ ⟨"WheelRide", "well", "(I)I"⟩),
  (Jvm.Cond.selects "WheelRide$Tape" ⟨"WheelRide$Tape", "readLaw", "(LWheelRide$Wheel;)V"⟩ ⟨"WheelRide$Tape", "readLaw", "(LWheelRide$Wheel;)V"⟩),
  (Jvm.Cond.selects "WheelRide$Tape" ⟨"WheelRide$Tape", "takeSign", "(I)V"⟩ ⟨"WheelRide$Tape", "takeSign", "(I)V"⟩),
  (Jvm.Cond.selects "WheelRide$Tape" ⟨"WheelRide$Tape", "byteAt", "(I)I"⟩ ⟨"WheelRide$Tape", "byteAt", "(I)I"⟩),
  (Jvm.Cond.selects "WheelRide$Tape" ⟨"WheelRide$Tape", "takeNumber", "(II)I"⟩ ⟨"WheelRide$Tape", "takeNumber", "(II)I"⟩),
  (Jvm.Cond.selects "WheelRide$Tape" ⟨"WheelRide$Tape", "readParty", "(LWheelRide$Wheel;)V"⟩ ⟨"WheelRide$Tape", "readParty", "(LWheelRide$Wheel;)V"⟩),
  (Jvm.Cond.selects "WheelRide$Tape" ⟨"WheelRide$Tape", "takeSort", "(Z)I"⟩ ⟨"WheelRide$Tape", "takeSort", "(Z)I"⟩),
  (Jvm.Cond.selects "WheelRide" ⟨"WheelRide", "keepForUndo", "()V"⟩ ⟨"WheelRide", "keepForUndo", "()V"⟩),
  (Jvm.Cond.selects "WheelRide$Wheel" ⟨"WheelRide$Wheel", "letOff", "()V"⟩ ⟨"WheelRide$Wheel", "letOff", "()V"⟩),
  (Jvm.Cond.selects "WheelRide$Wheel" ⟨"WheelRide$Wheel", "isDone", "(I)Z"⟩ ⟨"WheelRide$Wheel", "isDone", "(I)Z"⟩),
  (Jvm.Cond.selects "WheelRide$Wheel" ⟨"WheelRide$Wheel", "placeFrom", "(II)I"⟩ ⟨"WheelRide$Wheel", "placeFrom", "(II)I"⟩),
  (Jvm.Cond.selects "WheelRide$Wheel" ⟨"WheelRide$Wheel", "letIn", "([I)V"⟩ ⟨"WheelRide$Wheel", "letIn", "([I)V"⟩),
  (Jvm.Cond.selects "WheelRide$Wheel" ⟨"WheelRide$Wheel", "waitOn", "()V"⟩ ⟨"WheelRide$Wheel", "waitOn", "()V"⟩),
  (Jvm.Cond.selects "WheelRide$Wheel" ⟨"WheelRide$Wheel", "hasLostPatience", "(I)Z"⟩ ⟨"WheelRide$Wheel", "hasLostPatience", "(I)Z"⟩),
  (Jvm.Cond.selects "WheelRide$Wheel" ⟨"WheelRide$Wheel", "turn", "()Z"⟩ ⟨"WheelRide$Wheel", "turn", "()Z"⟩),
  (Jvm.Cond.selects "WheelRide$Planner" ⟨"WheelRide$Planner", "isFirstOfItsLike", "()Z"⟩ ⟨"WheelRide$Planner", "isFirstOfItsLike", "()Z"⟩),
  (Jvm.Cond.selects "WheelRide$Planner" ⟨"WheelRide$Planner", "tryRank", "(I)V"⟩ ⟨"WheelRide$Planner", "tryRank", "(I)V"⟩),
  (Jvm.Cond.selects "WheelRide$Planner" ⟨"WheelRide$Planner", "nextRank", "()Z"⟩ ⟨"WheelRide$Planner", "nextRank", "()Z"⟩),
  (Jvm.Cond.selects "WheelRide$Planner" ⟨"WheelRide$Planner", "swap", "(II)V"⟩ ⟨"WheelRide$Planner", "swap", "(II)V"⟩),
  (Jvm.Cond.selects "WheelRide$Chances" ⟨"WheelRide$Chances", "riddenBy", "(III)I"⟩ ⟨"WheelRide$Chances", "riddenBy", "(III)I"⟩),
  (Jvm.Cond.selects "WheelRide$Chances" ⟨"WheelRide$Chances", "move", "(I)V"⟩ ⟨"WheelRide$Chances", "move", "(I)V"⟩),
  (Jvm.Cond.selects "WheelRide$Guesser" ⟨"WheelRide$Guesser", "suppose", "(III)V"⟩ ⟨"WheelRide$Guesser", "suppose", "(III)V"⟩),
  (Jvm.Cond.selects "WheelRide$Guesser" ⟨"WheelRide$Guesser", "leansAs", "([III)Z"⟩ ⟨"WheelRide$Guesser", "leansAs", "([III)Z"⟩),
  (Jvm.Cond.selects "WheelRide$Chances" ⟨"WheelRide$Chances", "tryWithout", "(I)V"⟩ ⟨"WheelRide$Chances", "tryWithout", "(I)V"⟩),
  (Jvm.Cond.selects "WheelRide$Chances" ⟨"WheelRide$Chances", "happen", "(J)V"⟩ ⟨"WheelRide$Chances", "happen", "(J)V"⟩),
  (Jvm.Cond.selects "WheelRide$Asks" ⟨"WheelRide$Asks", "answer", "(III)I"⟩ ⟨"WheelRide$Asks", "answer", "(III)I"⟩),
  (Jvm.Cond.selects "WheelRide$Asks" ⟨"WheelRide$Asks", "tell", "(III)I"⟩ ⟨"WheelRide$Asks", "tell", "(III)I"⟩),
  (Jvm.Cond.selects "WheelRide$Asks" ⟨"WheelRide$Asks", "leaveTrace", "(I)V"⟩ ⟨"WheelRide$Asks", "leaveTrace", "(I)V"⟩),
  (Jvm.Cond.selects "WheelRideModel" ⟨"WheelRideModel", "byNumbers", "()V"⟩ ⟨"WheelRideModel", "byNumbers", "()V"⟩),
  (Jvm.Cond.selects "WheelRideModel" ⟨"WheelRideModel", "isRow", "(I)Z"⟩ ⟨"WheelRideModel", "isRow", "(I)Z"⟩),
  (Jvm.Cond.selects "WheelRideModel" ⟨"WheelRideModel", "finds", "(I)I"⟩ ⟨"WheelRideModel", "finds", "(I)I"⟩),
  (Jvm.Cond.selects "WheelRideModel" ⟨"WheelRideModel", "readWheel", "()V"⟩ ⟨"WheelRideModel", "readWheel", "()V"⟩),
  (Jvm.Cond.selects "WheelRideModel" ⟨"WheelRideModel", "sign", "(I)V"⟩ ⟨"WheelRideModel", "sign", "(I)V"⟩),
  (Jvm.Cond.selects "WheelRideModel" ⟨"WheelRideModel", "here", "()I"⟩ ⟨"WheelRideModel", "here", "()I"⟩),
  (Jvm.Cond.selects "WheelRideModel" ⟨"WheelRideModel", "fails", "(I)V"⟩ ⟨"WheelRideModel", "fails", "(I)V"⟩),
  (Jvm.Cond.selects "WheelRideModel" ⟨"WheelRideModel", "number", "(II)I"⟩ ⟨"WheelRideModel", "number", "(II)I"⟩),
  (Jvm.Cond.selects "WheelRideModel" ⟨"WheelRideModel", "figures", "()I"⟩ ⟨"WheelRideModel", "figures", "()I"⟩),
  (Jvm.Cond.selects "WheelRideModel" ⟨"WheelRideModel", "readParty", "()V"⟩ ⟨"WheelRideModel", "readParty", "()V"⟩),
  (Jvm.Cond.selects "WheelRideModel" ⟨"WheelRideModel", "isNone", "()Z"⟩ ⟨"WheelRideModel", "isNone", "()Z"⟩)]
def am_t1 : List Jvm.Cond := [(Jvm.Cond.selects "WheelRideModel" ⟨"WheelRideModel", "notes", "()V"⟩ ⟨"WheelRideModel", "notes", "()V"⟩),
  (Jvm.Cond.selects "WheelRideModel" ⟨"WheelRideModel", "stepOn", "([I)I"⟩ ⟨"WheelRideModel", "stepOn", "([I)I"⟩),
  (Jvm.Cond.selects "WheelRideModel" ⟨"WheelRideModel", "partyIn", "([II)I"⟩ ⟨"WheelRideModel", "partyIn", "([II)I"⟩),
  (Jvm.Cond.selects "WheelRideModel" ⟨"WheelRideModel", "isDone", "([II)Z"⟩ ⟨"WheelRideModel", "isDone", "([II)Z"⟩),
  (Jvm.Cond.selects "WheelRideModel" ⟨"WheelRideModel", "those", "([II)I"⟩ ⟨"WheelRideModel", "those", "([II)I"⟩),
  (Jvm.Cond.selects "WheelRideModel" ⟨"WheelRideModel", "leanBy", "([II)I"⟩ ⟨"WheelRideModel", "leanBy", "([II)I"⟩),
  (Jvm.Cond.selects "WheelRideModel" ⟨"WheelRideModel", "placeOf", "(II)I"⟩ ⟨"WheelRideModel", "placeOf", "(II)I"⟩),
  (Jvm.Cond.selects "WheelRideModel" ⟨"WheelRideModel", "pull", "(I)I"⟩ ⟨"WheelRideModel", "pull", "(I)I"⟩),
  (Jvm.Cond.selects "WheelRideModel" ⟨"WheelRideModel", "nextWaiting", "([I)I"⟩ ⟨"WheelRideModel", "nextWaiting", "([I)I"⟩),
  (Jvm.Cond.selects "WheelRideModel" ⟨"WheelRideModel", "loses", "([I)V"⟩ ⟨"WheelRideModel", "loses", "([I)V"⟩),
  (Jvm.Cond.selects "WheelRideModel" ⟨"WheelRideModel", "isBalance", "([II)Z"⟩ ⟨"WheelRideModel", "isBalance", "([II)Z"⟩),
  (Jvm.Cond.selects "WheelRideModel" ⟨"WheelRideModel", "isGondola", "(I)Z"⟩ ⟨"WheelRideModel", "isGondola", "(I)Z"⟩),
  (Jvm.Cond.selects "WheelRideModel" ⟨"WheelRideModel", "isParty", "(I)Z"⟩ ⟨"WheelRideModel", "isParty", "(I)Z"⟩),
  (Jvm.Cond.selects "WheelRideModel" ⟨"WheelRideModel", "asItIs", "()V"⟩ ⟨"WheelRideModel", "asItIs", "()V"⟩),
  (Jvm.Cond.selects "WheelRideModel" ⟨"WheelRideModel", "goes", "(I)I"⟩ ⟨"WheelRideModel", "goes", "(I)I"⟩),
  (Jvm.Cond.selects "WheelRideModel" ⟨"WheelRideModel", "riddenOf", "([I)I"⟩ ⟨"WheelRideModel", "riddenOf", "([I)I"⟩),
  (Jvm.Cond.selects "WheelRideModel" ⟨"WheelRideModel", "nextOrder", "()Z"⟩ ⟨"WheelRideModel", "nextOrder", "()Z"⟩),
  (Jvm.Cond.selects "WheelRideModel" ⟨"WheelRideModel", "weightOf", "(I)I"⟩ ⟨"WheelRideModel", "weightOf", "(I)I"⟩),
  (Jvm.Cond.selects "WheelRideModel" ⟨"WheelRideModel", "sharesOf", "(III)I"⟩ ⟨"WheelRideModel", "sharesOf", "(III)I"⟩),
  (Jvm.Cond.selects "WheelRideModel" ⟨"WheelRideModel", "worthOf", "(III)I"⟩ ⟨"WheelRideModel", "worthOf", "(III)I"⟩),
  (Jvm.Cond.selects "WheelRideModel" ⟨"WheelRideModel", "byRow", "([IIIII)I"⟩ ⟨"WheelRideModel", "byRow", "([IIIII)I"⟩),
  (Jvm.Cond.selects "WheelRideModel" ⟨"WheelRideModel", "isSo", "(III)Z"⟩ ⟨"WheelRideModel", "isSo", "(III)Z"⟩),
  (Jvm.Cond.selects "WheelRideModel" ⟨"WheelRideModel", "limitsBy", "(IIII)I"⟩ ⟨"WheelRideModel", "limitsBy", "(IIII)I"⟩),
  (Jvm.Cond.selects "WheelRideModel" ⟨"WheelRideModel", "isA", "(II)Z"⟩ ⟨"WheelRideModel", "isA", "(II)Z"⟩),
  (Jvm.Cond.selects "WheelRideModel" ⟨"WheelRideModel", "familySize", "(I)I"⟩ ⟨"WheelRideModel", "familySize", "(I)I"⟩),
  (Jvm.Cond.selects "WheelRideModel" ⟨"WheelRideModel", "leaves", "(I)V"⟩ ⟨"WheelRideModel", "leaves", "(I)V"⟩),
  (Jvm.Cond.selects "WheelRideModel" ⟨"WheelRideModel", "ten", "(I)I"⟩ ⟨"WheelRideModel", "ten", "(I)I"⟩),
  (Jvm.Cond.selects "WheelRideModel" ⟨"WheelRideModel", "familyMark", "(I)I"⟩ ⟨"WheelRideModel", "familyMark", "(I)I"⟩),
  (Jvm.Cond.selects "WheelRideModel" ⟨"WheelRideModel", "twentyOne", "(I)I"⟩ ⟨"WheelRideModel", "twentyOne", "(I)I"⟩),
  (Jvm.Cond.selects "WheelRideModel" ⟨"WheelRideModel", "twenty", "(I)I"⟩ ⟨"WheelRideModel", "twenty", "(I)I"⟩),
  (Jvm.Cond.selects "WheelRideModel" ⟨"WheelRideModel", "solitarySize", "(I)I"⟩ ⟨"WheelRideModel", "solitarySize", "(I)I"⟩),
  (Jvm.Cond.selects "WheelRideModel" ⟨"WheelRideModel", "solitaryMark", "(I)I"⟩ ⟨"WheelRideModel", "solitaryMark", "(I)I"⟩),
  (Jvm.Cond.selects "WheelRideModel" ⟨"WheelRideModel", "rowsThere", "()I"⟩ ⟨"WheelRideModel", "rowsThere", "()I"⟩),
  (Jvm.Cond.selects "WheelRideModel" ⟨"WheelRideModel", "ballastOfAll", "()I"⟩ ⟨"WheelRideModel", "ballastOfAll", "()I"⟩),
  (Jvm.Cond.initialized "WheelRideLaw"),
  (Jvm.Cond.initialized "WheelRide"),
  (Jvm.Cond.initialized "WheelRide$Rows"),
  (Jvm.Cond.initialized "WheelRide$Tape"),
  (Jvm.Cond.initialized "WheelRide$Wheel"),
  (Jvm.Cond.initialized "WheelRide$Acts")]
def am_t2 : List Jvm.Cond := [(Jvm.Cond.initialized "WheelRide$Images"),
  (Jvm.Cond.initialized "WheelRide$Foretold"),
  (Jvm.Cond.initialized "WheelRide$Planner"),
  (Jvm.Cond.initialized "WheelRide$Guesser"),
  (Jvm.Cond.initialized "WheelRide$Chances"),
  (Jvm.Cond.initialized "WheelRide$Asks"),
  (Jvm.Cond.initialized "WheelRideModel"),
  (Jvm.Cond.initialized "java/lang/System"),
  (Jvm.Cond.initialized "java/lang/Math"),
  (Jvm.Cond.initialized "java/lang/Integer"),
  (Jvm.Cond.initialized "WheelRide$Sums"),
  (Jvm.Cond.classLink "WheelRideLaw" (7 : Nat) "WheelRide"),
  (Jvm.Cond.instantiable "WheelRide" (13 : Nat)),
  (Jvm.Cond.methodLink "WheelRideLaw" (9 : Nat) ({ cls := "WheelRide", name := "<init>", desc := "()V" } : Jvm.MethodName)),
  (Jvm.Cond.instanceMethod ({ cls := "WheelRide", name := "<init>", desc := "()V" } : Jvm.MethodName)),
  (Jvm.Cond.code ({ cls := "WheelRide", name := "<init>", desc := "()V" } : Jvm.MethodName) prog_1_method_1_code (1 : Nat) (Option.none : Option Jvm.ClassFile.FieldType)),
  (Jvm.Cond.methodLink "WheelRide" (1 : Nat) ({ cls := "java/lang/Object", name := "<init>", desc := "()V" } : Jvm.MethodName)),
  (Jvm.Cond.instanceMethod ({ cls := "java/lang/Object", name := "<init>", desc := "()V" } : Jvm.MethodName)),
  (Jvm.Cond.code ({ cls := "java/lang/Object", name := "<init>", desc := "()V" } : Jvm.MethodName) object_method_1_code (1 : Nat) (Option.none : Option Jvm.ClassFile.FieldType)),
  (Jvm.Cond.classLink "WheelRide" (7 : Nat) "WheelRide$Rows"),
  (Jvm.Cond.instantiable "WheelRide$Rows" (3 : Nat)),
  (Jvm.Cond.methodLinkNest "WheelRide" (9 : Nat) ({ cls := "WheelRide$Rows", name := "<init>", desc := "()V" } : Jvm.MethodName) "WheelRide"),
  (Jvm.Cond.instanceMethod ({ cls := "WheelRide$Rows", name := "<init>", desc := "()V" } : Jvm.MethodName)),
  (Jvm.Cond.code ({ cls := "WheelRide$Rows", name := "<init>", desc := "()V" } : Jvm.MethodName) prog_9_method_1_code (1 : Nat) (Option.none : Option Jvm.ClassFile.FieldType)),
  (Jvm.Cond.methodLink "WheelRide$Rows" (3 : Nat) ({ cls := "java/lang/Object", name := "<init>", desc := "()V" } : Jvm.MethodName)),
  (Jvm.Cond.classLink "WheelRide$Rows" (9 : Nat) "[[I"),
  (Jvm.Cond.arrayOver (Jvm.ClassFile.FieldType.array Jvm.ClassFile.FieldType.int)),
  (Jvm.Cond.fieldLink "WheelRide$Rows" (11 : Nat) "WheelRide$Rows" "items" "[[I"),
  (Jvm.Cond.fieldLink "WheelRide" (293 : Nat) "WheelRide$Rows" "items" "[[I"),
  (Jvm.Cond.fieldLink "WheelRide$Rows" (16 : Nat) "WheelRide$Rows" "lanes" "[I"),
  (Jvm.Cond.fieldLink "WheelRide$Rows" (20 : Nat) "WheelRide$Rows" "lengths" "[I"),
  (Jvm.Cond.laysFinal "WheelRide$Rows" "WheelRide$Rows" "items" "[[I"),
  (Jvm.Cond.soleField "WheelRide$Rows" "items"),
  (Jvm.Cond.laysFinal "WheelRide$Rows" "WheelRide$Rows" "lanes" "[I"),
  (Jvm.Cond.soleField "WheelRide$Rows" "lanes"),
  (Jvm.Cond.laysFinal "WheelRide$Rows" "WheelRide$Rows" "lengths" "[I"),
  (Jvm.Cond.soleField "WheelRide$Rows" "lengths"),
  (Jvm.Cond.superclass "WheelRide$Rows" "java/lang/Object"),
  (Jvm.Cond.arrayClass Jvm.ClassFile.FieldType.int),
  (Jvm.Cond.classLink "WheelRide" (16 : Nat) "WheelRide$Tape")]
def am_t3 : List Jvm.Cond := [(Jvm.Cond.instantiable "WheelRide$Tape" (4 : Nat)),
  (Jvm.Cond.methodLinkNest "WheelRide" (18 : Nat) ({ cls := "WheelRide$Tape", name := "<init>", desc := "()V" } : Jvm.MethodName) "WheelRide"),
  (Jvm.Cond.instanceMethod ({ cls := "WheelRide$Tape", name := "<init>", desc := "()V" } : Jvm.MethodName)),
  (Jvm.Cond.code ({ cls := "WheelRide$Tape", name := "<init>", desc := "()V" } : Jvm.MethodName) prog_11_method_1_code (1 : Nat) (Option.none : Option Jvm.ClassFile.FieldType)),
  (Jvm.Cond.methodLink "WheelRide$Tape" (3 : Nat) ({ cls := "java/lang/Object", name := "<init>", desc := "()V" } : Jvm.MethodName)),
  (Jvm.Cond.fieldLink "WheelRide$Tape" (9 : Nat) "WheelRide$Tape" "bytes" "[I"),
  (Jvm.Cond.fieldLink "WheelRide$Tape" (22 : Nat) "WheelRide$Tape" "fault" "I"),
  (Jvm.Cond.fieldLink "WheelRide$Tape" (15 : Nat) "WheelRide$Tape" "length" "I"),
  (Jvm.Cond.fieldLink "WheelRide" (124 : Nat) "WheelRide$Tape" "length" "I"),
  (Jvm.Cond.fieldLink "WheelRide$Tape" (19 : Nat) "WheelRide$Tape" "at" "I"),
  (Jvm.Cond.fieldLink "WheelRide" (143 : Nat) "WheelRide$Tape" "at" "I"),
  (Jvm.Cond.laysFinal "WheelRide$Tape" "WheelRide$Tape" "bytes" "[I"),
  (Jvm.Cond.soleField "WheelRide$Tape" "bytes"),
  (Jvm.Cond.lays "WheelRide$Tape" "WheelRide$Tape" "fault" "I"),
  (Jvm.Cond.soleField "WheelRide$Tape" "fault"),
  (Jvm.Cond.lays "WheelRide$Tape" "WheelRide$Tape" "length" "I"),
  (Jvm.Cond.soleField "WheelRide$Tape" "length"),
  (Jvm.Cond.lays "WheelRide$Tape" "WheelRide$Tape" "at" "I"),
  (Jvm.Cond.soleField "WheelRide$Tape" "at"),
  (Jvm.Cond.superclass "WheelRide$Tape" "java/lang/Object"),
  (Jvm.Cond.classLink "WheelRide" (23 : Nat) "WheelRide$Wheel"),
  (Jvm.Cond.instantiable "WheelRide$Wheel" (13 : Nat)),
  (Jvm.Cond.methodLinkNest "WheelRide" (25 : Nat) ({ cls := "WheelRide$Wheel", name := "<init>", desc := "()V" } : Jvm.MethodName) "WheelRide"),
  (Jvm.Cond.instanceMethod ({ cls := "WheelRide$Wheel", name := "<init>", desc := "()V" } : Jvm.MethodName)),
  (Jvm.Cond.code ({ cls := "WheelRide$Wheel", name := "<init>", desc := "()V" } : Jvm.MethodName) prog_12_method_1_code (1 : Nat) (Option.none : Option Jvm.ClassFile.FieldType)),
  (Jvm.Cond.methodLink "WheelRide$Wheel" (3 : Nat) ({ cls := "java/lang/Object", name := "<init>", desc := "()V" } : Jvm.MethodName)),
  (Jvm.Cond.fieldLink "WheelRide$Wheel" (36 : Nat) "WheelRide$Wheel" "gondolas" "I"),
  (Jvm.Cond.fieldLink "WheelRide$Planner" (95 : Nat) "WheelRide$Wheel" "gondolas" "I"),
  (Jvm.Cond.fieldLink "WheelRide$Chances" (116 : Nat) "WheelRide$Wheel" "gondolas" "I"),
  (Jvm.Cond.fieldLink "WheelRide" (236 : Nat) "WheelRide$Wheel" "gondolas" "I"),
  (Jvm.Cond.fieldLink "WheelRide$Wheel" (40 : Nat) "WheelRide$Wheel" "limit" "I"),
  (Jvm.Cond.fieldLink "WheelRide$Guesser" (47 : Nat) "WheelRide$Wheel" "limit" "I"),
  (Jvm.Cond.fieldLink "WheelRide$Planner" (105 : Nat) "WheelRide$Wheel" "limit" "I"),
  (Jvm.Cond.fieldLink "WheelRide" (196 : Nat) "WheelRide$Wheel" "limit" "I"),
  (Jvm.Cond.fieldLink "WheelRide$Wheel" (43 : Nat) "WheelRide$Wheel" "bottom" "I"),
  (Jvm.Cond.fieldLink "WheelRide$Chances" (60 : Nat) "WheelRide$Wheel" "bottom" "I"),
  (Jvm.Cond.fieldLink "WheelRide$Guesser" (58 : Nat) "WheelRide$Wheel" "bottom" "I"),
  (Jvm.Cond.fieldLink "WheelRide" (190 : Nat) "WheelRide$Wheel" "bottom" "I"),
  (Jvm.Cond.fieldLink "WheelRide$Wheel" (46 : Nat) "WheelRide$Wheel" "step" "I"),
  (Jvm.Cond.fieldLink "WheelRide" (170 : Nat) "WheelRide$Wheel" "step" "I")]
def am_t4 : List Jvm.Cond := [(Jvm.Cond.fieldLink "WheelRide$Sums" (9 : Nat) "WheelRide$Wheel" "parties" "I"),
  (Jvm.Cond.fieldLink "WheelRide$Wheel" (49 : Nat) "WheelRide$Wheel" "parties" "I"),
  (Jvm.Cond.fieldLink "WheelRide$Planner" (55 : Nat) "WheelRide$Wheel" "parties" "I"),
  (Jvm.Cond.fieldLink "WheelRide$Tape" (46 : Nat) "WheelRide$Wheel" "parties" "I"),
  (Jvm.Cond.fieldLink "WheelRide" (153 : Nat) "WheelRide$Wheel" "parties" "I"),
  (Jvm.Cond.fieldLink "WheelRide$Chances" (102 : Nat) "WheelRide$Wheel" "parties" "I"),
  (Jvm.Cond.fieldLink "WheelRide$Wheel" (9 : Nat) "WheelRide$Wheel" "ballast" "[I"),
  (Jvm.Cond.fieldLink "WheelRide$Chances" (64 : Nat) "WheelRide$Wheel" "ballast" "[I"),
  (Jvm.Cond.fieldLink "WheelRide$Planner" (98 : Nat) "WheelRide$Wheel" "ballast" "[I"),
  (Jvm.Cond.fieldLink "WheelRide" (193 : Nat) "WheelRide$Wheel" "ballast" "[I"),
  (Jvm.Cond.fieldLink "WheelRide$Wheel" (15 : Nat) "WheelRide$Wheel" "kinds" "[I"),
  (Jvm.Cond.fieldLink "WheelRide$Guesser" (37 : Nat) "WheelRide$Wheel" "kinds" "[I"),
  (Jvm.Cond.fieldLink "WheelRide$Asks" (34 : Nat) "WheelRide$Wheel" "kinds" "[I"),
  (Jvm.Cond.fieldLink "WheelRide" (333 : Nat) "WheelRide$Wheel" "kinds" "[I"),
  (Jvm.Cond.fieldLink "WheelRide$Wheel" (18 : Nat) "WheelRide$Wheel" "weights" "[I"),
  (Jvm.Cond.fieldLink "WheelRide$Sums" (25 : Nat) "WheelRide$Wheel" "weights" "[I"),
  (Jvm.Cond.fieldLink "WheelRide$Guesser" (41 : Nat) "WheelRide$Wheel" "weights" "[I"),
  (Jvm.Cond.fieldLink "WheelRide$Asks" (57 : Nat) "WheelRide$Wheel" "weights" "[I"),
  (Jvm.Cond.fieldLink "WheelRide" (215 : Nat) "WheelRide$Wheel" "weights" "[I"),
  (Jvm.Cond.fieldLink "WheelRide$Wheel" (21 : Nat) "WheelRide$Wheel" "rounds" "[I"),
  (Jvm.Cond.fieldLink "WheelRide$Guesser" (44 : Nat) "WheelRide$Wheel" "rounds" "[I"),
  (Jvm.Cond.fieldLink "WheelRide" (218 : Nat) "WheelRide$Wheel" "rounds" "[I"),
  (Jvm.Cond.fieldLink "WheelRide$Wheel" (24 : Nat) "WheelRide$Wheel" "how" "[I"),
  (Jvm.Cond.fieldLink "WheelRide$Foretold" (32 : Nat) "WheelRide$Wheel" "how" "[I"),
  (Jvm.Cond.fieldLink "WheelRide$Planner" (60 : Nat) "WheelRide$Wheel" "how" "[I"),
  (Jvm.Cond.fieldLink "WheelRide$Sums" (33 : Nat) "WheelRide$Wheel" "how" "[I"),
  (Jvm.Cond.fieldLink "WheelRide$Chances" (105 : Nat) "WheelRide$Wheel" "how" "[I"),
  (Jvm.Cond.fieldLink "WheelRide" (209 : Nat) "WheelRide$Wheel" "how" "[I"),
  (Jvm.Cond.fieldLink "WheelRide$Wheel" (27 : Nat) "WheelRide$Wheel" "seats" "[I"),
  (Jvm.Cond.fieldLink "WheelRide$Wheel" (30 : Nat) "WheelRide$Wheel" "ridden" "[I"),
  (Jvm.Cond.fieldLink "WheelRide$Sums" (36 : Nat) "WheelRide$Wheel" "ridden" "[I"),
  (Jvm.Cond.fieldLink "WheelRide$Asks" (60 : Nat) "WheelRide$Wheel" "ridden" "[I"),
  (Jvm.Cond.fieldLink "WheelRide" (221 : Nat) "WheelRide$Wheel" "ridden" "[I"),
  (Jvm.Cond.fieldLink "WheelRide$Wheel" (33 : Nat) "WheelRide$Wheel" "waited" "[I"),
  (Jvm.Cond.fieldLink "WheelRide" (224 : Nat) "WheelRide$Wheel" "waited" "[I"),
  (Jvm.Cond.lays "WheelRide$Wheel" "WheelRide$Wheel" "gondolas" "I"),
  (Jvm.Cond.soleField "WheelRide$Wheel" "gondolas"),
  (Jvm.Cond.lays "WheelRide$Wheel" "WheelRide$Wheel" "limit" "I"),
  (Jvm.Cond.soleField "WheelRide$Wheel" "limit"),
  (Jvm.Cond.lays "WheelRide$Wheel" "WheelRide$Wheel" "bottom" "I")]
def am_t5 : List Jvm.Cond := [(Jvm.Cond.soleField "WheelRide$Wheel" "bottom"),
  (Jvm.Cond.lays "WheelRide$Wheel" "WheelRide$Wheel" "step" "I"),
  (Jvm.Cond.soleField "WheelRide$Wheel" "step"),
  (Jvm.Cond.lays "WheelRide$Wheel" "WheelRide$Wheel" "parties" "I"),
  (Jvm.Cond.soleField "WheelRide$Wheel" "parties"),
  (Jvm.Cond.laysFinal "WheelRide$Wheel" "WheelRide$Wheel" "ballast" "[I"),
  (Jvm.Cond.soleField "WheelRide$Wheel" "ballast"),
  (Jvm.Cond.laysFinal "WheelRide$Wheel" "WheelRide$Wheel" "kinds" "[I"),
  (Jvm.Cond.soleField "WheelRide$Wheel" "kinds"),
  (Jvm.Cond.laysFinal "WheelRide$Wheel" "WheelRide$Wheel" "weights" "[I"),
  (Jvm.Cond.soleField "WheelRide$Wheel" "weights"),
  (Jvm.Cond.laysFinal "WheelRide$Wheel" "WheelRide$Wheel" "rounds" "[I"),
  (Jvm.Cond.soleField "WheelRide$Wheel" "rounds"),
  (Jvm.Cond.laysFinal "WheelRide$Wheel" "WheelRide$Wheel" "how" "[I"),
  (Jvm.Cond.soleField "WheelRide$Wheel" "how"),
  (Jvm.Cond.laysFinal "WheelRide$Wheel" "WheelRide$Wheel" "seats" "[I"),
  (Jvm.Cond.soleField "WheelRide$Wheel" "seats"),
  (Jvm.Cond.laysFinal "WheelRide$Wheel" "WheelRide$Wheel" "ridden" "[I"),
  (Jvm.Cond.soleField "WheelRide$Wheel" "ridden"),
  (Jvm.Cond.laysFinal "WheelRide$Wheel" "WheelRide$Wheel" "waited" "[I"),
  (Jvm.Cond.soleField "WheelRide$Wheel" "waited"),
  (Jvm.Cond.superclass "WheelRide$Wheel" "java/lang/Object"),
  (Jvm.Cond.classLink "WheelRide" (33 : Nat) "WheelRide$Acts"),
  (Jvm.Cond.instantiable "WheelRide$Acts" (3 : Nat)),
  (Jvm.Cond.methodLink "WheelRide" (35 : Nat) ({ cls := "WheelRide$Acts", name := "<init>", desc := "()V" } : Jvm.MethodName)),
  (Jvm.Cond.instanceMethod ({ cls := "WheelRide$Acts", name := "<init>", desc := "()V" } : Jvm.MethodName)),
  (Jvm.Cond.code ({ cls := "WheelRide$Acts", name := "<init>", desc := "()V" } : Jvm.MethodName) prog_2_method_1_code (2 : Nat) (Option.none : Option Jvm.ClassFile.FieldType)),
  (Jvm.Cond.methodLink "WheelRide$Acts" (3 : Nat) ({ cls := "java/lang/Object", name := "<init>", desc := "()V" } : Jvm.MethodName)),
  (Jvm.Cond.classLink "WheelRide$Acts" (9 : Nat) "WheelRide$Wheel"),
  (Jvm.Cond.arrayOver (Jvm.ClassFile.FieldType.object "WheelRide$Wheel")),
  (Jvm.Cond.methodLinkNest "WheelRide$Acts" (17 : Nat) ({ cls := "WheelRide$Wheel", name := "<init>", desc := "()V" } : Jvm.MethodName) "WheelRide"),
  (Jvm.Cond.fieldLink "WheelRide$Acts" (11 : Nat) "WheelRide$Acts" "past" "[LWheelRide$Wheel;"),
  (Jvm.Cond.fieldLink "WheelRide$Acts" (18 : Nat) "WheelRide$Acts" "next" "I"),
  (Jvm.Cond.fieldLink "WheelRide$Acts" (26 : Nat) "WheelRide$Acts" "kept" "I"),
  (Jvm.Cond.fieldLink "WheelRide" (156 : Nat) "WheelRide$Acts" "kept" "I"),
  (Jvm.Cond.laysFinal "WheelRide$Acts" "WheelRide$Acts" "past" "[LWheelRide$Wheel;"),
  (Jvm.Cond.soleField "WheelRide$Acts" "past"),
  (Jvm.Cond.lays "WheelRide$Acts" "WheelRide$Acts" "next" "I"),
  (Jvm.Cond.soleField "WheelRide$Acts" "next"),
  (Jvm.Cond.lays "WheelRide$Acts" "WheelRide$Acts" "kept" "I")]
def am_t6 : List Jvm.Cond := [(Jvm.Cond.soleField "WheelRide$Acts" "kept"),
  (Jvm.Cond.superclass "WheelRide$Acts" "java/lang/Object"),
  (Jvm.Cond.classLink "WheelRide" (40 : Nat) "WheelRide$Images"),
  (Jvm.Cond.instantiable "WheelRide$Images" (1 : Nat)),
  (Jvm.Cond.methodLinkNest "WheelRide" (42 : Nat) ({ cls := "WheelRide$Images", name := "<init>", desc := "()V" } : Jvm.MethodName) "WheelRide"),
  (Jvm.Cond.instanceMethod ({ cls := "WheelRide$Images", name := "<init>", desc := "()V" } : Jvm.MethodName)),
  (Jvm.Cond.code ({ cls := "WheelRide$Images", name := "<init>", desc := "()V" } : Jvm.MethodName) prog_7_method_1_code (1 : Nat) (Option.none : Option Jvm.ClassFile.FieldType)),
  (Jvm.Cond.methodLink "WheelRide$Images" (1 : Nat) ({ cls := "java/lang/Object", name := "<init>", desc := "()V" } : Jvm.MethodName)),
  (Jvm.Cond.classLink "WheelRide$Images" (7 : Nat) "WheelRide$Wheel"),
  (Jvm.Cond.methodLinkNest "WheelRide$Images" (9 : Nat) ({ cls := "WheelRide$Wheel", name := "<init>", desc := "()V" } : Jvm.MethodName) "WheelRide"),
  (Jvm.Cond.fieldLink "WheelRide$Images" (10 : Nat) "WheelRide$Images" "kept" "[LWheelRide$Wheel;"),
  (Jvm.Cond.laysFinal "WheelRide$Images" "WheelRide$Images" "kept" "[LWheelRide$Wheel;"),
  (Jvm.Cond.soleField "WheelRide$Images" "kept"),
  (Jvm.Cond.superclass "WheelRide$Images" "java/lang/Object"),
  (Jvm.Cond.classLink "WheelRide" (47 : Nat) "WheelRide$Foretold"),
  (Jvm.Cond.instantiable "WheelRide$Foretold" (2 : Nat)),
  (Jvm.Cond.methodLink "WheelRide" (49 : Nat) ({ cls := "WheelRide$Foretold", name := "<init>", desc := "(LWheelRide$Wheel;LWheelRide$Wheel;)V" } : Jvm.MethodName)),
  (Jvm.Cond.instanceMethod ({ cls := "WheelRide$Foretold", name := "<init>", desc := "(LWheelRide$Wheel;LWheelRide$Wheel;)V" } : Jvm.MethodName)),
  (Jvm.Cond.code ({ cls := "WheelRide$Foretold", name := "<init>", desc := "(LWheelRide$Wheel;LWheelRide$Wheel;)V" } : Jvm.MethodName) prog_5_method_1_code (3 : Nat) (Option.none : Option Jvm.ClassFile.FieldType)),
  (Jvm.Cond.methodLink "WheelRide$Foretold" (3 : Nat) ({ cls := "java/lang/Object", name := "<init>", desc := "()V" } : Jvm.MethodName)),
  (Jvm.Cond.fieldLink "WheelRide$Foretold" (9 : Nat) "WheelRide$Foretold" "now" "LWheelRide$Wheel;"),
  (Jvm.Cond.fieldLink "WheelRide$Foretold" (15 : Nat) "WheelRide$Foretold" "trial" "LWheelRide$Wheel;"),
  (Jvm.Cond.laysFinal "WheelRide$Foretold" "WheelRide$Foretold" "now" "LWheelRide$Wheel;"),
  (Jvm.Cond.soleField "WheelRide$Foretold" "now"),
  (Jvm.Cond.laysFinal "WheelRide$Foretold" "WheelRide$Foretold" "trial" "LWheelRide$Wheel;"),
  (Jvm.Cond.soleField "WheelRide$Foretold" "trial"),
  (Jvm.Cond.superclass "WheelRide$Foretold" "java/lang/Object"),
  (Jvm.Cond.classLink "WheelRide" (56 : Nat) "WheelRide$Planner"),
  (Jvm.Cond.instantiable "WheelRide$Planner" (9 : Nat)),
  (Jvm.Cond.methodLink "WheelRide" (58 : Nat) ({ cls := "WheelRide$Planner", name := "<init>", desc := "(LWheelRide$Wheel;LWheelRide$Wheel;)V" } : Jvm.MethodName)),
  (Jvm.Cond.instanceMethod ({ cls := "WheelRide$Planner", name := "<init>", desc := "(LWheelRide$Wheel;LWheelRide$Wheel;)V" } : Jvm.MethodName)),
  (Jvm.Cond.code ({ cls := "WheelRide$Planner", name := "<init>", desc := "(LWheelRide$Wheel;LWheelRide$Wheel;)V" } : Jvm.MethodName) prog_8_method_1_code (3 : Nat) (Option.none : Option Jvm.ClassFile.FieldType)),
  (Jvm.Cond.methodLink "WheelRide$Planner" (3 : Nat) ({ cls := "java/lang/Object", name := "<init>", desc := "()V" } : Jvm.MethodName)),
  (Jvm.Cond.fieldLink "WheelRide$Planner" (18 : Nat) "WheelRide$Planner" "now" "LWheelRide$Wheel;"),
  (Jvm.Cond.fieldLink "WheelRide$Planner" (22 : Nat) "WheelRide$Planner" "trial" "LWheelRide$Wheel;"),
  (Jvm.Cond.fieldLink "WheelRide$Planner" (9 : Nat) "WheelRide$Planner" "rank" "[I"),
  (Jvm.Cond.fieldLink "WheelRide$Planner" (25 : Nat) "WheelRide$Planner" "orderedFor" "I"),
  (Jvm.Cond.fieldLink "WheelRide$Planner" (32 : Nat) "WheelRide$Planner" "mostRidden" "I"),
  (Jvm.Cond.fieldLink "WheelRide$Planner" (15 : Nat) "WheelRide$Planner" "bestRank" "[I"),
  (Jvm.Cond.fieldLink "WheelRide" (265 : Nat) "WheelRide$Planner" "bestRank" "[I")]
def am_t7 : List Jvm.Cond := [(Jvm.Cond.fieldLink "WheelRide$Planner" (29 : Nat) "WheelRide$Planner" "mostOff" "I"),
  (Jvm.Cond.fieldLink "WheelRide" (262 : Nat) "WheelRide$Planner" "mostOff" "I"),
  (Jvm.Cond.fieldLink "WheelRide$Planner" (89 : Nat) "WheelRide$Planner" "bestLoad" "I"),
  (Jvm.Cond.fieldLink "WheelRide" (272 : Nat) "WheelRide$Planner" "bestLoad" "I"),
  (Jvm.Cond.fieldLink "WheelRide$Planner" (92 : Nat) "WheelRide$Planner" "leastStuck" "I"),
  (Jvm.Cond.fieldLink "WheelRide" (275 : Nat) "WheelRide$Planner" "leastStuck" "I"),
  (Jvm.Cond.laysFinal "WheelRide$Planner" "WheelRide$Planner" "now" "LWheelRide$Wheel;"),
  (Jvm.Cond.soleField "WheelRide$Planner" "now"),
  (Jvm.Cond.laysFinal "WheelRide$Planner" "WheelRide$Planner" "trial" "LWheelRide$Wheel;"),
  (Jvm.Cond.soleField "WheelRide$Planner" "trial"),
  (Jvm.Cond.laysFinal "WheelRide$Planner" "WheelRide$Planner" "rank" "[I"),
  (Jvm.Cond.soleField "WheelRide$Planner" "rank"),
  (Jvm.Cond.lays "WheelRide$Planner" "WheelRide$Planner" "orderedFor" "I"),
  (Jvm.Cond.soleField "WheelRide$Planner" "orderedFor"),
  (Jvm.Cond.lays "WheelRide$Planner" "WheelRide$Planner" "mostRidden" "I"),
  (Jvm.Cond.soleField "WheelRide$Planner" "mostRidden"),
  (Jvm.Cond.laysFinal "WheelRide$Planner" "WheelRide$Planner" "bestRank" "[I"),
  (Jvm.Cond.soleField "WheelRide$Planner" "bestRank"),
  (Jvm.Cond.lays "WheelRide$Planner" "WheelRide$Planner" "mostOff" "I"),
  (Jvm.Cond.soleField "WheelRide$Planner" "mostOff"),
  (Jvm.Cond.lays "WheelRide$Planner" "WheelRide$Planner" "bestLoad" "I"),
  (Jvm.Cond.soleField "WheelRide$Planner" "bestLoad"),
  (Jvm.Cond.lays "WheelRide$Planner" "WheelRide$Planner" "leastStuck" "I"),
  (Jvm.Cond.soleField "WheelRide$Planner" "leastStuck"),
  (Jvm.Cond.superclass "WheelRide$Planner" "java/lang/Object"),
  (Jvm.Cond.classLink "WheelRide" (63 : Nat) "WheelRide$Guesser"),
  (Jvm.Cond.instantiable "WheelRide$Guesser" (2 : Nat)),
  (Jvm.Cond.methodLink "WheelRide" (65 : Nat) ({ cls := "WheelRide$Guesser", name := "<init>", desc := "(LWheelRide$Wheel;LWheelRide$Wheel;)V" } : Jvm.MethodName)),
  (Jvm.Cond.instanceMethod ({ cls := "WheelRide$Guesser", name := "<init>", desc := "(LWheelRide$Wheel;LWheelRide$Wheel;)V" } : Jvm.MethodName)),
  (Jvm.Cond.code ({ cls := "WheelRide$Guesser", name := "<init>", desc := "(LWheelRide$Wheel;LWheelRide$Wheel;)V" } : Jvm.MethodName) prog_6_method_1_code (3 : Nat) (Option.none : Option Jvm.ClassFile.FieldType)),
  (Jvm.Cond.methodLink "WheelRide$Guesser" (3 : Nat) ({ cls := "java/lang/Object", name := "<init>", desc := "()V" } : Jvm.MethodName)),
  (Jvm.Cond.fieldLink "WheelRide$Guesser" (9 : Nat) "WheelRide$Guesser" "now" "LWheelRide$Wheel;"),
  (Jvm.Cond.fieldLink "WheelRide$Guesser" (15 : Nat) "WheelRide$Guesser" "trial" "LWheelRide$Wheel;"),
  (Jvm.Cond.laysFinal "WheelRide$Guesser" "WheelRide$Guesser" "now" "LWheelRide$Wheel;"),
  (Jvm.Cond.soleField "WheelRide$Guesser" "now"),
  (Jvm.Cond.laysFinal "WheelRide$Guesser" "WheelRide$Guesser" "trial" "LWheelRide$Wheel;"),
  (Jvm.Cond.soleField "WheelRide$Guesser" "trial"),
  (Jvm.Cond.superclass "WheelRide$Guesser" "java/lang/Object"),
  (Jvm.Cond.classLink "WheelRide" (70 : Nat) "WheelRide$Chances"),
  (Jvm.Cond.instantiable "WheelRide$Chances" (5 : Nat))]
def am_t8 : List Jvm.Cond := [(Jvm.Cond.methodLink "WheelRide" (72 : Nat) ({ cls := "WheelRide$Chances", name := "<init>", desc := "(LWheelRide$Wheel;LWheelRide$Wheel;)V" } : Jvm.MethodName)),
  (Jvm.Cond.instanceMethod ({ cls := "WheelRide$Chances", name := "<init>", desc := "(LWheelRide$Wheel;LWheelRide$Wheel;)V" } : Jvm.MethodName)),
  (Jvm.Cond.code ({ cls := "WheelRide$Chances", name := "<init>", desc := "(LWheelRide$Wheel;LWheelRide$Wheel;)V" } : Jvm.MethodName) prog_4_method_1_code (3 : Nat) (Option.none : Option Jvm.ClassFile.FieldType)),
  (Jvm.Cond.methodLink "WheelRide$Chances" (3 : Nat) ({ cls := "java/lang/Object", name := "<init>", desc := "()V" } : Jvm.MethodName)),
  (Jvm.Cond.fieldLink "WheelRide$Chances" (15 : Nat) "WheelRide$Chances" "now" "LWheelRide$Wheel;"),
  (Jvm.Cond.fieldLink "WheelRide$Chances" (19 : Nat) "WheelRide$Chances" "trial" "LWheelRide$Wheel;"),
  (Jvm.Cond.fieldLink "WheelRide$Chances" (9 : Nat) "WheelRide$Chances" "outcomes" "[I"),
  (Jvm.Cond.fieldLink "WheelRide$Chances" (95 : Nat) "WheelRide$Chances" "above" "J"),
  (Jvm.Cond.fieldLink "WheelRide" (309 : Nat) "WheelRide$Chances" "above" "J"),
  (Jvm.Cond.fieldLink "WheelRide$Chances" (99 : Nat) "WheelRide$Chances" "below" "J"),
  (Jvm.Cond.fieldLink "WheelRide" (313 : Nat) "WheelRide$Chances" "below" "J"),
  (Jvm.Cond.laysFinal "WheelRide$Chances" "WheelRide$Chances" "now" "LWheelRide$Wheel;"),
  (Jvm.Cond.soleField "WheelRide$Chances" "now"),
  (Jvm.Cond.laysFinal "WheelRide$Chances" "WheelRide$Chances" "trial" "LWheelRide$Wheel;"),
  (Jvm.Cond.soleField "WheelRide$Chances" "trial"),
  (Jvm.Cond.laysFinal "WheelRide$Chances" "WheelRide$Chances" "outcomes" "[I"),
  (Jvm.Cond.soleField "WheelRide$Chances" "outcomes"),
  (Jvm.Cond.lays "WheelRide$Chances" "WheelRide$Chances" "above" "J"),
  (Jvm.Cond.soleField "WheelRide$Chances" "above"),
  (Jvm.Cond.lays "WheelRide$Chances" "WheelRide$Chances" "below" "J"),
  (Jvm.Cond.soleField "WheelRide$Chances" "below"),
  (Jvm.Cond.superclass "WheelRide$Chances" "java/lang/Object"),
  (Jvm.Cond.classLink "WheelRide" (77 : Nat) "WheelRide$Asks"),
  (Jvm.Cond.instantiable "WheelRide$Asks" (3 : Nat)),
  (Jvm.Cond.methodLink "WheelRide" (79 : Nat) ({ cls := "WheelRide$Asks", name := "<init>", desc := "(LWheelRide$Wheel;)V" } : Jvm.MethodName)),
  (Jvm.Cond.instanceMethod ({ cls := "WheelRide$Asks", name := "<init>", desc := "(LWheelRide$Wheel;)V" } : Jvm.MethodName)),
  (Jvm.Cond.code ({ cls := "WheelRide$Asks", name := "<init>", desc := "(LWheelRide$Wheel;)V" } : Jvm.MethodName) prog_3_method_1_code (2 : Nat) (Option.none : Option Jvm.ClassFile.FieldType)),
  (Jvm.Cond.methodLink "WheelRide$Asks" (3 : Nat) ({ cls := "java/lang/Object", name := "<init>", desc := "()V" } : Jvm.MethodName)),
  (Jvm.Cond.fieldLink "WheelRide$Asks" (15 : Nat) "WheelRide$Asks" "now" "LWheelRide$Wheel;"),
  (Jvm.Cond.fieldLink "WheelRide$Asks" (9 : Nat) "WheelRide$Asks" "bodies" "[I"),
  (Jvm.Cond.fieldLink "WheelRide" (345 : Nat) "WheelRide$Asks" "bodies" "[I"),
  (Jvm.Cond.fieldLink "WheelRide$Asks" (26 : Nat) "WheelRide$Asks" "traced" "I"),
  (Jvm.Cond.fieldLink "WheelRide" (342 : Nat) "WheelRide$Asks" "traced" "I"),
  (Jvm.Cond.laysFinal "WheelRide$Asks" "WheelRide$Asks" "now" "LWheelRide$Wheel;"),
  (Jvm.Cond.soleField "WheelRide$Asks" "now"),
  (Jvm.Cond.laysFinal "WheelRide$Asks" "WheelRide$Asks" "bodies" "[I"),
  (Jvm.Cond.soleField "WheelRide$Asks" "bodies"),
  (Jvm.Cond.lays "WheelRide$Asks" "WheelRide$Asks" "traced" "I"),
  (Jvm.Cond.soleField "WheelRide$Asks" "traced"),
  (Jvm.Cond.superclass "WheelRide$Asks" "java/lang/Object")]
def am_t9 : List Jvm.Cond := [(Jvm.Cond.fieldLink "WheelRide" (10 : Nat) "WheelRide" "rows" "LWheelRide$Rows;"),
  (Jvm.Cond.fieldLink "WheelRide" (19 : Nat) "WheelRide" "tape" "LWheelRide$Tape;"),
  (Jvm.Cond.fieldLink "WheelRide" (26 : Nat) "WheelRide" "now" "LWheelRide$Wheel;"),
  (Jvm.Cond.fieldLink "WheelRide" (30 : Nat) "WheelRide" "trial" "LWheelRide$Wheel;"),
  (Jvm.Cond.fieldLink "WheelRide" (36 : Nat) "WheelRide" "acts" "LWheelRide$Acts;"),
  (Jvm.Cond.fieldLink "WheelRide" (43 : Nat) "WheelRide" "images" "LWheelRide$Images;"),
  (Jvm.Cond.fieldLink "WheelRide" (52 : Nat) "WheelRide" "foretold" "LWheelRide$Foretold;"),
  (Jvm.Cond.fieldLink "WheelRide" (59 : Nat) "WheelRide" "planner" "LWheelRide$Planner;"),
  (Jvm.Cond.fieldLink "WheelRide" (66 : Nat) "WheelRide" "guesser" "LWheelRide$Guesser;"),
  (Jvm.Cond.fieldLink "WheelRide" (73 : Nat) "WheelRide" "chances" "LWheelRide$Chances;"),
  (Jvm.Cond.fieldLink "WheelRide" (82 : Nat) "WheelRide" "asks" "LWheelRide$Asks;"),
  (Jvm.Cond.fieldLink "WheelRide" (139 : Nat) "WheelRide" "latestFault" "I"),
  (Jvm.Cond.fieldLink "WheelRide" (354 : Nat) "WheelRide" "finding" "I"),
  (Jvm.Cond.laysFinal "WheelRide" "WheelRide" "rows" "LWheelRide$Rows;"),
  (Jvm.Cond.soleField "WheelRide" "rows"),
  (Jvm.Cond.laysFinal "WheelRide" "WheelRide" "tape" "LWheelRide$Tape;"),
  (Jvm.Cond.soleField "WheelRide" "tape"),
  (Jvm.Cond.laysFinal "WheelRide" "WheelRide" "now" "LWheelRide$Wheel;"),
  (Jvm.Cond.soleField "WheelRide" "now"),
  (Jvm.Cond.laysFinal "WheelRide" "WheelRide" "trial" "LWheelRide$Wheel;"),
  (Jvm.Cond.soleField "WheelRide" "trial"),
  (Jvm.Cond.laysFinal "WheelRide" "WheelRide" "acts" "LWheelRide$Acts;"),
  (Jvm.Cond.soleField "WheelRide" "acts"),
  (Jvm.Cond.laysFinal "WheelRide" "WheelRide" "images" "LWheelRide$Images;"),
  (Jvm.Cond.soleField "WheelRide" "images"),
  (Jvm.Cond.laysFinal "WheelRide" "WheelRide" "foretold" "LWheelRide$Foretold;"),
  (Jvm.Cond.soleField "WheelRide" "foretold"),
  (Jvm.Cond.laysFinal "WheelRide" "WheelRide" "planner" "LWheelRide$Planner;"),
  (Jvm.Cond.soleField "WheelRide" "planner"),
  (Jvm.Cond.laysFinal "WheelRide" "WheelRide" "guesser" "LWheelRide$Guesser;"),
  (Jvm.Cond.soleField "WheelRide" "guesser"),
  (Jvm.Cond.laysFinal "WheelRide" "WheelRide" "chances" "LWheelRide$Chances;"),
  (Jvm.Cond.soleField "WheelRide" "chances"),
  (Jvm.Cond.laysFinal "WheelRide" "WheelRide" "asks" "LWheelRide$Asks;"),
  (Jvm.Cond.soleField "WheelRide" "asks"),
  (Jvm.Cond.lays "WheelRide" "WheelRide" "latestFault" "I"),
  (Jvm.Cond.soleField "WheelRide" "latestFault"),
  (Jvm.Cond.lays "WheelRide" "WheelRide" "finding" "I"),
  (Jvm.Cond.soleField "WheelRide" "finding"),
  (Jvm.Cond.superclass "WheelRide" "java/lang/Object")]
def am_t10 : List Jvm.Cond := [(Jvm.Cond.methodLink "WheelRideLaw" (13 : Nat) ({ cls := "WheelRide", name := "row", desc := "(III)I" } : Jvm.MethodName)),
  (Jvm.Cond.instanceMethod ({ cls := "WheelRide", name := "row", desc := "(III)I" } : Jvm.MethodName)),
  (Jvm.Cond.selects "WheelRide" ({ cls := "WheelRide", name := "row", desc := "(III)I" } : Jvm.MethodName) ({ cls := "WheelRide", name := "row", desc := "(III)I" } : Jvm.MethodName)),
  (Jvm.Cond.code ({ cls := "WheelRide", name := "row", desc := "(III)I" } : Jvm.MethodName) prog_1_method_2_code (4 : Nat) (Option.some Jvm.ClassFile.FieldType.int)),
  (Jvm.Cond.methodLink "WheelRide" (86 : Nat) ({ cls := "WheelRide", name := "isRow", desc := "(I)Z" } : Jvm.MethodName)),
  (Jvm.Cond.static ({ cls := "WheelRide", name := "isRow", desc := "(I)Z" } : Jvm.MethodName)),
  (Jvm.Cond.code ({ cls := "WheelRide", name := "isRow", desc := "(I)Z" } : Jvm.MethodName) prog_1_method_42_code (1 : Nat) (Option.some Jvm.ClassFile.FieldType.boolean)),
  (Jvm.Cond.constant "WheelRide" (90 : Nat) (-1000001 : Int32)),
  (Jvm.Cond.methodLink "WheelRide" (91 : Nat) ({ cls := "WheelRide", name := "found", desc := "(I)I" } : Jvm.MethodName)),
  (Jvm.Cond.privateMethod ({ cls := "WheelRide", name := "found", desc := "(I)I" } : Jvm.MethodName)),
  (Jvm.Cond.instanceMethod ({ cls := "WheelRide", name := "found", desc := "(I)I" } : Jvm.MethodName)),
  (Jvm.Cond.code ({ cls := "WheelRide", name := "found", desc := "(I)I" } : Jvm.MethodName) prog_1_method_39_code (2 : Nat) (Option.some Jvm.ClassFile.FieldType.int)),
  (Jvm.Cond.constant "WheelRide" (357 : Nat) (-1000010 : Int32)),
  (Jvm.Cond.methodLink "WheelRide" (95 : Nat) ({ cls := "WheelRide$Rows", name := "make", desc := "(III)V" } : Jvm.MethodName)),
  (Jvm.Cond.instanceMethod ({ cls := "WheelRide$Rows", name := "make", desc := "(III)V" } : Jvm.MethodName)),
  (Jvm.Cond.selects "WheelRide$Rows" ({ cls := "WheelRide$Rows", name := "make", desc := "(III)V" } : Jvm.MethodName) ({ cls := "WheelRide$Rows", name := "make", desc := "(III)V" } : Jvm.MethodName)),
  (Jvm.Cond.code ({ cls := "WheelRide$Rows", name := "make", desc := "(III)V" } : Jvm.MethodName) prog_9_method_5_code (5 : Nat) (Option.none : Option Jvm.ClassFile.FieldType)),
  (Jvm.Cond.methodLink "WheelRide" (99 : Nat) ({ cls := "WheelRide", name := "well", desc := "(I)I" } : Jvm.MethodName)),
  (Jvm.Cond.privateMethod ({ cls := "WheelRide", name := "well", desc := "(I)I" } : Jvm.MethodName)),
  (Jvm.Cond.instanceMethod ({ cls := "WheelRide", name := "well", desc := "(I)I" } : Jvm.MethodName)),
  (Jvm.Cond.code ({ cls := "WheelRide", name := "well", desc := "(I)I" } : Jvm.MethodName) prog_1_method_40_code (2 : Nat) (Option.some Jvm.ClassFile.FieldType.int)),
  (Jvm.Cond.methodLink "WheelRideLaw" (18 : Nat) ({ cls := "WheelRide", name := "set", desc := "(III)I" } : Jvm.MethodName)),
  (Jvm.Cond.instanceMethod ({ cls := "WheelRide", name := "set", desc := "(III)I" } : Jvm.MethodName)),
  (Jvm.Cond.selects "WheelRide" ({ cls := "WheelRide", name := "set", desc := "(III)I" } : Jvm.MethodName) ({ cls := "WheelRide", name := "set", desc := "(III)I" } : Jvm.MethodName)),
  (Jvm.Cond.code ({ cls := "WheelRide", name := "set", desc := "(III)I" } : Jvm.MethodName) prog_1_method_3_code (4 : Nat) (Option.some Jvm.ClassFile.FieldType.int)),
  (Jvm.Cond.methodLink "WheelRide" (102 : Nat) ({ cls := "WheelRide$Rows", name := "isMissing", desc := "(I)Z" } : Jvm.MethodName)),
  (Jvm.Cond.instanceMethod ({ cls := "WheelRide$Rows", name := "isMissing", desc := "(I)Z" } : Jvm.MethodName)),
  (Jvm.Cond.selects "WheelRide$Rows" ({ cls := "WheelRide$Rows", name := "isMissing", desc := "(I)Z" } : Jvm.MethodName) ({ cls := "WheelRide$Rows", name := "isMissing", desc := "(I)Z" } : Jvm.MethodName)),
  (Jvm.Cond.code ({ cls := "WheelRide$Rows", name := "isMissing", desc := "(I)Z" } : Jvm.MethodName) prog_9_method_2_code (2 : Nat) (Option.some Jvm.ClassFile.FieldType.boolean)),
  (Jvm.Cond.methodLink "WheelRide" (105 : Nat) ({ cls := "WheelRide$Rows", name := "hasPlaces", desc := "(III)Z" } : Jvm.MethodName)),
  (Jvm.Cond.instanceMethod ({ cls := "WheelRide$Rows", name := "hasPlaces", desc := "(III)Z" } : Jvm.MethodName)),
  (Jvm.Cond.selects "WheelRide$Rows" ({ cls := "WheelRide$Rows", name := "hasPlaces", desc := "(III)Z" } : Jvm.MethodName) ({ cls := "WheelRide$Rows", name := "hasPlaces", desc := "(III)Z" } : Jvm.MethodName)),
  (Jvm.Cond.code ({ cls := "WheelRide$Rows", name := "hasPlaces", desc := "(III)Z" } : Jvm.MethodName) prog_9_method_4_code (4 : Nat) (Option.some Jvm.ClassFile.FieldType.boolean)),
  (Jvm.Cond.methodLink "WheelRide" (109 : Nat) ({ cls := "WheelRide$Rows", name := "put", desc := "(III)I" } : Jvm.MethodName)),
  (Jvm.Cond.instanceMethod ({ cls := "WheelRide$Rows", name := "put", desc := "(III)I" } : Jvm.MethodName)),
  (Jvm.Cond.selects "WheelRide$Rows" ({ cls := "WheelRide$Rows", name := "put", desc := "(III)I" } : Jvm.MethodName) ({ cls := "WheelRide$Rows", name := "put", desc := "(III)I" } : Jvm.MethodName)),
  (Jvm.Cond.code ({ cls := "WheelRide$Rows", name := "put", desc := "(III)I" } : Jvm.MethodName) prog_9_method_6_code (5 : Nat) (Option.some Jvm.ClassFile.FieldType.int)),
  (Jvm.Cond.methodLink "WheelRide$Rows" (23 : Nat) ({ cls := "WheelRide$Rows", name := "narrowed", desc := "(II)I" } : Jvm.MethodName)),
  (Jvm.Cond.static ({ cls := "WheelRide$Rows", name := "narrowed", desc := "(II)I" } : Jvm.MethodName)),
  (Jvm.Cond.code ({ cls := "WheelRide$Rows", name := "narrowed", desc := "(II)I" } : Jvm.MethodName) prog_9_method_10_code (2 : Nat) (Option.some Jvm.ClassFile.FieldType.int))]
def am_t11 : List Jvm.Cond := [(Jvm.Cond.methodLink "WheelRideLaw" (22 : Nat) ({ cls := "WheelRide", name := "copy", desc := "(IIIII)I" } : Jvm.MethodName)),
  (Jvm.Cond.instanceMethod ({ cls := "WheelRide", name := "copy", desc := "(IIIII)I" } : Jvm.MethodName)),
  (Jvm.Cond.selects "WheelRide" ({ cls := "WheelRide", name := "copy", desc := "(IIIII)I" } : Jvm.MethodName) ({ cls := "WheelRide", name := "copy", desc := "(IIIII)I" } : Jvm.MethodName)),
  (Jvm.Cond.code ({ cls := "WheelRide", name := "copy", desc := "(IIIII)I" } : Jvm.MethodName) prog_1_method_4_code (6 : Nat) (Option.some Jvm.ClassFile.FieldType.int)),
  (Jvm.Cond.methodLink "WheelRide" (113 : Nat) ({ cls := "WheelRide$Rows", name := "haveOneLane", desc := "(II)Z" } : Jvm.MethodName)),
  (Jvm.Cond.instanceMethod ({ cls := "WheelRide$Rows", name := "haveOneLane", desc := "(II)Z" } : Jvm.MethodName)),
  (Jvm.Cond.selects "WheelRide$Rows" ({ cls := "WheelRide$Rows", name := "haveOneLane", desc := "(II)Z" } : Jvm.MethodName) ({ cls := "WheelRide$Rows", name := "haveOneLane", desc := "(II)Z" } : Jvm.MethodName)),
  (Jvm.Cond.code ({ cls := "WheelRide$Rows", name := "haveOneLane", desc := "(II)Z" } : Jvm.MethodName) prog_9_method_3_code (3 : Nat) (Option.some Jvm.ClassFile.FieldType.boolean)),
  (Jvm.Cond.methodLink "WheelRide" (117 : Nat) ({ cls := "WheelRide$Rows", name := "move", desc := "(IIIII)V" } : Jvm.MethodName)),
  (Jvm.Cond.instanceMethod ({ cls := "WheelRide$Rows", name := "move", desc := "(IIIII)V" } : Jvm.MethodName)),
  (Jvm.Cond.selects "WheelRide$Rows" ({ cls := "WheelRide$Rows", name := "move", desc := "(IIIII)V" } : Jvm.MethodName) ({ cls := "WheelRide$Rows", name := "move", desc := "(IIIII)V" } : Jvm.MethodName)),
  (Jvm.Cond.code ({ cls := "WheelRide$Rows", name := "move", desc := "(IIIII)V" } : Jvm.MethodName) prog_9_method_7_code (6 : Nat) (Option.none : Option Jvm.ClassFile.FieldType)),
  (Jvm.Cond.methodLink "WheelRide$Rows" (27 : Nat) ({ cls := "java/lang/System", name := "arraycopy", desc := "(Ljava/lang/Object;ILjava/lang/Object;II)V" } : Jvm.MethodName)),
  (Jvm.Cond.static ({ cls := "java/lang/System", name := "arraycopy", desc := "(Ljava/lang/Object;ILjava/lang/Object;II)V" } : Jvm.MethodName)),
  (Jvm.Cond.native ({ cls := "java/lang/System", name := "arraycopy", desc := "(Ljava/lang/Object;ILjava/lang/Object;II)V" } : Jvm.MethodName)),
  (Jvm.Cond.methodLink "WheelRideLaw" (27 : Nat) ({ cls := "WheelRide", name := "drop", desc := "(I)I" } : Jvm.MethodName)),
  (Jvm.Cond.instanceMethod ({ cls := "WheelRide", name := "drop", desc := "(I)I" } : Jvm.MethodName)),
  (Jvm.Cond.selects "WheelRide" ({ cls := "WheelRide", name := "drop", desc := "(I)I" } : Jvm.MethodName) ({ cls := "WheelRide", name := "drop", desc := "(I)I" } : Jvm.MethodName)),
  (Jvm.Cond.code ({ cls := "WheelRide", name := "drop", desc := "(I)I" } : Jvm.MethodName) prog_1_method_5_code (2 : Nat) (Option.some Jvm.ClassFile.FieldType.int)),
  (Jvm.Cond.methodLink "WheelRide" (121 : Nat) ({ cls := "WheelRide$Rows", name := "lose", desc := "(I)I" } : Jvm.MethodName)),
  (Jvm.Cond.instanceMethod ({ cls := "WheelRide$Rows", name := "lose", desc := "(I)I" } : Jvm.MethodName)),
  (Jvm.Cond.selects "WheelRide$Rows" ({ cls := "WheelRide$Rows", name := "lose", desc := "(I)I" } : Jvm.MethodName) ({ cls := "WheelRide$Rows", name := "lose", desc := "(I)I" } : Jvm.MethodName)),
  (Jvm.Cond.code ({ cls := "WheelRide$Rows", name := "lose", desc := "(I)I" } : Jvm.MethodName) prog_9_method_8_code (3 : Nat) (Option.some Jvm.ClassFile.FieldType.int)),
  (Jvm.Cond.methodLink "WheelRideLaw" (32 : Nat) ({ cls := "WheelRide", name := "feed", desc := "(I)I" } : Jvm.MethodName)),
  (Jvm.Cond.instanceMethod ({ cls := "WheelRide", name := "feed", desc := "(I)I" } : Jvm.MethodName)),
  (Jvm.Cond.selects "WheelRide" ({ cls := "WheelRide", name := "feed", desc := "(I)I" } : Jvm.MethodName) ({ cls := "WheelRide", name := "feed", desc := "(I)I" } : Jvm.MethodName)),
  (Jvm.Cond.code ({ cls := "WheelRide", name := "feed", desc := "(I)I" } : Jvm.MethodName) prog_1_method_6_code (2 : Nat) (Option.some Jvm.ClassFile.FieldType.int)),
  (Jvm.Cond.constant "WheelRide" (128 : Nat) (-1000003 : Int32)),
  (Jvm.Cond.methodLink "WheelRide" (129 : Nat) ({ cls := "WheelRide$Tape", name := "append", desc := "(I)I" } : Jvm.MethodName)),
  (Jvm.Cond.instanceMethod ({ cls := "WheelRide$Tape", name := "append", desc := "(I)I" } : Jvm.MethodName)),
  (Jvm.Cond.selects "WheelRide$Tape" ({ cls := "WheelRide$Tape", name := "append", desc := "(I)I" } : Jvm.MethodName) ({ cls := "WheelRide$Tape", name := "append", desc := "(I)I" } : Jvm.MethodName)),
  (Jvm.Cond.code ({ cls := "WheelRide$Tape", name := "append", desc := "(I)I" } : Jvm.MethodName) prog_11_method_2_code (2 : Nat) (Option.some Jvm.ClassFile.FieldType.int)),
  (Jvm.Cond.methodLink "WheelRideLaw" (36 : Nat) ({ cls := "WheelRide", name := "wheel", desc := "()I" } : Jvm.MethodName)),
  (Jvm.Cond.instanceMethod ({ cls := "WheelRide", name := "wheel", desc := "()I" } : Jvm.MethodName)),
  (Jvm.Cond.selects "WheelRide" ({ cls := "WheelRide", name := "wheel", desc := "()I" } : Jvm.MethodName) ({ cls := "WheelRide", name := "wheel", desc := "()I" } : Jvm.MethodName)),
  (Jvm.Cond.code ({ cls := "WheelRide", name := "wheel", desc := "()I" } : Jvm.MethodName) prog_1_method_7_code (2 : Nat) (Option.some Jvm.ClassFile.FieldType.int)),
  (Jvm.Cond.methodLink "WheelRide" (132 : Nat) ({ cls := "WheelRide$Tape", name := "readInto", desc := "(LWheelRide$Wheel;)I" } : Jvm.MethodName)),
  (Jvm.Cond.instanceMethod ({ cls := "WheelRide$Tape", name := "readInto", desc := "(LWheelRide$Wheel;)I" } : Jvm.MethodName)),
  (Jvm.Cond.selects "WheelRide$Tape" ({ cls := "WheelRide$Tape", name := "readInto", desc := "(LWheelRide$Wheel;)I" } : Jvm.MethodName) ({ cls := "WheelRide$Tape", name := "readInto", desc := "(LWheelRide$Wheel;)I" } : Jvm.MethodName)),
  (Jvm.Cond.code ({ cls := "WheelRide$Tape", name := "readInto", desc := "(LWheelRide$Wheel;)I" } : Jvm.MethodName) prog_11_method_4_code (3 : Nat) (Option.some Jvm.ClassFile.FieldType.int))]
def am_t12 : List Jvm.Cond := [(Jvm.Cond.methodLink "WheelRide$Tape" (25 : Nat) ({ cls := "WheelRide$Tape", name := "readLaw", desc := "(LWheelRide$Wheel;)V" } : Jvm.MethodName)),
  (Jvm.Cond.privateMethod ({ cls := "WheelRide$Tape", name := "readLaw", desc := "(LWheelRide$Wheel;)V" } : Jvm.MethodName)),
  (Jvm.Cond.instanceMethod ({ cls := "WheelRide$Tape", name := "readLaw", desc := "(LWheelRide$Wheel;)V" } : Jvm.MethodName)),
  (Jvm.Cond.code ({ cls := "WheelRide$Tape", name := "readLaw", desc := "(LWheelRide$Wheel;)V" } : Jvm.MethodName) prog_11_method_5_code (4 : Nat) (Option.none : Option Jvm.ClassFile.FieldType)),
  (Jvm.Cond.methodLink "WheelRide$Tape" (32 : Nat) ({ cls := "WheelRide$Tape", name := "takeSign", desc := "(I)V" } : Jvm.MethodName)),
  (Jvm.Cond.privateMethod ({ cls := "WheelRide$Tape", name := "takeSign", desc := "(I)V" } : Jvm.MethodName)),
  (Jvm.Cond.instanceMethod ({ cls := "WheelRide$Tape", name := "takeSign", desc := "(I)V" } : Jvm.MethodName)),
  (Jvm.Cond.code ({ cls := "WheelRide$Tape", name := "takeSign", desc := "(I)V" } : Jvm.MethodName) prog_11_method_7_code (2 : Nat) (Option.none : Option Jvm.ClassFile.FieldType)),
  (Jvm.Cond.methodLink "WheelRide$Tape" (57 : Nat) ({ cls := "WheelRide$Tape", name := "byteAt", desc := "(I)I" } : Jvm.MethodName)),
  (Jvm.Cond.privateMethod ({ cls := "WheelRide$Tape", name := "byteAt", desc := "(I)I" } : Jvm.MethodName)),
  (Jvm.Cond.instanceMethod ({ cls := "WheelRide$Tape", name := "byteAt", desc := "(I)I" } : Jvm.MethodName)),
  (Jvm.Cond.code ({ cls := "WheelRide$Tape", name := "byteAt", desc := "(I)I" } : Jvm.MethodName) prog_11_method_10_code (2 : Nat) (Option.some Jvm.ClassFile.FieldType.int)),
  (Jvm.Cond.methodLink "WheelRide$Tape" (36 : Nat) ({ cls := "WheelRide$Tape", name := "takeNumber", desc := "(II)I" } : Jvm.MethodName)),
  (Jvm.Cond.privateMethod ({ cls := "WheelRide$Tape", name := "takeNumber", desc := "(II)I" } : Jvm.MethodName)),
  (Jvm.Cond.instanceMethod ({ cls := "WheelRide$Tape", name := "takeNumber", desc := "(II)I" } : Jvm.MethodName)),
  (Jvm.Cond.code ({ cls := "WheelRide$Tape", name := "takeNumber", desc := "(II)I" } : Jvm.MethodName) prog_11_method_9_code (5 : Nat) (Option.some Jvm.ClassFile.FieldType.int)),
  (Jvm.Cond.methodLink "WheelRide$Tape" (64 : Nat) ({ cls := "WheelRide$Tape", name := "isFigure", desc := "(I)Z" } : Jvm.MethodName)),
  (Jvm.Cond.static ({ cls := "WheelRide$Tape", name := "isFigure", desc := "(I)Z" } : Jvm.MethodName)),
  (Jvm.Cond.code ({ cls := "WheelRide$Tape", name := "isFigure", desc := "(I)Z" } : Jvm.MethodName) prog_11_method_11_code (1 : Nat) (Option.some Jvm.ClassFile.FieldType.boolean)),
  (Jvm.Cond.methodLinkNest "WheelRide$Tape" (68 : Nat) ({ cls := "WheelRide", name := "isOutside", desc := "(III)Z" } : Jvm.MethodName) "WheelRide"),
  (Jvm.Cond.static ({ cls := "WheelRide", name := "isOutside", desc := "(III)Z" } : Jvm.MethodName)),
  (Jvm.Cond.code ({ cls := "WheelRide", name := "isOutside", desc := "(III)Z" } : Jvm.MethodName) prog_1_method_43_code (3 : Nat) (Option.some Jvm.ClassFile.FieldType.boolean)),
  (Jvm.Cond.methodLink "WheelRide$Tape" (40 : Nat) ({ cls := "WheelRide$Wheel", name := "begin", desc := "(II)V" } : Jvm.MethodName)),
  (Jvm.Cond.instanceMethod ({ cls := "WheelRide$Wheel", name := "begin", desc := "(II)V" } : Jvm.MethodName)),
  (Jvm.Cond.selects "WheelRide$Wheel" ({ cls := "WheelRide$Wheel", name := "begin", desc := "(II)V" } : Jvm.MethodName) ({ cls := "WheelRide$Wheel", name := "begin", desc := "(II)V" } : Jvm.MethodName)),
  (Jvm.Cond.code ({ cls := "WheelRide$Wheel", name := "begin", desc := "(II)V" } : Jvm.MethodName) prog_12_method_2_code (4 : Nat) (Option.none : Option Jvm.ClassFile.FieldType)),
  (Jvm.Cond.methodLink "WheelRide$Tape" (29 : Nat) ({ cls := "WheelRide$Tape", name := "readParty", desc := "(LWheelRide$Wheel;)V" } : Jvm.MethodName)),
  (Jvm.Cond.privateMethod ({ cls := "WheelRide$Tape", name := "readParty", desc := "(LWheelRide$Wheel;)V" } : Jvm.MethodName)),
  (Jvm.Cond.instanceMethod ({ cls := "WheelRide$Tape", name := "readParty", desc := "(LWheelRide$Wheel;)V" } : Jvm.MethodName)),
  (Jvm.Cond.code ({ cls := "WheelRide$Tape", name := "readParty", desc := "(LWheelRide$Wheel;)V" } : Jvm.MethodName) prog_11_method_6_code (5 : Nat) (Option.none : Option Jvm.ClassFile.FieldType)),
  (Jvm.Cond.methodLink "WheelRide$Tape" (49 : Nat) ({ cls := "WheelRide$Tape", name := "takeSort", desc := "(Z)I" } : Jvm.MethodName)),
  (Jvm.Cond.privateMethod ({ cls := "WheelRide$Tape", name := "takeSort", desc := "(Z)I" } : Jvm.MethodName)),
  (Jvm.Cond.instanceMethod ({ cls := "WheelRide$Tape", name := "takeSort", desc := "(Z)I" } : Jvm.MethodName)),
  (Jvm.Cond.code ({ cls := "WheelRide$Tape", name := "takeSort", desc := "(Z)I" } : Jvm.MethodName) prog_11_method_8_code (3 : Nat) (Option.some Jvm.ClassFile.FieldType.int)),
  (Jvm.Cond.methodLink "WheelRide$Tape" (61 : Nat) ({ cls := "WheelRide$Tape", name := "kindOf", desc := "(I)I" } : Jvm.MethodName)),
  (Jvm.Cond.static ({ cls := "WheelRide$Tape", name := "kindOf", desc := "(I)I" } : Jvm.MethodName)),
  (Jvm.Cond.code ({ cls := "WheelRide$Tape", name := "kindOf", desc := "(I)I" } : Jvm.MethodName) prog_11_method_12_code (1 : Nat) (Option.some Jvm.ClassFile.FieldType.int)),
  (Jvm.Cond.methodLink "WheelRide$Tape" (53 : Nat) ({ cls := "WheelRide$Wheel", name := "addParty", desc := "(III)V" } : Jvm.MethodName)),
  (Jvm.Cond.instanceMethod ({ cls := "WheelRide$Wheel", name := "addParty", desc := "(III)V" } : Jvm.MethodName)),
  (Jvm.Cond.selects "WheelRide$Wheel" ({ cls := "WheelRide$Wheel", name := "addParty", desc := "(III)V" } : Jvm.MethodName) ({ cls := "WheelRide$Wheel", name := "addParty", desc := "(III)V" } : Jvm.MethodName))]
def am_t13 : List Jvm.Cond := [(Jvm.Cond.code ({ cls := "WheelRide$Wheel", name := "addParty", desc := "(III)V" } : Jvm.MethodName) prog_12_method_3_code (4 : Nat) (Option.none : Option Jvm.ClassFile.FieldType)),
  (Jvm.Cond.methodLink "WheelRide$Wheel" (52 : Nat) ({ cls := "WheelRide$Wheel", name := "comeAgain", desc := "(I)V" } : Jvm.MethodName)),
  (Jvm.Cond.instanceMethod ({ cls := "WheelRide$Wheel", name := "comeAgain", desc := "(I)V" } : Jvm.MethodName)),
  (Jvm.Cond.selects "WheelRide$Wheel" ({ cls := "WheelRide$Wheel", name := "comeAgain", desc := "(I)V" } : Jvm.MethodName) ({ cls := "WheelRide$Wheel", name := "comeAgain", desc := "(I)V" } : Jvm.MethodName)),
  (Jvm.Cond.code ({ cls := "WheelRide$Wheel", name := "comeAgain", desc := "(I)V" } : Jvm.MethodName) prog_12_method_20_code (2 : Nat) (Option.none : Option Jvm.ClassFile.FieldType)),
  (Jvm.Cond.methodLink "WheelRide" (136 : Nat) ({ cls := "WheelRide$Tape", name := "clear", desc := "()V" } : Jvm.MethodName)),
  (Jvm.Cond.instanceMethod ({ cls := "WheelRide$Tape", name := "clear", desc := "()V" } : Jvm.MethodName)),
  (Jvm.Cond.selects "WheelRide$Tape" ({ cls := "WheelRide$Tape", name := "clear", desc := "()V" } : Jvm.MethodName) ({ cls := "WheelRide$Tape", name := "clear", desc := "()V" } : Jvm.MethodName)),
  (Jvm.Cond.code ({ cls := "WheelRide$Tape", name := "clear", desc := "()V" } : Jvm.MethodName) prog_11_method_3_code (1 : Nat) (Option.none : Option Jvm.ClassFile.FieldType)),
  (Jvm.Cond.constant "WheelRide" (142 : Nat) (-1000100 : Int32)),
  (Jvm.Cond.methodLink "WheelRide" (146 : Nat) ({ cls := "WheelRide$Wheel", name := "takeFrom", desc := "(LWheelRide$Wheel;)V" } : Jvm.MethodName)),
  (Jvm.Cond.instanceMethod ({ cls := "WheelRide$Wheel", name := "takeFrom", desc := "(LWheelRide$Wheel;)V" } : Jvm.MethodName)),
  (Jvm.Cond.selects "WheelRide$Wheel" ({ cls := "WheelRide$Wheel", name := "takeFrom", desc := "(LWheelRide$Wheel;)V" } : Jvm.MethodName) ({ cls := "WheelRide$Wheel", name := "takeFrom", desc := "(LWheelRide$Wheel;)V" } : Jvm.MethodName)),
  (Jvm.Cond.code ({ cls := "WheelRide$Wheel", name := "takeFrom", desc := "(LWheelRide$Wheel;)V" } : Jvm.MethodName) prog_12_method_4_code (2 : Nat) (Option.none : Option Jvm.ClassFile.FieldType)),
  (Jvm.Cond.methodLink "WheelRide$Wheel" (56 : Nat) ({ cls := "java/lang/System", name := "arraycopy", desc := "(Ljava/lang/Object;ILjava/lang/Object;II)V" } : Jvm.MethodName)),
  (Jvm.Cond.methodLink "WheelRide" (149 : Nat) ({ cls := "WheelRide$Acts", name := "forget", desc := "()V" } : Jvm.MethodName)),
  (Jvm.Cond.instanceMethod ({ cls := "WheelRide$Acts", name := "forget", desc := "()V" } : Jvm.MethodName)),
  (Jvm.Cond.selects "WheelRide$Acts" ({ cls := "WheelRide$Acts", name := "forget", desc := "()V" } : Jvm.MethodName) ({ cls := "WheelRide$Acts", name := "forget", desc := "()V" } : Jvm.MethodName)),
  (Jvm.Cond.code ({ cls := "WheelRide$Acts", name := "forget", desc := "()V" } : Jvm.MethodName) prog_2_method_4_code (1 : Nat) (Option.none : Option Jvm.ClassFile.FieldType)),
  (Jvm.Cond.methodLink "WheelRide" (152 : Nat) ({ cls := "WheelRide$Planner", name := "forget", desc := "()V" } : Jvm.MethodName)),
  (Jvm.Cond.instanceMethod ({ cls := "WheelRide$Planner", name := "forget", desc := "()V" } : Jvm.MethodName)),
  (Jvm.Cond.selects "WheelRide$Planner" ({ cls := "WheelRide$Planner", name := "forget", desc := "()V" } : Jvm.MethodName) ({ cls := "WheelRide$Planner", name := "forget", desc := "()V" } : Jvm.MethodName)),
  (Jvm.Cond.code ({ cls := "WheelRide$Planner", name := "forget", desc := "()V" } : Jvm.MethodName) prog_8_method_2_code (1 : Nat) (Option.none : Option Jvm.ClassFile.FieldType)),
  (Jvm.Cond.methodLink "WheelRideLaw" (41 : Nat) ({ cls := "WheelRide", name := "fault", desc := "()I" } : Jvm.MethodName)),
  (Jvm.Cond.instanceMethod ({ cls := "WheelRide", name := "fault", desc := "()I" } : Jvm.MethodName)),
  (Jvm.Cond.selects "WheelRide" ({ cls := "WheelRide", name := "fault", desc := "()I" } : Jvm.MethodName) ({ cls := "WheelRide", name := "fault", desc := "()I" } : Jvm.MethodName)),
  (Jvm.Cond.code ({ cls := "WheelRide", name := "fault", desc := "()I" } : Jvm.MethodName) prog_1_method_8_code (1 : Nat) (Option.some Jvm.ClassFile.FieldType.int)),
  (Jvm.Cond.methodLink "WheelRideLaw" (45 : Nat) ({ cls := "WheelRide", name := "undo", desc := "()I" } : Jvm.MethodName)),
  (Jvm.Cond.instanceMethod ({ cls := "WheelRide", name := "undo", desc := "()I" } : Jvm.MethodName)),
  (Jvm.Cond.selects "WheelRide" ({ cls := "WheelRide", name := "undo", desc := "()I" } : Jvm.MethodName) ({ cls := "WheelRide", name := "undo", desc := "()I" } : Jvm.MethodName)),
  (Jvm.Cond.code ({ cls := "WheelRide", name := "undo", desc := "()I" } : Jvm.MethodName) prog_1_method_9_code (1 : Nat) (Option.some Jvm.ClassFile.FieldType.int)),
  (Jvm.Cond.constant "WheelRide" (159 : Nat) (-1000002 : Int32)),
  (Jvm.Cond.methodLink "WheelRide" (160 : Nat) ({ cls := "WheelRide$Acts", name := "takeBack", desc := "(LWheelRide$Wheel;)V" } : Jvm.MethodName)),
  (Jvm.Cond.instanceMethod ({ cls := "WheelRide$Acts", name := "takeBack", desc := "(LWheelRide$Wheel;)V" } : Jvm.MethodName)),
  (Jvm.Cond.selects "WheelRide$Acts" ({ cls := "WheelRide$Acts", name := "takeBack", desc := "(LWheelRide$Wheel;)V" } : Jvm.MethodName) ({ cls := "WheelRide$Acts", name := "takeBack", desc := "(LWheelRide$Wheel;)V" } : Jvm.MethodName)),
  (Jvm.Cond.code ({ cls := "WheelRide$Acts", name := "takeBack", desc := "(LWheelRide$Wheel;)V" } : Jvm.MethodName) prog_2_method_3_code (2 : Nat) (Option.none : Option Jvm.ClassFile.FieldType)),
  (Jvm.Cond.methodLink "WheelRide$Acts" (22 : Nat) ({ cls := "WheelRide$Wheel", name := "takeFrom", desc := "(LWheelRide$Wheel;)V" } : Jvm.MethodName)),
  (Jvm.Cond.methodLink "WheelRideLaw" (49 : Nat) ({ cls := "WheelRide", name := "steps", desc := "(I)I" } : Jvm.MethodName)),
  (Jvm.Cond.instanceMethod ({ cls := "WheelRide", name := "steps", desc := "(I)I" } : Jvm.MethodName)),
  (Jvm.Cond.selects "WheelRide" ({ cls := "WheelRide", name := "steps", desc := "(I)I" } : Jvm.MethodName) ({ cls := "WheelRide", name := "steps", desc := "(I)I" } : Jvm.MethodName))]
def am_t14 : List Jvm.Cond := [(Jvm.Cond.code ({ cls := "WheelRide", name := "steps", desc := "(I)I" } : Jvm.MethodName) prog_1_method_10_code (3 : Nat) (Option.some Jvm.ClassFile.FieldType.int)),
  (Jvm.Cond.methodLink "WheelRide" (163 : Nat) ({ cls := "WheelRide$Wheel", name := "stands", desc := "()Z" } : Jvm.MethodName)),
  (Jvm.Cond.instanceMethod ({ cls := "WheelRide$Wheel", name := "stands", desc := "()Z" } : Jvm.MethodName)),
  (Jvm.Cond.selects "WheelRide$Wheel" ({ cls := "WheelRide$Wheel", name := "stands", desc := "()Z" } : Jvm.MethodName) ({ cls := "WheelRide$Wheel", name := "stands", desc := "()Z" } : Jvm.MethodName)),
  (Jvm.Cond.code ({ cls := "WheelRide$Wheel", name := "stands", desc := "()Z" } : Jvm.MethodName) prog_12_method_5_code (1 : Nat) (Option.some Jvm.ClassFile.FieldType.boolean)),
  (Jvm.Cond.methodLink "WheelRide" (167 : Nat) ({ cls := "WheelRide", name := "isOutside", desc := "(III)Z" } : Jvm.MethodName)),
  (Jvm.Cond.methodLink "WheelRide" (173 : Nat) ({ cls := "WheelRide", name := "keepForUndo", desc := "()V" } : Jvm.MethodName)),
  (Jvm.Cond.privateMethod ({ cls := "WheelRide", name := "keepForUndo", desc := "()V" } : Jvm.MethodName)),
  (Jvm.Cond.instanceMethod ({ cls := "WheelRide", name := "keepForUndo", desc := "()V" } : Jvm.MethodName)),
  (Jvm.Cond.code ({ cls := "WheelRide", name := "keepForUndo", desc := "()V" } : Jvm.MethodName) prog_1_method_41_code (1 : Nat) (Option.none : Option Jvm.ClassFile.FieldType)),
  (Jvm.Cond.methodLink "WheelRide" (358 : Nat) ({ cls := "WheelRide$Acts", name := "keep", desc := "(LWheelRide$Wheel;)V" } : Jvm.MethodName)),
  (Jvm.Cond.instanceMethod ({ cls := "WheelRide$Acts", name := "keep", desc := "(LWheelRide$Wheel;)V" } : Jvm.MethodName)),
  (Jvm.Cond.selects "WheelRide$Acts" ({ cls := "WheelRide$Acts", name := "keep", desc := "(LWheelRide$Wheel;)V" } : Jvm.MethodName) ({ cls := "WheelRide$Acts", name := "keep", desc := "(LWheelRide$Wheel;)V" } : Jvm.MethodName)),
  (Jvm.Cond.code ({ cls := "WheelRide$Acts", name := "keep", desc := "(LWheelRide$Wheel;)V" } : Jvm.MethodName) prog_2_method_2_code (2 : Nat) (Option.none : Option Jvm.ClassFile.FieldType)),
  (Jvm.Cond.fieldLink "WheelRide" (176 : Nat) "WheelRide" "BY_NUMBERS" "[I"),
  (Jvm.Cond.laysStatic "WheelRide" "BY_NUMBERS" "[I"),
  (Jvm.Cond.methodLink "WheelRide" (180 : Nat) ({ cls := "WheelRide$Wheel", name := "makeStep", desc := "([I)Z" } : Jvm.MethodName)),
  (Jvm.Cond.instanceMethod ({ cls := "WheelRide$Wheel", name := "makeStep", desc := "([I)Z" } : Jvm.MethodName)),
  (Jvm.Cond.selects "WheelRide$Wheel" ({ cls := "WheelRide$Wheel", name := "makeStep", desc := "([I)Z" } : Jvm.MethodName) ({ cls := "WheelRide$Wheel", name := "makeStep", desc := "([I)Z" } : Jvm.MethodName)),
  (Jvm.Cond.code ({ cls := "WheelRide$Wheel", name := "makeStep", desc := "([I)Z" } : Jvm.MethodName) prog_12_method_21_code (2 : Nat) (Option.some Jvm.ClassFile.FieldType.boolean)),
  (Jvm.Cond.methodLink "WheelRide$Wheel" (76 : Nat) ({ cls := "WheelRide$Wheel", name := "letOff", desc := "()V" } : Jvm.MethodName)),
  (Jvm.Cond.privateMethod ({ cls := "WheelRide$Wheel", name := "letOff", desc := "()V" } : Jvm.MethodName)),
  (Jvm.Cond.instanceMethod ({ cls := "WheelRide$Wheel", name := "letOff", desc := "()V" } : Jvm.MethodName)),
  (Jvm.Cond.code ({ cls := "WheelRide$Wheel", name := "letOff", desc := "()V" } : Jvm.MethodName) prog_12_method_22_code (2 : Nat) (Option.none : Option Jvm.ClassFile.FieldType)),
  (Jvm.Cond.methodLink "WheelRide$Wheel" (90 : Nat) ({ cls := "WheelRide$Wheel", name := "partyIn", desc := "(I)I" } : Jvm.MethodName)),
  (Jvm.Cond.instanceMethod ({ cls := "WheelRide$Wheel", name := "partyIn", desc := "(I)I" } : Jvm.MethodName)),
  (Jvm.Cond.selects "WheelRide$Wheel" ({ cls := "WheelRide$Wheel", name := "partyIn", desc := "(I)I" } : Jvm.MethodName) ({ cls := "WheelRide$Wheel", name := "partyIn", desc := "(I)I" } : Jvm.MethodName)),
  (Jvm.Cond.code ({ cls := "WheelRide$Wheel", name := "partyIn", desc := "(I)I" } : Jvm.MethodName) prog_12_method_10_code (3 : Nat) (Option.some Jvm.ClassFile.FieldType.int)),
  (Jvm.Cond.constant "WheelRide$Wheel" (62 : Nat) (-1000000 : Int32)),
  (Jvm.Cond.methodLink "WheelRide$Wheel" (93 : Nat) ({ cls := "WheelRide$Wheel", name := "isDone", desc := "(I)Z" } : Jvm.MethodName)),
  (Jvm.Cond.privateMethod ({ cls := "WheelRide$Wheel", name := "isDone", desc := "(I)Z" } : Jvm.MethodName)),
  (Jvm.Cond.instanceMethod ({ cls := "WheelRide$Wheel", name := "isDone", desc := "(I)Z" } : Jvm.MethodName)),
  (Jvm.Cond.code ({ cls := "WheelRide$Wheel", name := "isDone", desc := "(I)Z" } : Jvm.MethodName) prog_12_method_23_code (3 : Nat) (Option.some Jvm.ClassFile.FieldType.boolean)),
  (Jvm.Cond.methodLink "WheelRide$Wheel" (97 : Nat) ({ cls := "WheelRide$Wheel", name := "whichAre", desc := "(I)I" } : Jvm.MethodName)),
  (Jvm.Cond.instanceMethod ({ cls := "WheelRide$Wheel", name := "whichAre", desc := "(I)I" } : Jvm.MethodName)),
  (Jvm.Cond.selects "WheelRide$Wheel" ({ cls := "WheelRide$Wheel", name := "whichAre", desc := "(I)I" } : Jvm.MethodName) ({ cls := "WheelRide$Wheel", name := "whichAre", desc := "(I)I" } : Jvm.MethodName)),
  (Jvm.Cond.code ({ cls := "WheelRide$Wheel", name := "whichAre", desc := "(I)I" } : Jvm.MethodName) prog_12_method_11_code (4 : Nat) (Option.some Jvm.ClassFile.FieldType.int)),
  (Jvm.Cond.methodLink "WheelRide$Wheel" (100 : Nat) ({ cls := "WheelRide$Wheel", name := "leanWith", desc := "(I)I" } : Jvm.MethodName)),
  (Jvm.Cond.instanceMethod ({ cls := "WheelRide$Wheel", name := "leanWith", desc := "(I)I" } : Jvm.MethodName)),
  (Jvm.Cond.selects "WheelRide$Wheel" ({ cls := "WheelRide$Wheel", name := "leanWith", desc := "(I)I" } : Jvm.MethodName) ({ cls := "WheelRide$Wheel", name := "leanWith", desc := "(I)I" } : Jvm.MethodName))]
def am_t15 : List Jvm.Cond := [(Jvm.Cond.code ({ cls := "WheelRide$Wheel", name := "leanWith", desc := "(I)I" } : Jvm.MethodName) prog_12_method_17_code (4 : Nat) (Option.some Jvm.ClassFile.FieldType.int)),
  (Jvm.Cond.methodLink "WheelRide$Wheel" (63 : Nat) ({ cls := "WheelRide$Wheel", name := "placeFrom", desc := "(II)I" } : Jvm.MethodName)),
  (Jvm.Cond.privateMethod ({ cls := "WheelRide$Wheel", name := "placeFrom", desc := "(II)I" } : Jvm.MethodName)),
  (Jvm.Cond.instanceMethod ({ cls := "WheelRide$Wheel", name := "placeFrom", desc := "(II)I" } : Jvm.MethodName)),
  (Jvm.Cond.code ({ cls := "WheelRide$Wheel", name := "placeFrom", desc := "(II)I" } : Jvm.MethodName) prog_12_method_15_code (3 : Nat) (Option.some Jvm.ClassFile.FieldType.int)),
  (Jvm.Cond.methodLink "WheelRide$Wheel" (67 : Nat) ({ cls := "WheelRide$Wheel", name := "pullOf", desc := "(I)I" } : Jvm.MethodName)),
  (Jvm.Cond.instanceMethod ({ cls := "WheelRide$Wheel", name := "pullOf", desc := "(I)I" } : Jvm.MethodName)),
  (Jvm.Cond.selects "WheelRide$Wheel" ({ cls := "WheelRide$Wheel", name := "pullOf", desc := "(I)I" } : Jvm.MethodName) ({ cls := "WheelRide$Wheel", name := "pullOf", desc := "(I)I" } : Jvm.MethodName)),
  (Jvm.Cond.code ({ cls := "WheelRide$Wheel", name := "pullOf", desc := "(I)I" } : Jvm.MethodName) prog_12_method_16_code (3 : Nat) (Option.some Jvm.ClassFile.FieldType.int)),
  (Jvm.Cond.methodLink "WheelRide$Wheel" (71 : Nat) ({ cls := "java/lang/Math", name := "abs", desc := "(I)I" } : Jvm.MethodName)),
  (Jvm.Cond.static ({ cls := "java/lang/Math", name := "abs", desc := "(I)I" } : Jvm.MethodName)),
  (Jvm.Cond.code ({ cls := "java/lang/Math", name := "abs", desc := "(I)I" } : Jvm.MethodName) prog_16_method_59_code (1 : Nat) (Option.some Jvm.ClassFile.FieldType.int)),
  (Jvm.Cond.methodLink "WheelRide$Wheel" (79 : Nat) ({ cls := "WheelRide$Wheel", name := "letIn", desc := "([I)V" } : Jvm.MethodName)),
  (Jvm.Cond.privateMethod ({ cls := "WheelRide$Wheel", name := "letIn", desc := "([I)V" } : Jvm.MethodName)),
  (Jvm.Cond.instanceMethod ({ cls := "WheelRide$Wheel", name := "letIn", desc := "([I)V" } : Jvm.MethodName)),
  (Jvm.Cond.code ({ cls := "WheelRide$Wheel", name := "letIn", desc := "([I)V" } : Jvm.MethodName) prog_12_method_24_code (4 : Nat) (Option.none : Option Jvm.ClassFile.FieldType)),
  (Jvm.Cond.methodLink "WheelRide$Wheel" (103 : Nat) ({ cls := "WheelRide$Wheel", name := "hasParty", desc := "(I)Z" } : Jvm.MethodName)),
  (Jvm.Cond.instanceMethod ({ cls := "WheelRide$Wheel", name := "hasParty", desc := "(I)Z" } : Jvm.MethodName)),
  (Jvm.Cond.selects "WheelRide$Wheel" ({ cls := "WheelRide$Wheel", name := "hasParty", desc := "(I)Z" } : Jvm.MethodName) ({ cls := "WheelRide$Wheel", name := "hasParty", desc := "(I)Z" } : Jvm.MethodName)),
  (Jvm.Cond.code ({ cls := "WheelRide$Wheel", name := "hasParty", desc := "(I)Z" } : Jvm.MethodName) prog_12_method_6_code (2 : Nat) (Option.some Jvm.ClassFile.FieldType.boolean)),
  (Jvm.Cond.methodLink "WheelRide$Wheel" (83 : Nat) ({ cls := "WheelRide$Wheel", name := "waitOn", desc := "()V" } : Jvm.MethodName)),
  (Jvm.Cond.privateMethod ({ cls := "WheelRide$Wheel", name := "waitOn", desc := "()V" } : Jvm.MethodName)),
  (Jvm.Cond.instanceMethod ({ cls := "WheelRide$Wheel", name := "waitOn", desc := "()V" } : Jvm.MethodName)),
  (Jvm.Cond.code ({ cls := "WheelRide$Wheel", name := "waitOn", desc := "()V" } : Jvm.MethodName) prog_12_method_25_code (2 : Nat) (Option.none : Option Jvm.ClassFile.FieldType)),
  (Jvm.Cond.methodLink "WheelRide$Wheel" (106 : Nat) ({ cls := "WheelRide$Wheel", name := "hasLostPatience", desc := "(I)Z" } : Jvm.MethodName)),
  (Jvm.Cond.privateMethod ({ cls := "WheelRide$Wheel", name := "hasLostPatience", desc := "(I)Z" } : Jvm.MethodName)),
  (Jvm.Cond.instanceMethod ({ cls := "WheelRide$Wheel", name := "hasLostPatience", desc := "(I)Z" } : Jvm.MethodName)),
  (Jvm.Cond.code ({ cls := "WheelRide$Wheel", name := "hasLostPatience", desc := "(I)Z" } : Jvm.MethodName) prog_12_method_26_code (2 : Nat) (Option.some Jvm.ClassFile.FieldType.boolean)),
  (Jvm.Cond.methodLink "WheelRide$Wheel" (86 : Nat) ({ cls := "WheelRide$Wheel", name := "turn", desc := "()Z" } : Jvm.MethodName)),
  (Jvm.Cond.privateMethod ({ cls := "WheelRide$Wheel", name := "turn", desc := "()Z" } : Jvm.MethodName)),
  (Jvm.Cond.instanceMethod ({ cls := "WheelRide$Wheel", name := "turn", desc := "()Z" } : Jvm.MethodName)),
  (Jvm.Cond.code ({ cls := "WheelRide$Wheel", name := "turn", desc := "()Z" } : Jvm.MethodName) prog_12_method_27_code (3 : Nat) (Option.some Jvm.ClassFile.FieldType.boolean)),
  (Jvm.Cond.methodLink "WheelRide$Wheel" (109 : Nat) ({ cls := "WheelRide$Wheel", name := "nextOfBottom", desc := "()I" } : Jvm.MethodName)),
  (Jvm.Cond.instanceMethod ({ cls := "WheelRide$Wheel", name := "nextOfBottom", desc := "()I" } : Jvm.MethodName)),
  (Jvm.Cond.selects "WheelRide$Wheel" ({ cls := "WheelRide$Wheel", name := "nextOfBottom", desc := "()I" } : Jvm.MethodName) ({ cls := "WheelRide$Wheel", name := "nextOfBottom", desc := "()I" } : Jvm.MethodName)),
  (Jvm.Cond.code ({ cls := "WheelRide$Wheel", name := "nextOfBottom", desc := "()I" } : Jvm.MethodName) prog_12_method_19_code (1 : Nat) (Option.some Jvm.ClassFile.FieldType.int)),
  (Jvm.Cond.methodLink "WheelRide$Wheel" (113 : Nat) ({ cls := "WheelRide$Wheel", name := "isInBalanceBy", desc := "(I)Z" } : Jvm.MethodName)),
  (Jvm.Cond.instanceMethod ({ cls := "WheelRide$Wheel", name := "isInBalanceBy", desc := "(I)Z" } : Jvm.MethodName)),
  (Jvm.Cond.selects "WheelRide$Wheel" ({ cls := "WheelRide$Wheel", name := "isInBalanceBy", desc := "(I)Z" } : Jvm.MethodName) ({ cls := "WheelRide$Wheel", name := "isInBalanceBy", desc := "(I)Z" } : Jvm.MethodName)),
  (Jvm.Cond.code ({ cls := "WheelRide$Wheel", name := "isInBalanceBy", desc := "(I)Z" } : Jvm.MethodName) prog_12_method_18_code (2 : Nat) (Option.some Jvm.ClassFile.FieldType.boolean))]
def am_t16 : List Jvm.Cond := [(Jvm.Cond.methodLink "WheelRide" (184 : Nat) ({ cls := "WheelRide$Wheel", name := "whichAre", desc := "(I)I" } : Jvm.MethodName)),
  (Jvm.Cond.methodLink "WheelRideLaw" (53 : Nat) ({ cls := "WheelRide", name := "turnTo", desc := "(I)I" } : Jvm.MethodName)),
  (Jvm.Cond.instanceMethod ({ cls := "WheelRide", name := "turnTo", desc := "(I)I" } : Jvm.MethodName)),
  (Jvm.Cond.selects "WheelRide" ({ cls := "WheelRide", name := "turnTo", desc := "(I)I" } : Jvm.MethodName) ({ cls := "WheelRide", name := "turnTo", desc := "(I)I" } : Jvm.MethodName)),
  (Jvm.Cond.code ({ cls := "WheelRide", name := "turnTo", desc := "(I)I" } : Jvm.MethodName) prog_1_method_11_code (3 : Nat) (Option.some Jvm.ClassFile.FieldType.int)),
  (Jvm.Cond.methodLink "WheelRide" (187 : Nat) ({ cls := "WheelRide$Wheel", name := "hasGondola", desc := "(I)Z" } : Jvm.MethodName)),
  (Jvm.Cond.instanceMethod ({ cls := "WheelRide$Wheel", name := "hasGondola", desc := "(I)Z" } : Jvm.MethodName)),
  (Jvm.Cond.selects "WheelRide$Wheel" ({ cls := "WheelRide$Wheel", name := "hasGondola", desc := "(I)Z" } : Jvm.MethodName) ({ cls := "WheelRide$Wheel", name := "hasGondola", desc := "(I)Z" } : Jvm.MethodName)),
  (Jvm.Cond.code ({ cls := "WheelRide$Wheel", name := "hasGondola", desc := "(I)Z" } : Jvm.MethodName) prog_12_method_7_code (2 : Nat) (Option.some Jvm.ClassFile.FieldType.boolean)),
  (Jvm.Cond.methodLink "WheelRideLaw" (57 : Nat) ({ cls := "WheelRide", name := "ballast", desc := "(II)I" } : Jvm.MethodName)),
  (Jvm.Cond.instanceMethod ({ cls := "WheelRide", name := "ballast", desc := "(II)I" } : Jvm.MethodName)),
  (Jvm.Cond.selects "WheelRide" ({ cls := "WheelRide", name := "ballast", desc := "(II)I" } : Jvm.MethodName) ({ cls := "WheelRide", name := "ballast", desc := "(II)I" } : Jvm.MethodName)),
  (Jvm.Cond.code ({ cls := "WheelRide", name := "ballast", desc := "(II)I" } : Jvm.MethodName) prog_1_method_12_code (4 : Nat) (Option.some Jvm.ClassFile.FieldType.int)),
  (Jvm.Cond.methodLink "WheelRideLaw" (62 : Nat) ({ cls := "WheelRide", name := "limit", desc := "(I)I" } : Jvm.MethodName)),
  (Jvm.Cond.instanceMethod ({ cls := "WheelRide", name := "limit", desc := "(I)I" } : Jvm.MethodName)),
  (Jvm.Cond.selects "WheelRide" ({ cls := "WheelRide", name := "limit", desc := "(I)I" } : Jvm.MethodName) ({ cls := "WheelRide", name := "limit", desc := "(I)I" } : Jvm.MethodName)),
  (Jvm.Cond.code ({ cls := "WheelRide", name := "limit", desc := "(I)I" } : Jvm.MethodName) prog_1_method_13_code (3 : Nat) (Option.some Jvm.ClassFile.FieldType.int)),
  (Jvm.Cond.methodLink "WheelRideLaw" (66 : Nat) ({ cls := "WheelRide", name := "again", desc := "(I)I" } : Jvm.MethodName)),
  (Jvm.Cond.instanceMethod ({ cls := "WheelRide", name := "again", desc := "(I)I" } : Jvm.MethodName)),
  (Jvm.Cond.selects "WheelRide" ({ cls := "WheelRide", name := "again", desc := "(I)I" } : Jvm.MethodName) ({ cls := "WheelRide", name := "again", desc := "(I)I" } : Jvm.MethodName)),
  (Jvm.Cond.code ({ cls := "WheelRide", name := "again", desc := "(I)I" } : Jvm.MethodName) prog_1_method_14_code (2 : Nat) (Option.some Jvm.ClassFile.FieldType.int)),
  (Jvm.Cond.methodLink "WheelRide" (199 : Nat) ({ cls := "WheelRide$Wheel", name := "hasParty", desc := "(I)Z" } : Jvm.MethodName)),
  (Jvm.Cond.methodLink "WheelRide" (202 : Nat) ({ cls := "WheelRide$Wheel", name := "hasLeft", desc := "(I)Z" } : Jvm.MethodName)),
  (Jvm.Cond.instanceMethod ({ cls := "WheelRide$Wheel", name := "hasLeft", desc := "(I)Z" } : Jvm.MethodName)),
  (Jvm.Cond.selects "WheelRide$Wheel" ({ cls := "WheelRide$Wheel", name := "hasLeft", desc := "(I)Z" } : Jvm.MethodName) ({ cls := "WheelRide$Wheel", name := "hasLeft", desc := "(I)Z" } : Jvm.MethodName)),
  (Jvm.Cond.code ({ cls := "WheelRide$Wheel", name := "hasLeft", desc := "(I)Z" } : Jvm.MethodName) prog_12_method_8_code (2 : Nat) (Option.some Jvm.ClassFile.FieldType.boolean)),
  (Jvm.Cond.methodLink "WheelRide" (205 : Nat) ({ cls := "WheelRide$Wheel", name := "comeAgain", desc := "(I)V" } : Jvm.MethodName)),
  (Jvm.Cond.methodLink "WheelRideLaw" (70 : Nat) ({ cls := "WheelRide", name := "party", desc := "(II)I" } : Jvm.MethodName)),
  (Jvm.Cond.instanceMethod ({ cls := "WheelRide", name := "party", desc := "(II)I" } : Jvm.MethodName)),
  (Jvm.Cond.selects "WheelRide" ({ cls := "WheelRide", name := "party", desc := "(II)I" } : Jvm.MethodName) ({ cls := "WheelRide", name := "party", desc := "(II)I" } : Jvm.MethodName)),
  (Jvm.Cond.code ({ cls := "WheelRide", name := "party", desc := "(II)I" } : Jvm.MethodName) prog_1_method_15_code (3 : Nat) (Option.some Jvm.ClassFile.FieldType.int)),
  (Jvm.Cond.methodLink "WheelRide" (212 : Nat) ({ cls := "WheelRide$Wheel", name := "seatOf", desc := "(I)I" } : Jvm.MethodName)),
  (Jvm.Cond.instanceMethod ({ cls := "WheelRide$Wheel", name := "seatOf", desc := "(I)I" } : Jvm.MethodName)),
  (Jvm.Cond.selects "WheelRide$Wheel" ({ cls := "WheelRide$Wheel", name := "seatOf", desc := "(I)I" } : Jvm.MethodName) ({ cls := "WheelRide$Wheel", name := "seatOf", desc := "(I)I" } : Jvm.MethodName)),
  (Jvm.Cond.code ({ cls := "WheelRide$Wheel", name := "seatOf", desc := "(I)I" } : Jvm.MethodName) prog_12_method_9_code (2 : Nat) (Option.some Jvm.ClassFile.FieldType.int)),
  (Jvm.Cond.methodLink "WheelRideLaw" (74 : Nat) ({ cls := "WheelRide", name := "gondola", desc := "(II)I" } : Jvm.MethodName)),
  (Jvm.Cond.instanceMethod ({ cls := "WheelRide", name := "gondola", desc := "(II)I" } : Jvm.MethodName)),
  (Jvm.Cond.selects "WheelRide" ({ cls := "WheelRide", name := "gondola", desc := "(II)I" } : Jvm.MethodName) ({ cls := "WheelRide", name := "gondola", desc := "(II)I" } : Jvm.MethodName)),
  (Jvm.Cond.code ({ cls := "WheelRide", name := "gondola", desc := "(II)I" } : Jvm.MethodName) prog_1_method_16_code (3 : Nat) (Option.some Jvm.ClassFile.FieldType.int)),
  (Jvm.Cond.methodLink "WheelRide" (227 : Nat) ({ cls := "WheelRide$Wheel", name := "placeOf", desc := "(I)I" } : Jvm.MethodName))]
def am_t17 : List Jvm.Cond := [(Jvm.Cond.instanceMethod ({ cls := "WheelRide$Wheel", name := "placeOf", desc := "(I)I" } : Jvm.MethodName)),
  (Jvm.Cond.selects "WheelRide$Wheel" ({ cls := "WheelRide$Wheel", name := "placeOf", desc := "(I)I" } : Jvm.MethodName) ({ cls := "WheelRide$Wheel", name := "placeOf", desc := "(I)I" } : Jvm.MethodName)),
  (Jvm.Cond.code ({ cls := "WheelRide$Wheel", name := "placeOf", desc := "(I)I" } : Jvm.MethodName) prog_12_method_14_code (2 : Nat) (Option.some Jvm.ClassFile.FieldType.int)),
  (Jvm.Cond.methodLink "WheelRide" (230 : Nat) ({ cls := "WheelRide$Wheel", name := "pullOf", desc := "(I)I" } : Jvm.MethodName)),
  (Jvm.Cond.methodLink "WheelRide" (233 : Nat) ({ cls := "WheelRide$Wheel", name := "partyIn", desc := "(I)I" } : Jvm.MethodName)),
  (Jvm.Cond.methodLink "WheelRideLaw" (78 : Nat) ({ cls := "WheelRide", name := "stand", desc := "(I)I" } : Jvm.MethodName)),
  (Jvm.Cond.instanceMethod ({ cls := "WheelRide", name := "stand", desc := "(I)I" } : Jvm.MethodName)),
  (Jvm.Cond.selects "WheelRide" ({ cls := "WheelRide", name := "stand", desc := "(I)I" } : Jvm.MethodName) ({ cls := "WheelRide", name := "stand", desc := "(I)I" } : Jvm.MethodName)),
  (Jvm.Cond.code ({ cls := "WheelRide", name := "stand", desc := "(I)I" } : Jvm.MethodName) prog_1_method_17_code (2 : Nat) (Option.some Jvm.ClassFile.FieldType.int)),
  (Jvm.Cond.methodLink "WheelRide" (239 : Nat) ({ cls := "WheelRide$Wheel", name := "leanWith", desc := "(I)I" } : Jvm.MethodName)),
  (Jvm.Cond.methodLink "WheelRide" (242 : Nat) ({ cls := "WheelRide$Wheel", name := "isInBalanceBy", desc := "(I)Z" } : Jvm.MethodName)),
  (Jvm.Cond.methodLink "WheelRideLaw" (82 : Nat) ({ cls := "WheelRide", name := "ahead", desc := "(III)I" } : Jvm.MethodName)),
  (Jvm.Cond.instanceMethod ({ cls := "WheelRide", name := "ahead", desc := "(III)I" } : Jvm.MethodName)),
  (Jvm.Cond.selects "WheelRide" ({ cls := "WheelRide", name := "ahead", desc := "(III)I" } : Jvm.MethodName) ({ cls := "WheelRide", name := "ahead", desc := "(III)I" } : Jvm.MethodName)),
  (Jvm.Cond.code ({ cls := "WheelRide", name := "ahead", desc := "(III)I" } : Jvm.MethodName) prog_1_method_18_code (4 : Nat) (Option.some Jvm.ClassFile.FieldType.int)),
  (Jvm.Cond.methodLink "WheelRide" (245 : Nat) ({ cls := "WheelRide$Foretold", name := "goOn", desc := "(I)V" } : Jvm.MethodName)),
  (Jvm.Cond.instanceMethod ({ cls := "WheelRide$Foretold", name := "goOn", desc := "(I)V" } : Jvm.MethodName)),
  (Jvm.Cond.selects "WheelRide$Foretold" ({ cls := "WheelRide$Foretold", name := "goOn", desc := "(I)V" } : Jvm.MethodName) ({ cls := "WheelRide$Foretold", name := "goOn", desc := "(I)V" } : Jvm.MethodName)),
  (Jvm.Cond.code ({ cls := "WheelRide$Foretold", name := "goOn", desc := "(I)V" } : Jvm.MethodName) prog_5_method_2_code (3 : Nat) (Option.none : Option Jvm.ClassFile.FieldType)),
  (Jvm.Cond.methodLink "WheelRide$Foretold" (18 : Nat) ({ cls := "WheelRide$Wheel", name := "takeFrom", desc := "(LWheelRide$Wheel;)V" } : Jvm.MethodName)),
  (Jvm.Cond.fieldLinkNest "WheelRide$Foretold" (24 : Nat) "WheelRide" "BY_NUMBERS" "[I" "WheelRide"),
  (Jvm.Cond.methodLink "WheelRide$Foretold" (28 : Nat) ({ cls := "WheelRide$Wheel", name := "makeStep", desc := "([I)Z" } : Jvm.MethodName)),
  (Jvm.Cond.methodLink "WheelRideLaw" (86 : Nat) ({ cls := "WheelRide", name := "leans", desc := "(I)I" } : Jvm.MethodName)),
  (Jvm.Cond.instanceMethod ({ cls := "WheelRide", name := "leans", desc := "(I)I" } : Jvm.MethodName)),
  (Jvm.Cond.selects "WheelRide" ({ cls := "WheelRide", name := "leans", desc := "(I)I" } : Jvm.MethodName) ({ cls := "WheelRide", name := "leans", desc := "(I)I" } : Jvm.MethodName)),
  (Jvm.Cond.code ({ cls := "WheelRide", name := "leans", desc := "(I)I" } : Jvm.MethodName) prog_1_method_19_code (2 : Nat) (Option.some Jvm.ClassFile.FieldType.int)),
  (Jvm.Cond.methodLink "WheelRideLaw" (90 : Nat) ({ cls := "WheelRide", name := "when", desc := "(II)I" } : Jvm.MethodName)),
  (Jvm.Cond.instanceMethod ({ cls := "WheelRide", name := "when", desc := "(II)I" } : Jvm.MethodName)),
  (Jvm.Cond.selects "WheelRide" ({ cls := "WheelRide", name := "when", desc := "(II)I" } : Jvm.MethodName) ({ cls := "WheelRide", name := "when", desc := "(II)I" } : Jvm.MethodName)),
  (Jvm.Cond.code ({ cls := "WheelRide", name := "when", desc := "(II)I" } : Jvm.MethodName) prog_1_method_20_code (3 : Nat) (Option.some Jvm.ClassFile.FieldType.int)),
  (Jvm.Cond.methodLink "WheelRide" (248 : Nat) ({ cls := "WheelRide$Foretold", name := "whenIs", desc := "(II)I" } : Jvm.MethodName)),
  (Jvm.Cond.instanceMethod ({ cls := "WheelRide$Foretold", name := "whenIs", desc := "(II)I" } : Jvm.MethodName)),
  (Jvm.Cond.selects "WheelRide$Foretold" ({ cls := "WheelRide$Foretold", name := "whenIs", desc := "(II)I" } : Jvm.MethodName) ({ cls := "WheelRide$Foretold", name := "whenIs", desc := "(II)I" } : Jvm.MethodName)),
  (Jvm.Cond.code ({ cls := "WheelRide$Foretold", name := "whenIs", desc := "(II)I" } : Jvm.MethodName) prog_5_method_3_code (4 : Nat) (Option.some Jvm.ClassFile.FieldType.int)),
  (Jvm.Cond.constant "WheelRide$Foretold" (35 : Nat) (-1000000 : Int32)),
  (Jvm.Cond.methodLink "WheelRideLaw" (94 : Nat) ({ cls := "WheelRide", name := "first", desc := "(I)I" } : Jvm.MethodName)),
  (Jvm.Cond.instanceMethod ({ cls := "WheelRide", name := "first", desc := "(I)I" } : Jvm.MethodName)),
  (Jvm.Cond.selects "WheelRide" ({ cls := "WheelRide", name := "first", desc := "(I)I" } : Jvm.MethodName) ({ cls := "WheelRide", name := "first", desc := "(I)I" } : Jvm.MethodName)),
  (Jvm.Cond.code ({ cls := "WheelRide", name := "first", desc := "(I)I" } : Jvm.MethodName) prog_1_method_21_code (2 : Nat) (Option.some Jvm.ClassFile.FieldType.int)),
  (Jvm.Cond.methodLink "WheelRide" (252 : Nat) ({ cls := "WheelRide$Foretold", name := "firstStuck", desc := "()I" } : Jvm.MethodName))]
def am_t18 : List Jvm.Cond := [(Jvm.Cond.instanceMethod ({ cls := "WheelRide$Foretold", name := "firstStuck", desc := "()I" } : Jvm.MethodName)),
  (Jvm.Cond.selects "WheelRide$Foretold" ({ cls := "WheelRide$Foretold", name := "firstStuck", desc := "()I" } : Jvm.MethodName) ({ cls := "WheelRide$Foretold", name := "firstStuck", desc := "()I" } : Jvm.MethodName)),
  (Jvm.Cond.code ({ cls := "WheelRide$Foretold", name := "firstStuck", desc := "()I" } : Jvm.MethodName) prog_5_method_4_code (2 : Nat) (Option.some Jvm.ClassFile.FieldType.int)),
  (Jvm.Cond.methodLink "WheelRide" (256 : Nat) ({ cls := "WheelRide$Foretold", name := "whenOver", desc := "()I" } : Jvm.MethodName)),
  (Jvm.Cond.instanceMethod ({ cls := "WheelRide$Foretold", name := "whenOver", desc := "()I" } : Jvm.MethodName)),
  (Jvm.Cond.selects "WheelRide$Foretold" ({ cls := "WheelRide$Foretold", name := "whenOver", desc := "()I" } : Jvm.MethodName) ({ cls := "WheelRide$Foretold", name := "whenOver", desc := "()I" } : Jvm.MethodName)),
  (Jvm.Cond.code ({ cls := "WheelRide$Foretold", name := "whenOver", desc := "()I" } : Jvm.MethodName) prog_5_method_5_code (2 : Nat) (Option.some Jvm.ClassFile.FieldType.int)),
  (Jvm.Cond.methodLink "WheelRide$Foretold" (36 : Nat) ({ cls := "WheelRide$Wheel", name := "whichAre", desc := "(I)I" } : Jvm.MethodName)),
  (Jvm.Cond.methodLink "WheelRideLaw" (98 : Nat) ({ cls := "WheelRide", name := "order", desc := "(II)I" } : Jvm.MethodName)),
  (Jvm.Cond.instanceMethod ({ cls := "WheelRide", name := "order", desc := "(II)I" } : Jvm.MethodName)),
  (Jvm.Cond.selects "WheelRide" ({ cls := "WheelRide", name := "order", desc := "(II)I" } : Jvm.MethodName) ({ cls := "WheelRide", name := "order", desc := "(II)I" } : Jvm.MethodName)),
  (Jvm.Cond.code ({ cls := "WheelRide", name := "order", desc := "(II)I" } : Jvm.MethodName) prog_1_method_22_code (3 : Nat) (Option.some Jvm.ClassFile.FieldType.int)),
  (Jvm.Cond.methodLink "WheelRide" (259 : Nat) ({ cls := "WheelRide$Planner", name := "findOrder", desc := "(I)V" } : Jvm.MethodName)),
  (Jvm.Cond.instanceMethod ({ cls := "WheelRide$Planner", name := "findOrder", desc := "(I)V" } : Jvm.MethodName)),
  (Jvm.Cond.selects "WheelRide$Planner" ({ cls := "WheelRide$Planner", name := "findOrder", desc := "(I)V" } : Jvm.MethodName) ({ cls := "WheelRide$Planner", name := "findOrder", desc := "(I)V" } : Jvm.MethodName)),
  (Jvm.Cond.code ({ cls := "WheelRide$Planner", name := "findOrder", desc := "(I)V" } : Jvm.MethodName) prog_8_method_3_code (4 : Nat) (Option.none : Option Jvm.ClassFile.FieldType)),
  (Jvm.Cond.fieldLinkNest "WheelRide$Planner" (35 : Nat) "WheelRide" "BY_NUMBERS" "[I" "WheelRide"),
  (Jvm.Cond.methodLink "WheelRide$Planner" (38 : Nat) ({ cls := "java/lang/System", name := "arraycopy", desc := "(Ljava/lang/Object;ILjava/lang/Object;II)V" } : Jvm.MethodName)),
  (Jvm.Cond.methodLink "WheelRide$Planner" (44 : Nat) ({ cls := "WheelRide$Planner", name := "isFirstOfItsLike", desc := "()Z" } : Jvm.MethodName)),
  (Jvm.Cond.privateMethod ({ cls := "WheelRide$Planner", name := "isFirstOfItsLike", desc := "()Z" } : Jvm.MethodName)),
  (Jvm.Cond.instanceMethod ({ cls := "WheelRide$Planner", name := "isFirstOfItsLike", desc := "()Z" } : Jvm.MethodName)),
  (Jvm.Cond.code ({ cls := "WheelRide$Planner", name := "isFirstOfItsLike", desc := "()Z" } : Jvm.MethodName) prog_8_method_4_code (4 : Nat) (Option.some Jvm.ClassFile.FieldType.boolean)),
  (Jvm.Cond.methodLink "WheelRide$Planner" (48 : Nat) ({ cls := "WheelRide$Planner", name := "tryRank", desc := "(I)V" } : Jvm.MethodName)),
  (Jvm.Cond.privateMethod ({ cls := "WheelRide$Planner", name := "tryRank", desc := "(I)V" } : Jvm.MethodName)),
  (Jvm.Cond.instanceMethod ({ cls := "WheelRide$Planner", name := "tryRank", desc := "(I)V" } : Jvm.MethodName)),
  (Jvm.Cond.code ({ cls := "WheelRide$Planner", name := "tryRank", desc := "(I)V" } : Jvm.MethodName) prog_8_method_5_code (4 : Nat) (Option.none : Option Jvm.ClassFile.FieldType)),
  (Jvm.Cond.methodLink "WheelRide$Planner" (63 : Nat) ({ cls := "WheelRide$Wheel", name := "takeFrom", desc := "(LWheelRide$Wheel;)V" } : Jvm.MethodName)),
  (Jvm.Cond.methodLink "WheelRide$Planner" (67 : Nat) ({ cls := "WheelRide$Wheel", name := "makeStep", desc := "([I)Z" } : Jvm.MethodName)),
  (Jvm.Cond.methodLink "WheelRide$Planner" (71 : Nat) ({ cls := "WheelRide$Wheel", name := "whichAre", desc := "(I)I" } : Jvm.MethodName)),
  (Jvm.Cond.methodLink "WheelRide$Planner" (75 : Nat) ({ cls := "java/lang/Integer", name := "bitCount", desc := "(I)I" } : Jvm.MethodName)),
  (Jvm.Cond.static ({ cls := "java/lang/Integer", name := "bitCount", desc := "(I)I" } : Jvm.MethodName)),
  (Jvm.Cond.code ({ cls := "java/lang/Integer", name := "bitCount", desc := "(I)I" } : Jvm.MethodName) prog_15_method_49_code (1 : Nat) (Option.some Jvm.ClassFile.FieldType.int)),
  (Jvm.Cond.constant "java/lang/Integer" (265 : Nat) (1431655765 : Int32)),
  (Jvm.Cond.constant "java/lang/Integer" (266 : Nat) (858993459 : Int32)),
  (Jvm.Cond.constant "java/lang/Integer" (267 : Nat) (252645135 : Int32)),
  (Jvm.Cond.methodLink "WheelRide$Planner" (80 : Nat) ({ cls := "WheelRide$Wheel", name := "riddenOfAll", desc := "()I" } : Jvm.MethodName)),
  (Jvm.Cond.instanceMethod ({ cls := "WheelRide$Wheel", name := "riddenOfAll", desc := "()I" } : Jvm.MethodName)),
  (Jvm.Cond.selects "WheelRide$Wheel" ({ cls := "WheelRide$Wheel", name := "riddenOfAll", desc := "()I" } : Jvm.MethodName) ({ cls := "WheelRide$Wheel", name := "riddenOfAll", desc := "()I" } : Jvm.MethodName)),
  (Jvm.Cond.code ({ cls := "WheelRide$Wheel", name := "riddenOfAll", desc := "()I" } : Jvm.MethodName) prog_12_method_12_code (3 : Nat) (Option.some Jvm.ClassFile.FieldType.int)),
  (Jvm.Cond.methodLink "WheelRide$Planner" (52 : Nat) ({ cls := "WheelRide$Planner", name := "nextRank", desc := "()Z" } : Jvm.MethodName))]
def am_t19 : List Jvm.Cond := [(Jvm.Cond.privateMethod ({ cls := "WheelRide$Planner", name := "nextRank", desc := "()Z" } : Jvm.MethodName)),
  (Jvm.Cond.instanceMethod ({ cls := "WheelRide$Planner", name := "nextRank", desc := "()Z" } : Jvm.MethodName)),
  (Jvm.Cond.code ({ cls := "WheelRide$Planner", name := "nextRank", desc := "()Z" } : Jvm.MethodName) prog_8_method_6_code (6 : Nat) (Option.some Jvm.ClassFile.FieldType.boolean)),
  (Jvm.Cond.methodLink "WheelRide$Planner" (84 : Nat) ({ cls := "WheelRide$Planner", name := "swap", desc := "(II)V" } : Jvm.MethodName)),
  (Jvm.Cond.privateMethod ({ cls := "WheelRide$Planner", name := "swap", desc := "(II)V" } : Jvm.MethodName)),
  (Jvm.Cond.instanceMethod ({ cls := "WheelRide$Planner", name := "swap", desc := "(II)V" } : Jvm.MethodName)),
  (Jvm.Cond.code ({ cls := "WheelRide$Planner", name := "swap", desc := "(II)V" } : Jvm.MethodName) prog_8_method_7_code (4 : Nat) (Option.none : Option Jvm.ClassFile.FieldType)),
  (Jvm.Cond.constant "WheelRide" (268 : Nat) (-1000000 : Int32)),
  (Jvm.Cond.methodLink "WheelRideLaw" (102 : Nat) ({ cls := "WheelRide", name := "load", desc := "(II)I" } : Jvm.MethodName)),
  (Jvm.Cond.instanceMethod ({ cls := "WheelRide", name := "load", desc := "(II)I" } : Jvm.MethodName)),
  (Jvm.Cond.selects "WheelRide" ({ cls := "WheelRide", name := "load", desc := "(II)I" } : Jvm.MethodName) ({ cls := "WheelRide", name := "load", desc := "(II)I" } : Jvm.MethodName)),
  (Jvm.Cond.code ({ cls := "WheelRide", name := "load", desc := "(II)I" } : Jvm.MethodName) prog_1_method_23_code (3 : Nat) (Option.some Jvm.ClassFile.FieldType.int)),
  (Jvm.Cond.methodLink "WheelRide" (269 : Nat) ({ cls := "WheelRide$Planner", name := "findLoad", desc := "(I)V" } : Jvm.MethodName)),
  (Jvm.Cond.instanceMethod ({ cls := "WheelRide$Planner", name := "findLoad", desc := "(I)V" } : Jvm.MethodName)),
  (Jvm.Cond.selects "WheelRide$Planner" ({ cls := "WheelRide$Planner", name := "findLoad", desc := "(I)V" } : Jvm.MethodName) ({ cls := "WheelRide$Planner", name := "findLoad", desc := "(I)V" } : Jvm.MethodName)),
  (Jvm.Cond.code ({ cls := "WheelRide$Planner", name := "findLoad", desc := "(I)V" } : Jvm.MethodName) prog_8_method_8_code (5 : Nat) (Option.none : Option Jvm.ClassFile.FieldType)),
  (Jvm.Cond.constant "WheelRide$Planner" (88 : Nat) (-1000000 : Int32)),
  (Jvm.Cond.methodLink "WheelRide$Planner" (101 : Nat) ({ cls := "WheelRide$Wheel", name := "sticksIn", desc := "(II)I" } : Jvm.MethodName)),
  (Jvm.Cond.instanceMethod ({ cls := "WheelRide$Wheel", name := "sticksIn", desc := "(II)I" } : Jvm.MethodName)),
  (Jvm.Cond.selects "WheelRide$Wheel" ({ cls := "WheelRide$Wheel", name := "sticksIn", desc := "(II)I" } : Jvm.MethodName) ({ cls := "WheelRide$Wheel", name := "sticksIn", desc := "(II)I" } : Jvm.MethodName)),
  (Jvm.Cond.code ({ cls := "WheelRide$Wheel", name := "sticksIn", desc := "(II)I" } : Jvm.MethodName) prog_12_method_28_code (5 : Nat) (Option.some Jvm.ClassFile.FieldType.int)),
  (Jvm.Cond.fieldLinkNest "WheelRide$Wheel" (116 : Nat) "WheelRide" "BY_NUMBERS" "[I" "WheelRide"),
  (Jvm.Cond.methodLink "WheelRide$Wheel" (119 : Nat) ({ cls := "WheelRide$Wheel", name := "makeStep", desc := "([I)Z" } : Jvm.MethodName)),
  (Jvm.Cond.methodLink "WheelRideLaw" (106 : Nat) ({ cls := "WheelRide", name := "bear", desc := "(I)I" } : Jvm.MethodName)),
  (Jvm.Cond.instanceMethod ({ cls := "WheelRide", name := "bear", desc := "(I)I" } : Jvm.MethodName)),
  (Jvm.Cond.selects "WheelRide" ({ cls := "WheelRide", name := "bear", desc := "(I)I" } : Jvm.MethodName) ({ cls := "WheelRide", name := "bear", desc := "(I)I" } : Jvm.MethodName)),
  (Jvm.Cond.code ({ cls := "WheelRide", name := "bear", desc := "(I)I" } : Jvm.MethodName) prog_1_method_24_code (2 : Nat) (Option.some Jvm.ClassFile.FieldType.int)),
  (Jvm.Cond.methodLink "WheelRide" (278 : Nat) ({ cls := "WheelRide$Planner", name := "leastLimit", desc := "(I)I" } : Jvm.MethodName)),
  (Jvm.Cond.instanceMethod ({ cls := "WheelRide$Planner", name := "leastLimit", desc := "(I)I" } : Jvm.MethodName)),
  (Jvm.Cond.selects "WheelRide$Planner" ({ cls := "WheelRide$Planner", name := "leastLimit", desc := "(I)I" } : Jvm.MethodName) ({ cls := "WheelRide$Planner", name := "leastLimit", desc := "(I)I" } : Jvm.MethodName)),
  (Jvm.Cond.code ({ cls := "WheelRide$Planner", name := "leastLimit", desc := "(I)I" } : Jvm.MethodName) prog_8_method_9_code (3 : Nat) (Option.some Jvm.ClassFile.FieldType.int)),
  (Jvm.Cond.methodLink "WheelRideLaw" (110 : Nat) ({ cls := "WheelRide", name := "sets", desc := "(II)I" } : Jvm.MethodName)),
  (Jvm.Cond.instanceMethod ({ cls := "WheelRide", name := "sets", desc := "(II)I" } : Jvm.MethodName)),
  (Jvm.Cond.selects "WheelRide" ({ cls := "WheelRide", name := "sets", desc := "(II)I" } : Jvm.MethodName) ({ cls := "WheelRide", name := "sets", desc := "(II)I" } : Jvm.MethodName)),
  (Jvm.Cond.code ({ cls := "WheelRide", name := "sets", desc := "(II)I" } : Jvm.MethodName) prog_1_method_25_code (3 : Nat) (Option.some Jvm.ClassFile.FieldType.int)),
  (Jvm.Cond.methodLink "WheelRide" (281 : Nat) ({ cls := "WheelRide$Sums", name := "ofSets", desc := "(LWheelRide$Wheel;II)I" } : Jvm.MethodName)),
  (Jvm.Cond.static ({ cls := "WheelRide$Sums", name := "ofSets", desc := "(LWheelRide$Wheel;II)I" } : Jvm.MethodName)),
  (Jvm.Cond.code ({ cls := "WheelRide$Sums", name := "ofSets", desc := "(LWheelRide$Wheel;II)I" } : Jvm.MethodName) prog_10_method_2_code (7 : Nat) (Option.some Jvm.ClassFile.FieldType.int)),
  (Jvm.Cond.methodLink "WheelRide$Sums" (15 : Nat) ({ cls := "WheelRide$Sums", name := "weighs", desc := "(LWheelRide$Wheel;II)Z" } : Jvm.MethodName)),
  (Jvm.Cond.static ({ cls := "WheelRide$Sums", name := "weighs", desc := "(LWheelRide$Wheel;II)Z" } : Jvm.MethodName))]
def am_t20 : List Jvm.Cond := [(Jvm.Cond.code ({ cls := "WheelRide$Sums", name := "weighs", desc := "(LWheelRide$Wheel;II)Z" } : Jvm.MethodName) prog_10_method_3_code (5 : Nat) (Option.some Jvm.ClassFile.FieldType.boolean)),
  (Jvm.Cond.methodLink "WheelRide$Sums" (21 : Nat) ({ cls := "WheelRide$Wheel", name := "hasLeft", desc := "(I)Z" } : Jvm.MethodName)),
  (Jvm.Cond.methodLink "WheelRideLaw" (114 : Nat) ({ cls := "WheelRide", name := "share", desc := "(II)I" } : Jvm.MethodName)),
  (Jvm.Cond.instanceMethod ({ cls := "WheelRide", name := "share", desc := "(II)I" } : Jvm.MethodName)),
  (Jvm.Cond.selects "WheelRide" ({ cls := "WheelRide", name := "share", desc := "(II)I" } : Jvm.MethodName) ({ cls := "WheelRide", name := "share", desc := "(II)I" } : Jvm.MethodName)),
  (Jvm.Cond.code ({ cls := "WheelRide", name := "share", desc := "(II)I" } : Jvm.MethodName) prog_1_method_26_code (3 : Nat) (Option.some Jvm.ClassFile.FieldType.int)),
  (Jvm.Cond.methodLink "WheelRide" (287 : Nat) ({ cls := "WheelRide$Sums", name := "shareOf", desc := "(LWheelRide$Wheel;II)I" } : Jvm.MethodName)),
  (Jvm.Cond.static ({ cls := "WheelRide$Sums", name := "shareOf", desc := "(LWheelRide$Wheel;II)I" } : Jvm.MethodName)),
  (Jvm.Cond.code ({ cls := "WheelRide$Sums", name := "shareOf", desc := "(LWheelRide$Wheel;II)I" } : Jvm.MethodName) prog_10_method_4_code (8 : Nat) (Option.some Jvm.ClassFile.FieldType.int)),
  (Jvm.Cond.methodLink "WheelRide$Sums" (29 : Nat) ({ cls := "WheelRide$Sums", name := "riddenIfOff", desc := "(LWheelRide$Wheel;I)I" } : Jvm.MethodName)),
  (Jvm.Cond.static ({ cls := "WheelRide$Sums", name := "riddenIfOff", desc := "(LWheelRide$Wheel;I)I" } : Jvm.MethodName)),
  (Jvm.Cond.code ({ cls := "WheelRide$Sums", name := "riddenIfOff", desc := "(LWheelRide$Wheel;I)I" } : Jvm.MethodName) prog_10_method_5_code (2 : Nat) (Option.some Jvm.ClassFile.FieldType.int)),
  (Jvm.Cond.methodLink "WheelRideLaw" (118 : Nat) ({ cls := "WheelRide", name := "byTurns", desc := "(II)I" } : Jvm.MethodName)),
  (Jvm.Cond.instanceMethod ({ cls := "WheelRide", name := "byTurns", desc := "(II)I" } : Jvm.MethodName)),
  (Jvm.Cond.selects "WheelRide" ({ cls := "WheelRide", name := "byTurns", desc := "(II)I" } : Jvm.MethodName) ({ cls := "WheelRide", name := "byTurns", desc := "(II)I" } : Jvm.MethodName)),
  (Jvm.Cond.code ({ cls := "WheelRide", name := "byTurns", desc := "(II)I" } : Jvm.MethodName) prog_1_method_27_code (3 : Nat) (Option.some Jvm.ClassFile.FieldType.int)),
  (Jvm.Cond.methodLink "WheelRide" (290 : Nat) ({ cls := "WheelRide$Chances", name := "outcome", desc := "(II)I" } : Jvm.MethodName)),
  (Jvm.Cond.instanceMethod ({ cls := "WheelRide$Chances", name := "outcome", desc := "(II)I" } : Jvm.MethodName)),
  (Jvm.Cond.selects "WheelRide$Chances" ({ cls := "WheelRide$Chances", name := "outcome", desc := "(II)I" } : Jvm.MethodName) ({ cls := "WheelRide$Chances", name := "outcome", desc := "(II)I" } : Jvm.MethodName)),
  (Jvm.Cond.code ({ cls := "WheelRide$Chances", name := "outcome", desc := "(II)I" } : Jvm.MethodName) prog_4_method_2_code (7 : Nat) (Option.some Jvm.ClassFile.FieldType.int)),
  (Jvm.Cond.methodLink "WheelRide$Chances" (22 : Nat) ({ cls := "WheelRide$Chances", name := "riddenBy", desc := "(III)I" } : Jvm.MethodName)),
  (Jvm.Cond.privateMethod ({ cls := "WheelRide$Chances", name := "riddenBy", desc := "(III)I" } : Jvm.MethodName)),
  (Jvm.Cond.instanceMethod ({ cls := "WheelRide$Chances", name := "riddenBy", desc := "(III)I" } : Jvm.MethodName)),
  (Jvm.Cond.code ({ cls := "WheelRide$Chances", name := "riddenBy", desc := "(III)I" } : Jvm.MethodName) prog_4_method_3_code (5 : Nat) (Option.some Jvm.ClassFile.FieldType.int)),
  (Jvm.Cond.methodLink "WheelRide$Chances" (39 : Nat) ({ cls := "WheelRide$Wheel", name := "takeFrom", desc := "(LWheelRide$Wheel;)V" } : Jvm.MethodName)),
  (Jvm.Cond.methodLink "WheelRide$Chances" (45 : Nat) ({ cls := "WheelRide$Chances", name := "move", desc := "(I)V" } : Jvm.MethodName)),
  (Jvm.Cond.privateMethod ({ cls := "WheelRide$Chances", name := "move", desc := "(I)V" } : Jvm.MethodName)),
  (Jvm.Cond.instanceMethod ({ cls := "WheelRide$Chances", name := "move", desc := "(I)V" } : Jvm.MethodName)),
  (Jvm.Cond.code ({ cls := "WheelRide$Chances", name := "move", desc := "(I)V" } : Jvm.MethodName) prog_4_method_4_code (3 : Nat) (Option.none : Option Jvm.ClassFile.FieldType)),
  (Jvm.Cond.methodLink "WheelRide$Chances" (26 : Nat) ({ cls := "WheelRide$Chances", name := "isOfTheOne", desc := "(I)Z" } : Jvm.MethodName)),
  (Jvm.Cond.static ({ cls := "WheelRide$Chances", name := "isOfTheOne", desc := "(I)Z" } : Jvm.MethodName)),
  (Jvm.Cond.code ({ cls := "WheelRide$Chances", name := "isOfTheOne", desc := "(I)Z" } : Jvm.MethodName) prog_4_method_5_code (1 : Nat) (Option.some Jvm.ClassFile.FieldType.boolean)),
  (Jvm.Cond.methodLink "WheelRide$Chances" (36 : Nat) ({ cls := "java/lang/Math", name := "min", desc := "(II)I" } : Jvm.MethodName)),
  (Jvm.Cond.static ({ cls := "java/lang/Math", name := "min", desc := "(II)I" } : Jvm.MethodName)),
  (Jvm.Cond.code ({ cls := "java/lang/Math", name := "min", desc := "(II)I" } : Jvm.MethodName) prog_16_method_69_code (2 : Nat) (Option.some Jvm.ClassFile.FieldType.int)),
  (Jvm.Cond.methodLink "WheelRide$Chances" (67 : Nat) ({ cls := "WheelRide$Wheel", name := "nextOfBottom", desc := "()I" } : Jvm.MethodName)),
  (Jvm.Cond.fieldLinkNest "WheelRide$Chances" (49 : Nat) "WheelRide" "BY_NUMBERS" "[I" "WheelRide"),
  (Jvm.Cond.methodLink "WheelRide$Chances" (52 : Nat) ({ cls := "WheelRide$Wheel", name := "makeStep", desc := "([I)Z" } : Jvm.MethodName)),
  (Jvm.Cond.methodLink "WheelRide$Chances" (56 : Nat) ({ cls := "WheelRide$Wheel", name := "riddenOfAll", desc := "()I" } : Jvm.MethodName)),
  (Jvm.Cond.methodLink "WheelRide$Chances" (30 : Nat) ({ cls := "java/lang/Math", name := "max", desc := "(II)I" } : Jvm.MethodName))]
def am_t21 : List Jvm.Cond := [(Jvm.Cond.static ({ cls := "java/lang/Math", name := "max", desc := "(II)I" } : Jvm.MethodName)),
  (Jvm.Cond.code ({ cls := "java/lang/Math", name := "max", desc := "(II)I" } : Jvm.MethodName) prog_16_method_65_code (2 : Nat) (Option.some Jvm.ClassFile.FieldType.int)),
  (Jvm.Cond.methodLink "WheelRideLaw" (122 : Nat) ({ cls := "WheelRide", name := "who", desc := "(IIIII)I" } : Jvm.MethodName)),
  (Jvm.Cond.instanceMethod ({ cls := "WheelRide", name := "who", desc := "(IIIII)I" } : Jvm.MethodName)),
  (Jvm.Cond.selects "WheelRide" ({ cls := "WheelRide", name := "who", desc := "(IIIII)I" } : Jvm.MethodName) ({ cls := "WheelRide", name := "who", desc := "(IIIII)I" } : Jvm.MethodName)),
  (Jvm.Cond.code ({ cls := "WheelRide", name := "who", desc := "(IIIII)I" } : Jvm.MethodName) prog_1_method_28_code (6 : Nat) (Option.some Jvm.ClassFile.FieldType.int)),
  (Jvm.Cond.methodLink "WheelRide" (297 : Nat) ({ cls := "WheelRide$Guesser", name := "guess", desc := "(II[III)I" } : Jvm.MethodName)),
  (Jvm.Cond.instanceMethod ({ cls := "WheelRide$Guesser", name := "guess", desc := "(II[III)I" } : Jvm.MethodName)),
  (Jvm.Cond.selects "WheelRide$Guesser" ({ cls := "WheelRide$Guesser", name := "guess", desc := "(II[III)I" } : Jvm.MethodName) ({ cls := "WheelRide$Guesser", name := "guess", desc := "(II[III)I" } : Jvm.MethodName)),
  (Jvm.Cond.code ({ cls := "WheelRide$Guesser", name := "guess", desc := "(II[III)I" } : Jvm.MethodName) prog_6_method_2_code (10 : Nat) (Option.some Jvm.ClassFile.FieldType.int)),
  (Jvm.Cond.constant "WheelRide$Guesser" (18 : Nat) (-1000000 : Int32)),
  (Jvm.Cond.methodLink "WheelRide$Guesser" (19 : Nat) ({ cls := "WheelRide$Guesser", name := "mostOf", desc := "(I)I" } : Jvm.MethodName)),
  (Jvm.Cond.static ({ cls := "WheelRide$Guesser", name := "mostOf", desc := "(I)I" } : Jvm.MethodName)),
  (Jvm.Cond.code ({ cls := "WheelRide$Guesser", name := "mostOf", desc := "(I)I" } : Jvm.MethodName) prog_6_method_3_code (1 : Nat) (Option.some Jvm.ClassFile.FieldType.int)),
  (Jvm.Cond.methodLink "WheelRide$Guesser" (23 : Nat) ({ cls := "WheelRide$Wheel", name := "takeFrom", desc := "(LWheelRide$Wheel;)V" } : Jvm.MethodName)),
  (Jvm.Cond.methodLink "WheelRide$Guesser" (29 : Nat) ({ cls := "WheelRide$Guesser", name := "suppose", desc := "(III)V" } : Jvm.MethodName)),
  (Jvm.Cond.privateMethod ({ cls := "WheelRide$Guesser", name := "suppose", desc := "(III)V" } : Jvm.MethodName)),
  (Jvm.Cond.instanceMethod ({ cls := "WheelRide$Guesser", name := "suppose", desc := "(III)V" } : Jvm.MethodName)),
  (Jvm.Cond.code ({ cls := "WheelRide$Guesser", name := "suppose", desc := "(III)V" } : Jvm.MethodName) prog_6_method_4_code (4 : Nat) (Option.none : Option Jvm.ClassFile.FieldType)),
  (Jvm.Cond.methodLink "WheelRide$Guesser" (33 : Nat) ({ cls := "WheelRide$Guesser", name := "leansAs", desc := "([III)Z" } : Jvm.MethodName)),
  (Jvm.Cond.privateMethod ({ cls := "WheelRide$Guesser", name := "leansAs", desc := "([III)Z" } : Jvm.MethodName)),
  (Jvm.Cond.instanceMethod ({ cls := "WheelRide$Guesser", name := "leansAs", desc := "([III)Z" } : Jvm.MethodName)),
  (Jvm.Cond.code ({ cls := "WheelRide$Guesser", name := "leansAs", desc := "([III)Z" } : Jvm.MethodName) prog_6_method_5_code (5 : Nat) (Option.some Jvm.ClassFile.FieldType.boolean)),
  (Jvm.Cond.fieldLinkNest "WheelRide$Guesser" (51 : Nat) "WheelRide" "BY_NUMBERS" "[I" "WheelRide"),
  (Jvm.Cond.methodLink "WheelRide$Guesser" (54 : Nat) ({ cls := "WheelRide$Wheel", name := "makeStep", desc := "([I)Z" } : Jvm.MethodName)),
  (Jvm.Cond.methodLink "WheelRide$Guesser" (61 : Nat) ({ cls := "WheelRide$Wheel", name := "leanWith", desc := "(I)I" } : Jvm.MethodName)),
  (Jvm.Cond.methodLink "WheelRideLaw" (126 : Nat) ({ cls := "WheelRide", name := "away", desc := "(III)J" } : Jvm.MethodName)),
  (Jvm.Cond.instanceMethod ({ cls := "WheelRide", name := "away", desc := "(III)J" } : Jvm.MethodName)),
  (Jvm.Cond.selects "WheelRide" ({ cls := "WheelRide", name := "away", desc := "(III)J" } : Jvm.MethodName) ({ cls := "WheelRide", name := "away", desc := "(III)J" } : Jvm.MethodName)),
  (Jvm.Cond.code ({ cls := "WheelRide", name := "away", desc := "(III)J" } : Jvm.MethodName) prog_1_method_29_code (4 : Nat) (Option.some Jvm.ClassFile.FieldType.long)),
  (Jvm.Cond.constantLong "WheelRide" (301 : Nat) (-1000002 : Int64)),
  (Jvm.Cond.constantLong "WheelRide" (303 : Nat) (-1000001 : Int64)),
  (Jvm.Cond.methodLink "WheelRide" (305 : Nat) ({ cls := "WheelRide$Chances", name := "findAway", desc := "(II)V" } : Jvm.MethodName)),
  (Jvm.Cond.instanceMethod ({ cls := "WheelRide$Chances", name := "findAway", desc := "(II)V" } : Jvm.MethodName)),
  (Jvm.Cond.selects "WheelRide$Chances" ({ cls := "WheelRide$Chances", name := "findAway", desc := "(II)V" } : Jvm.MethodName) ({ cls := "WheelRide$Chances", name := "findAway", desc := "(II)V" } : Jvm.MethodName)),
  (Jvm.Cond.code ({ cls := "WheelRide$Chances", name := "findAway", desc := "(II)V" } : Jvm.MethodName) prog_4_method_6_code (11 : Nat) (Option.none : Option Jvm.ClassFile.FieldType)),
  (Jvm.Cond.methodLink "WheelRide$Chances" (70 : Nat) ({ cls := "WheelRide$Wheel", name := "whichAre", desc := "(I)I" } : Jvm.MethodName)),
  (Jvm.Cond.methodLink "WheelRide$Chances" (74 : Nat) ({ cls := "java/lang/Integer", name := "bitCount", desc := "(I)I" } : Jvm.MethodName)),
  (Jvm.Cond.constantLong "WheelRide$Chances" (79 : Nat) (10 : Int64)),
  (Jvm.Cond.methodLink "WheelRide$Chances" (81 : Nat) ({ cls := "WheelRide$Chances", name := "casesOf", desc := "(III)J" } : Jvm.MethodName))]
def am_t22 : List Jvm.Cond := [(Jvm.Cond.static ({ cls := "WheelRide$Chances", name := "casesOf", desc := "(III)J" } : Jvm.MethodName)),
  (Jvm.Cond.code ({ cls := "WheelRide$Chances", name := "casesOf", desc := "(III)J" } : Jvm.MethodName) prog_4_method_7_code (6 : Nat) (Option.some Jvm.ClassFile.FieldType.long)),
  (Jvm.Cond.methodLink "WheelRide$Chances" (85 : Nat) ({ cls := "WheelRide$Chances", name := "tryWithout", desc := "(I)V" } : Jvm.MethodName)),
  (Jvm.Cond.privateMethod ({ cls := "WheelRide$Chances", name := "tryWithout", desc := "(I)V" } : Jvm.MethodName)),
  (Jvm.Cond.instanceMethod ({ cls := "WheelRide$Chances", name := "tryWithout", desc := "(I)V" } : Jvm.MethodName)),
  (Jvm.Cond.code ({ cls := "WheelRide$Chances", name := "tryWithout", desc := "(I)V" } : Jvm.MethodName) prog_4_method_8_code (3 : Nat) (Option.none : Option Jvm.ClassFile.FieldType)),
  (Jvm.Cond.methodLink "WheelRide$Chances" (88 : Nat) ({ cls := "WheelRide$Wheel", name := "sticksIn", desc := "(II)I" } : Jvm.MethodName)),
  (Jvm.Cond.methodLink "WheelRide$Chances" (91 : Nat) ({ cls := "WheelRide$Chances", name := "commonDivisor", desc := "(JJ)J" } : Jvm.MethodName)),
  (Jvm.Cond.static ({ cls := "WheelRide$Chances", name := "commonDivisor", desc := "(JJ)J" } : Jvm.MethodName)),
  (Jvm.Cond.code ({ cls := "WheelRide$Chances", name := "commonDivisor", desc := "(JJ)J" } : Jvm.MethodName) prog_4_method_9_code (11 : Nat) (Option.some Jvm.ClassFile.FieldType.long)),
  (Jvm.Cond.methodLink "WheelRideLaw" (131 : Nat) ({ cls := "WheelRide", name := "drawn", desc := "(III)I" } : Jvm.MethodName)),
  (Jvm.Cond.instanceMethod ({ cls := "WheelRide", name := "drawn", desc := "(III)I" } : Jvm.MethodName)),
  (Jvm.Cond.selects "WheelRide" ({ cls := "WheelRide", name := "drawn", desc := "(III)I" } : Jvm.MethodName) ({ cls := "WheelRide", name := "drawn", desc := "(III)I" } : Jvm.MethodName)),
  (Jvm.Cond.code ({ cls := "WheelRide", name := "drawn", desc := "(III)I" } : Jvm.MethodName) prog_1_method_30_code (5 : Nat) (Option.some Jvm.ClassFile.FieldType.int)),
  (Jvm.Cond.constant "WheelRide" (316 : Nat) (999999 : Int32)),
  (Jvm.Cond.methodLink "WheelRide" (317 : Nat) ({ cls := "WheelRide$Chances", name := "liveDays", desc := "(II)I" } : Jvm.MethodName)),
  (Jvm.Cond.instanceMethod ({ cls := "WheelRide$Chances", name := "liveDays", desc := "(II)I" } : Jvm.MethodName)),
  (Jvm.Cond.selects "WheelRide$Chances" ({ cls := "WheelRide$Chances", name := "liveDays", desc := "(II)I" } : Jvm.MethodName) ({ cls := "WheelRide$Chances", name := "liveDays", desc := "(II)I" } : Jvm.MethodName)),
  (Jvm.Cond.code ({ cls := "WheelRide$Chances", name := "liveDays", desc := "(II)I" } : Jvm.MethodName) prog_4_method_10_code (7 : Nat) (Option.some Jvm.ClassFile.FieldType.int)),
  (Jvm.Cond.constantLong "WheelRide$Chances" (108 : Nat) (16807 : Int64)),
  (Jvm.Cond.constantLong "WheelRide$Chances" (110 : Nat) (2147483647 : Int64)),
  (Jvm.Cond.methodLink "WheelRide$Chances" (112 : Nat) ({ cls := "WheelRide$Chances", name := "happen", desc := "(J)V" } : Jvm.MethodName)),
  (Jvm.Cond.privateMethod ({ cls := "WheelRide$Chances", name := "happen", desc := "(J)V" } : Jvm.MethodName)),
  (Jvm.Cond.instanceMethod ({ cls := "WheelRide$Chances", name := "happen", desc := "(J)V" } : Jvm.MethodName)),
  (Jvm.Cond.code ({ cls := "WheelRide$Chances", name := "happen", desc := "(J)V" } : Jvm.MethodName) prog_4_method_11_code (4 : Nat) (Option.none : Option Jvm.ClassFile.FieldType)),
  (Jvm.Cond.methodLink "WheelRide$Chances" (119 : Nat) ({ cls := "WheelRide$Wheel", name := "hasLeft", desc := "(I)Z" } : Jvm.MethodName)),
  (Jvm.Cond.methodLink "WheelRide$Chances" (122 : Nat) ({ cls := "WheelRide$Wheel", name := "comeAgain", desc := "(I)V" } : Jvm.MethodName)),
  (Jvm.Cond.constantLong "WheelRide$Chances" (125 : Nat) (4 : Int64)),
  (Jvm.Cond.methodLink "WheelRide" (320 : Nat) ({ cls := "WheelRide$Wheel", name := "riddenOfAll", desc := "()I" } : Jvm.MethodName)),
  (Jvm.Cond.methodLink "WheelRideLaw" (135 : Nat) ({ cls := "WheelRide", name := "image", desc := "(I)I" } : Jvm.MethodName)),
  (Jvm.Cond.instanceMethod ({ cls := "WheelRide", name := "image", desc := "(I)I" } : Jvm.MethodName)),
  (Jvm.Cond.selects "WheelRide" ({ cls := "WheelRide", name := "image", desc := "(I)I" } : Jvm.MethodName) ({ cls := "WheelRide", name := "image", desc := "(I)I" } : Jvm.MethodName)),
  (Jvm.Cond.code ({ cls := "WheelRide", name := "image", desc := "(I)I" } : Jvm.MethodName) prog_1_method_31_code (2 : Nat) (Option.some Jvm.ClassFile.FieldType.int)),
  (Jvm.Cond.methodLink "WheelRide" (323 : Nat) ({ cls := "WheelRide$Images", name := "keep", desc := "(ILWheelRide$Wheel;)V" } : Jvm.MethodName)),
  (Jvm.Cond.instanceMethod ({ cls := "WheelRide$Images", name := "keep", desc := "(ILWheelRide$Wheel;)V" } : Jvm.MethodName)),
  (Jvm.Cond.selects "WheelRide$Images" ({ cls := "WheelRide$Images", name := "keep", desc := "(ILWheelRide$Wheel;)V" } : Jvm.MethodName) ({ cls := "WheelRide$Images", name := "keep", desc := "(ILWheelRide$Wheel;)V" } : Jvm.MethodName)),
  (Jvm.Cond.code ({ cls := "WheelRide$Images", name := "keep", desc := "(ILWheelRide$Wheel;)V" } : Jvm.MethodName) prog_7_method_3_code (3 : Nat) (Option.none : Option Jvm.ClassFile.FieldType)),
  (Jvm.Cond.methodLink "WheelRide$Images" (20 : Nat) ({ cls := "WheelRide$Wheel", name := "takeFrom", desc := "(LWheelRide$Wheel;)V" } : Jvm.MethodName)),
  (Jvm.Cond.methodLink "WheelRideLaw" (139 : Nat) ({ cls := "WheelRide", name := "restore", desc := "(I)I" } : Jvm.MethodName)),
  (Jvm.Cond.instanceMethod ({ cls := "WheelRide", name := "restore", desc := "(I)I" } : Jvm.MethodName))]
def am_t23 : List Jvm.Cond := [(Jvm.Cond.selects "WheelRide" ({ cls := "WheelRide", name := "restore", desc := "(I)I" } : Jvm.MethodName) ({ cls := "WheelRide", name := "restore", desc := "(I)I" } : Jvm.MethodName)),
  (Jvm.Cond.code ({ cls := "WheelRide", name := "restore", desc := "(I)I" } : Jvm.MethodName) prog_1_method_32_code (2 : Nat) (Option.some Jvm.ClassFile.FieldType.int)),
  (Jvm.Cond.methodLink "WheelRide" (327 : Nat) ({ cls := "WheelRide$Images", name := "has", desc := "(I)Z" } : Jvm.MethodName)),
  (Jvm.Cond.instanceMethod ({ cls := "WheelRide$Images", name := "has", desc := "(I)Z" } : Jvm.MethodName)),
  (Jvm.Cond.selects "WheelRide$Images" ({ cls := "WheelRide$Images", name := "has", desc := "(I)Z" } : Jvm.MethodName) ({ cls := "WheelRide$Images", name := "has", desc := "(I)Z" } : Jvm.MethodName)),
  (Jvm.Cond.code ({ cls := "WheelRide$Images", name := "has", desc := "(I)Z" } : Jvm.MethodName) prog_7_method_2_code (2 : Nat) (Option.some Jvm.ClassFile.FieldType.boolean)),
  (Jvm.Cond.methodLink "WheelRide$Images" (16 : Nat) ({ cls := "WheelRide$Wheel", name := "stands", desc := "()Z" } : Jvm.MethodName)),
  (Jvm.Cond.methodLink "WheelRide" (330 : Nat) ({ cls := "WheelRide$Images", name := "giveBack", desc := "(ILWheelRide$Wheel;)V" } : Jvm.MethodName)),
  (Jvm.Cond.instanceMethod ({ cls := "WheelRide$Images", name := "giveBack", desc := "(ILWheelRide$Wheel;)V" } : Jvm.MethodName)),
  (Jvm.Cond.selects "WheelRide$Images" ({ cls := "WheelRide$Images", name := "giveBack", desc := "(ILWheelRide$Wheel;)V" } : Jvm.MethodName) ({ cls := "WheelRide$Images", name := "giveBack", desc := "(ILWheelRide$Wheel;)V" } : Jvm.MethodName)),
  (Jvm.Cond.code ({ cls := "WheelRide$Images", name := "giveBack", desc := "(ILWheelRide$Wheel;)V" } : Jvm.MethodName) prog_7_method_4_code (3 : Nat) (Option.none : Option Jvm.ClassFile.FieldType)),
  (Jvm.Cond.methodLink "WheelRideLaw" (143 : Nat) ({ cls := "WheelRide", name := "kind", desc := "(I)I" } : Jvm.MethodName)),
  (Jvm.Cond.instanceMethod ({ cls := "WheelRide", name := "kind", desc := "(I)I" } : Jvm.MethodName)),
  (Jvm.Cond.selects "WheelRide" ({ cls := "WheelRide", name := "kind", desc := "(I)I" } : Jvm.MethodName) ({ cls := "WheelRide", name := "kind", desc := "(I)I" } : Jvm.MethodName)),
  (Jvm.Cond.code ({ cls := "WheelRide", name := "kind", desc := "(I)I" } : Jvm.MethodName) prog_1_method_33_code (2 : Nat) (Option.some Jvm.ClassFile.FieldType.int)),
  (Jvm.Cond.methodLink "WheelRideLaw" (147 : Nat) ({ cls := "WheelRide", name := "as", desc := "(II)I" } : Jvm.MethodName)),
  (Jvm.Cond.instanceMethod ({ cls := "WheelRide", name := "as", desc := "(II)I" } : Jvm.MethodName)),
  (Jvm.Cond.selects "WheelRide" ({ cls := "WheelRide", name := "as", desc := "(II)I" } : Jvm.MethodName) ({ cls := "WheelRide", name := "as", desc := "(II)I" } : Jvm.MethodName)),
  (Jvm.Cond.code ({ cls := "WheelRide", name := "as", desc := "(II)I" } : Jvm.MethodName) prog_1_method_34_code (3 : Nat) (Option.some Jvm.ClassFile.FieldType.int)),
  (Jvm.Cond.methodLink "WheelRide" (336 : Nat) ({ cls := "WheelRide$Asks", name := "isSuch", desc := "(II)Z" } : Jvm.MethodName)),
  (Jvm.Cond.static ({ cls := "WheelRide$Asks", name := "isSuch", desc := "(II)Z" } : Jvm.MethodName)),
  (Jvm.Cond.code ({ cls := "WheelRide$Asks", name := "isSuch", desc := "(II)Z" } : Jvm.MethodName) prog_3_method_2_code (4 : Nat) (Option.some Jvm.ClassFile.FieldType.boolean)),
  (Jvm.Cond.methodLink "WheelRide$Asks" (19 : Nat) ({ cls := "WheelRide$Asks", name := "isKind", desc := "(I)Z" } : Jvm.MethodName)),
  (Jvm.Cond.static ({ cls := "WheelRide$Asks", name := "isKind", desc := "(I)Z" } : Jvm.MethodName)),
  (Jvm.Cond.code ({ cls := "WheelRide$Asks", name := "isKind", desc := "(I)Z" } : Jvm.MethodName) prog_3_method_3_code (1 : Nat) (Option.some Jvm.ClassFile.FieldType.boolean)),
  (Jvm.Cond.fieldLink "WheelRide$Asks" (23 : Nat) "WheelRide$Asks" "KIND_ABOVE" "[I"),
  (Jvm.Cond.laysStatic "WheelRide$Asks" "KIND_ABOVE" "[I"),
  (Jvm.Cond.methodLink "WheelRideLaw" (151 : Nat) ({ cls := "WheelRide", name := "ask", desc := "(II)I" } : Jvm.MethodName)),
  (Jvm.Cond.instanceMethod ({ cls := "WheelRide", name := "ask", desc := "(II)I" } : Jvm.MethodName)),
  (Jvm.Cond.selects "WheelRide" ({ cls := "WheelRide", name := "ask", desc := "(II)I" } : Jvm.MethodName) ({ cls := "WheelRide", name := "ask", desc := "(II)I" } : Jvm.MethodName)),
  (Jvm.Cond.code ({ cls := "WheelRide", name := "ask", desc := "(II)I" } : Jvm.MethodName) prog_1_method_35_code (3 : Nat) (Option.some Jvm.ClassFile.FieldType.int)),
  (Jvm.Cond.methodLink "WheelRide" (339 : Nat) ({ cls := "WheelRide$Asks", name := "begin", desc := "(II)I" } : Jvm.MethodName)),
  (Jvm.Cond.instanceMethod ({ cls := "WheelRide$Asks", name := "begin", desc := "(II)I" } : Jvm.MethodName)),
  (Jvm.Cond.selects "WheelRide$Asks" ({ cls := "WheelRide$Asks", name := "begin", desc := "(II)I" } : Jvm.MethodName) ({ cls := "WheelRide$Asks", name := "begin", desc := "(II)I" } : Jvm.MethodName)),
  (Jvm.Cond.code ({ cls := "WheelRide$Asks", name := "begin", desc := "(II)I" } : Jvm.MethodName) prog_3_method_4_code (3 : Nat) (Option.some Jvm.ClassFile.FieldType.int)),
  (Jvm.Cond.methodLink "WheelRide$Asks" (30 : Nat) ({ cls := "WheelRide$Asks", name := "answer", desc := "(III)I" } : Jvm.MethodName)),
  (Jvm.Cond.privateMethod ({ cls := "WheelRide$Asks", name := "answer", desc := "(III)I" } : Jvm.MethodName)),
  (Jvm.Cond.instanceMethod ({ cls := "WheelRide$Asks", name := "answer", desc := "(III)I" } : Jvm.MethodName)),
  (Jvm.Cond.code ({ cls := "WheelRide$Asks", name := "answer", desc := "(III)I" } : Jvm.MethodName) prog_3_method_5_code (4 : Nat) (Option.some Jvm.ClassFile.FieldType.int)),
  (Jvm.Cond.fieldLink "WheelRide$Asks" (39 : Nat) "WheelRide$Asks" "SIZE_BODIES" "[I")]
def am_t24 : List Jvm.Cond := [(Jvm.Cond.laysStatic "WheelRide$Asks" "SIZE_BODIES" "[I"),
  (Jvm.Cond.fieldLink "WheelRide$Asks" (42 : Nat) "WheelRide$Asks" "MARK_BODIES" "[I"),
  (Jvm.Cond.laysStatic "WheelRide$Asks" "MARK_BODIES" "[I"),
  (Jvm.Cond.methodLink "WheelRide$Asks" (45 : Nat) ({ cls := "WheelRide$Asks", name := "bodyFor", desc := "(I[I)I" } : Jvm.MethodName)),
  (Jvm.Cond.static ({ cls := "WheelRide$Asks", name := "bodyFor", desc := "(I[I)I" } : Jvm.MethodName)),
  (Jvm.Cond.code ({ cls := "WheelRide$Asks", name := "bodyFor", desc := "(I[I)I" } : Jvm.MethodName) prog_3_method_6_code (4 : Nat) (Option.some Jvm.ClassFile.FieldType.int)),
  (Jvm.Cond.constant "WheelRide$Asks" (52 : Nat) (-1000000 : Int32)),
  (Jvm.Cond.methodLink "WheelRide$Asks" (49 : Nat) ({ cls := "WheelRide$Asks", name := "tell", desc := "(III)I" } : Jvm.MethodName)),
  (Jvm.Cond.privateMethod ({ cls := "WheelRide$Asks", name := "tell", desc := "(III)I" } : Jvm.MethodName)),
  (Jvm.Cond.instanceMethod ({ cls := "WheelRide$Asks", name := "tell", desc := "(III)I" } : Jvm.MethodName)),
  (Jvm.Cond.code ({ cls := "WheelRide$Asks", name := "tell", desc := "(III)I" } : Jvm.MethodName) prog_3_method_7_code (5 : Nat) (Option.some Jvm.ClassFile.FieldType.int)),
  (Jvm.Cond.methodLink "WheelRide$Asks" (53 : Nat) ({ cls := "WheelRide$Asks", name := "leaveTrace", desc := "(I)V" } : Jvm.MethodName)),
  (Jvm.Cond.privateMethod ({ cls := "WheelRide$Asks", name := "leaveTrace", desc := "(I)V" } : Jvm.MethodName)),
  (Jvm.Cond.instanceMethod ({ cls := "WheelRide$Asks", name := "leaveTrace", desc := "(I)V" } : Jvm.MethodName)),
  (Jvm.Cond.code ({ cls := "WheelRide$Asks", name := "leaveTrace", desc := "(I)V" } : Jvm.MethodName) prog_3_method_8_code (2 : Nat) (Option.none : Option Jvm.ClassFile.FieldType)),
  (Jvm.Cond.methodLink "WheelRideLaw" (155 : Nat) ({ cls := "WheelRide", name := "trace", desc := "(I)I" } : Jvm.MethodName)),
  (Jvm.Cond.instanceMethod ({ cls := "WheelRide", name := "trace", desc := "(I)I" } : Jvm.MethodName)),
  (Jvm.Cond.selects "WheelRide" ({ cls := "WheelRide", name := "trace", desc := "(I)I" } : Jvm.MethodName) ({ cls := "WheelRide", name := "trace", desc := "(I)I" } : Jvm.MethodName)),
  (Jvm.Cond.code ({ cls := "WheelRide", name := "trace", desc := "(I)I" } : Jvm.MethodName) prog_1_method_36_code (2 : Nat) (Option.some Jvm.ClassFile.FieldType.int)),
  (Jvm.Cond.methodLink "WheelRideLaw" (159 : Nat) ({ cls := "WheelRide", name := "count", desc := "(I)I" } : Jvm.MethodName)),
  (Jvm.Cond.instanceMethod ({ cls := "WheelRide", name := "count", desc := "(I)I" } : Jvm.MethodName)),
  (Jvm.Cond.selects "WheelRide" ({ cls := "WheelRide", name := "count", desc := "(I)I" } : Jvm.MethodName) ({ cls := "WheelRide", name := "count", desc := "(I)I" } : Jvm.MethodName)),
  (Jvm.Cond.code ({ cls := "WheelRide", name := "count", desc := "(I)I" } : Jvm.MethodName) prog_1_method_37_code (2 : Nat) (Option.some Jvm.ClassFile.FieldType.int)),
  (Jvm.Cond.methodLink "WheelRide" (348 : Nat) ({ cls := "WheelRide$Rows", name := "howMany", desc := "()I" } : Jvm.MethodName)),
  (Jvm.Cond.instanceMethod ({ cls := "WheelRide$Rows", name := "howMany", desc := "()I" } : Jvm.MethodName)),
  (Jvm.Cond.selects "WheelRide$Rows" ({ cls := "WheelRide$Rows", name := "howMany", desc := "()I" } : Jvm.MethodName) ({ cls := "WheelRide$Rows", name := "howMany", desc := "()I" } : Jvm.MethodName)),
  (Jvm.Cond.code ({ cls := "WheelRide$Rows", name := "howMany", desc := "()I" } : Jvm.MethodName) prog_9_method_9_code (3 : Nat) (Option.some Jvm.ClassFile.FieldType.int)),
  (Jvm.Cond.methodLink "WheelRide$Rows" (33 : Nat) ({ cls := "WheelRide$Rows", name := "isMissing", desc := "(I)Z" } : Jvm.MethodName)),
  (Jvm.Cond.methodLink "WheelRide" (351 : Nat) ({ cls := "WheelRide$Wheel", name := "ballastOfAll", desc := "()I" } : Jvm.MethodName)),
  (Jvm.Cond.instanceMethod ({ cls := "WheelRide$Wheel", name := "ballastOfAll", desc := "()I" } : Jvm.MethodName)),
  (Jvm.Cond.selects "WheelRide$Wheel" ({ cls := "WheelRide$Wheel", name := "ballastOfAll", desc := "()I" } : Jvm.MethodName) ({ cls := "WheelRide$Wheel", name := "ballastOfAll", desc := "()I" } : Jvm.MethodName)),
  (Jvm.Cond.code ({ cls := "WheelRide$Wheel", name := "ballastOfAll", desc := "()I" } : Jvm.MethodName) prog_12_method_13_code (3 : Nat) (Option.some Jvm.ClassFile.FieldType.int)),
  (Jvm.Cond.methodLink "WheelRideLaw" (163 : Nat) ({ cls := "WheelRide", name := "status", desc := "()I" } : Jvm.MethodName)),
  (Jvm.Cond.instanceMethod ({ cls := "WheelRide", name := "status", desc := "()I" } : Jvm.MethodName)),
  (Jvm.Cond.selects "WheelRide" ({ cls := "WheelRide", name := "status", desc := "()I" } : Jvm.MethodName) ({ cls := "WheelRide", name := "status", desc := "()I" } : Jvm.MethodName)),
  (Jvm.Cond.code ({ cls := "WheelRide", name := "status", desc := "()I" } : Jvm.MethodName) prog_1_method_38_code (1 : Nat) (Option.some Jvm.ClassFile.FieldType.int)),
  (Jvm.Cond.classLink "WheelRideLaw" (10 : Nat) "WheelRideModel"),
  (Jvm.Cond.instantiable "WheelRideModel" (31 : Nat)),
  (Jvm.Cond.methodLink "WheelRideLaw" (12 : Nat) ({ cls := "WheelRideModel", name := "<init>", desc := "()V" } : Jvm.MethodName)),
  (Jvm.Cond.instanceMethod ({ cls := "WheelRideModel", name := "<init>", desc := "()V" } : Jvm.MethodName))]
def am_t25 : List Jvm.Cond := [(Jvm.Cond.code ({ cls := "WheelRideModel", name := "<init>", desc := "()V" } : Jvm.MethodName) prog_14_method_1_code (2 : Nat) (Option.none : Option Jvm.ClassFile.FieldType)),
  (Jvm.Cond.methodLink "WheelRideModel" (1 : Nat) ({ cls := "java/lang/Object", name := "<init>", desc := "()V" } : Jvm.MethodName)),
  (Jvm.Cond.methodLink "WheelRideModel" (71 : Nat) ({ cls := "WheelRideModel", name := "byNumbers", desc := "()V" } : Jvm.MethodName)),
  (Jvm.Cond.privateMethod ({ cls := "WheelRideModel", name := "byNumbers", desc := "()V" } : Jvm.MethodName)),
  (Jvm.Cond.instanceMethod ({ cls := "WheelRideModel", name := "byNumbers", desc := "()V" } : Jvm.MethodName)),
  (Jvm.Cond.code ({ cls := "WheelRideModel", name := "byNumbers", desc := "()V" } : Jvm.MethodName) prog_14_method_35_code (2 : Nat) (Option.none : Option Jvm.ClassFile.FieldType)),
  (Jvm.Cond.fieldLink "WheelRideModel" (7 : Nat) "WheelRideModel" "lanes" "[I"),
  (Jvm.Cond.fieldLink "WheelRideModel" (13 : Nat) "WheelRideModel" "sizes" "[I"),
  (Jvm.Cond.fieldLink "WheelRideModel" (16 : Nat) "WheelRideModel" "items" "[I"),
  (Jvm.Cond.fieldLink "WheelRideModel" (74 : Nat) "WheelRideModel" "found" "I"),
  (Jvm.Cond.fieldLink "WheelRideModel" (19 : Nat) "WheelRideModel" "tape" "[I"),
  (Jvm.Cond.fieldLink "WheelRideModel" (105 : Nat) "WheelRideModel" "tapeMany" "I"),
  (Jvm.Cond.fieldLink "WheelRideModel" (147 : Nat) "WheelRideModel" "faultNumber" "I"),
  (Jvm.Cond.fieldLink "WheelRideModel" (83 : Nat) "WheelRideModel" "parties" "I"),
  (Jvm.Cond.fieldLink "WheelRideModel" (86 : Nat) "WheelRideModel" "gondolas" "I"),
  (Jvm.Cond.fieldLink "WheelRideModel" (22 : Nat) "WheelRideModel" "sort" "[I"),
  (Jvm.Cond.fieldLink "WheelRideModel" (25 : Nat) "WheelRideModel" "weight" "[I"),
  (Jvm.Cond.fieldLink "WheelRideModel" (28 : Nat) "WheelRideModel" "rounds" "[I"),
  (Jvm.Cond.fieldLink "WheelRideModel" (31 : Nat) "WheelRideModel" "st" "[I"),
  (Jvm.Cond.fieldLink "WheelRideModel" (34 : Nat) "WheelRideModel" "book" "[I"),
  (Jvm.Cond.fieldLink "WheelRideModel" (156 : Nat) "WheelRideModel" "acts" "I"),
  (Jvm.Cond.fieldLink "WheelRideModel" (37 : Nat) "WheelRideModel" "images" "[I"),
  (Jvm.Cond.fieldLink "WheelRideModel" (40 : Nat) "WheelRideModel" "isKept" "[Z"),
  (Jvm.Cond.fieldLink "WheelRideModel" (44 : Nat) "WheelRideModel" "rank" "[I"),
  (Jvm.Cond.fieldLink "WheelRideModel" (47 : Nat) "WheelRideModel" "now" "[I"),
  (Jvm.Cond.fieldLink "WheelRideModel" (50 : Nat) "WheelRideModel" "trail" "[I"),
  (Jvm.Cond.fieldLink "WheelRideModel" (271 : Nat) "WheelRideModel" "trailMany" "I"),
  (Jvm.Cond.fieldLink "WheelRideModel" (109 : Nat) "WheelRideModel" "place" "I"),
  (Jvm.Cond.fieldLink "WheelRideModel" (115 : Nat) "WheelRideModel" "wrongAt" "I"),
  (Jvm.Cond.fieldLink "WheelRideModel" (112 : Nat) "WheelRideModel" "wrong" "I"),
  (Jvm.Cond.fieldLink "WheelRideModel" (132 : Nat) "WheelRideModel" "readParties" "I"),
  (Jvm.Cond.fieldLink "WheelRideModel" (53 : Nat) "WheelRideModel" "readLaw" "[I"),
  (Jvm.Cond.fieldLink "WheelRideModel" (56 : Nat) "WheelRideModel" "readSort" "[I"),
  (Jvm.Cond.fieldLink "WheelRideModel" (59 : Nat) "WheelRideModel" "readWeight" "[I"),
  (Jvm.Cond.fieldLink "WheelRideModel" (62 : Nat) "WheelRideModel" "readRounds" "[I"),
  (Jvm.Cond.fieldLink "WheelRideModel" (65 : Nat) "WheelRideModel" "bestRank" "[I"),
  (Jvm.Cond.fieldLink "WheelRideModel" (68 : Nat) "WheelRideModel" "worth" "[I"),
  (Jvm.Cond.laysFinal "WheelRideModel" "WheelRideModel" "lanes" "[I"),
  (Jvm.Cond.soleField "WheelRideModel" "lanes"),
  (Jvm.Cond.laysFinal "WheelRideModel" "WheelRideModel" "sizes" "[I")]
def am_t26 : List Jvm.Cond := [(Jvm.Cond.soleField "WheelRideModel" "sizes"),
  (Jvm.Cond.laysFinal "WheelRideModel" "WheelRideModel" "items" "[I"),
  (Jvm.Cond.soleField "WheelRideModel" "items"),
  (Jvm.Cond.lays "WheelRideModel" "WheelRideModel" "found" "I"),
  (Jvm.Cond.soleField "WheelRideModel" "found"),
  (Jvm.Cond.laysFinal "WheelRideModel" "WheelRideModel" "tape" "[I"),
  (Jvm.Cond.soleField "WheelRideModel" "tape"),
  (Jvm.Cond.lays "WheelRideModel" "WheelRideModel" "tapeMany" "I"),
  (Jvm.Cond.soleField "WheelRideModel" "tapeMany"),
  (Jvm.Cond.lays "WheelRideModel" "WheelRideModel" "faultNumber" "I"),
  (Jvm.Cond.soleField "WheelRideModel" "faultNumber"),
  (Jvm.Cond.lays "WheelRideModel" "WheelRideModel" "parties" "I"),
  (Jvm.Cond.soleField "WheelRideModel" "parties"),
  (Jvm.Cond.lays "WheelRideModel" "WheelRideModel" "gondolas" "I"),
  (Jvm.Cond.soleField "WheelRideModel" "gondolas"),
  (Jvm.Cond.laysFinal "WheelRideModel" "WheelRideModel" "sort" "[I"),
  (Jvm.Cond.soleField "WheelRideModel" "sort"),
  (Jvm.Cond.laysFinal "WheelRideModel" "WheelRideModel" "weight" "[I"),
  (Jvm.Cond.soleField "WheelRideModel" "weight"),
  (Jvm.Cond.laysFinal "WheelRideModel" "WheelRideModel" "rounds" "[I"),
  (Jvm.Cond.soleField "WheelRideModel" "rounds"),
  (Jvm.Cond.laysFinal "WheelRideModel" "WheelRideModel" "st" "[I"),
  (Jvm.Cond.soleField "WheelRideModel" "st"),
  (Jvm.Cond.laysFinal "WheelRideModel" "WheelRideModel" "book" "[I"),
  (Jvm.Cond.soleField "WheelRideModel" "book"),
  (Jvm.Cond.lays "WheelRideModel" "WheelRideModel" "acts" "I"),
  (Jvm.Cond.soleField "WheelRideModel" "acts"),
  (Jvm.Cond.laysFinal "WheelRideModel" "WheelRideModel" "images" "[I"),
  (Jvm.Cond.soleField "WheelRideModel" "images"),
  (Jvm.Cond.laysFinal "WheelRideModel" "WheelRideModel" "isKept" "[Z"),
  (Jvm.Cond.soleField "WheelRideModel" "isKept"),
  (Jvm.Cond.laysFinal "WheelRideModel" "WheelRideModel" "rank" "[I"),
  (Jvm.Cond.soleField "WheelRideModel" "rank"),
  (Jvm.Cond.laysFinal "WheelRideModel" "WheelRideModel" "now" "[I"),
  (Jvm.Cond.soleField "WheelRideModel" "now"),
  (Jvm.Cond.laysFinal "WheelRideModel" "WheelRideModel" "trail" "[I"),
  (Jvm.Cond.soleField "WheelRideModel" "trail"),
  (Jvm.Cond.lays "WheelRideModel" "WheelRideModel" "trailMany" "I"),
  (Jvm.Cond.soleField "WheelRideModel" "trailMany"),
  (Jvm.Cond.lays "WheelRideModel" "WheelRideModel" "place" "I")]
def am_t27 : List Jvm.Cond := [(Jvm.Cond.soleField "WheelRideModel" "place"),
  (Jvm.Cond.lays "WheelRideModel" "WheelRideModel" "wrongAt" "I"),
  (Jvm.Cond.soleField "WheelRideModel" "wrongAt"),
  (Jvm.Cond.lays "WheelRideModel" "WheelRideModel" "wrong" "I"),
  (Jvm.Cond.soleField "WheelRideModel" "wrong"),
  (Jvm.Cond.lays "WheelRideModel" "WheelRideModel" "readParties" "I"),
  (Jvm.Cond.soleField "WheelRideModel" "readParties"),
  (Jvm.Cond.laysFinal "WheelRideModel" "WheelRideModel" "readLaw" "[I"),
  (Jvm.Cond.soleField "WheelRideModel" "readLaw"),
  (Jvm.Cond.laysFinal "WheelRideModel" "WheelRideModel" "readSort" "[I"),
  (Jvm.Cond.soleField "WheelRideModel" "readSort"),
  (Jvm.Cond.laysFinal "WheelRideModel" "WheelRideModel" "readWeight" "[I"),
  (Jvm.Cond.soleField "WheelRideModel" "readWeight"),
  (Jvm.Cond.laysFinal "WheelRideModel" "WheelRideModel" "readRounds" "[I"),
  (Jvm.Cond.soleField "WheelRideModel" "readRounds"),
  (Jvm.Cond.laysFinal "WheelRideModel" "WheelRideModel" "bestRank" "[I"),
  (Jvm.Cond.soleField "WheelRideModel" "bestRank"),
  (Jvm.Cond.laysFinal "WheelRideModel" "WheelRideModel" "worth" "[I"),
  (Jvm.Cond.soleField "WheelRideModel" "worth"),
  (Jvm.Cond.superclass "WheelRideModel" "java/lang/Object"),
  (Jvm.Cond.arrayClass Jvm.ClassFile.FieldType.boolean),
  (Jvm.Cond.methodLink "WheelRideLaw" (17 : Nat) ({ cls := "WheelRideModel", name := "row", desc := "(III)I" } : Jvm.MethodName)),
  (Jvm.Cond.instanceMethod ({ cls := "WheelRideModel", name := "row", desc := "(III)I" } : Jvm.MethodName)),
  (Jvm.Cond.selects "WheelRideModel" ({ cls := "WheelRideModel", name := "row", desc := "(III)I" } : Jvm.MethodName) ({ cls := "WheelRideModel", name := "row", desc := "(III)I" } : Jvm.MethodName)),
  (Jvm.Cond.code ({ cls := "WheelRideModel", name := "row", desc := "(III)I" } : Jvm.MethodName) prog_14_method_12_code (5 : Nat) (Option.some Jvm.ClassFile.FieldType.int)),
  (Jvm.Cond.methodLink "WheelRideModel" (89 : Nat) ({ cls := "WheelRideModel", name := "isRow", desc := "(I)Z" } : Jvm.MethodName)),
  (Jvm.Cond.privateMethod ({ cls := "WheelRideModel", name := "isRow", desc := "(I)Z" } : Jvm.MethodName)),
  (Jvm.Cond.instanceMethod ({ cls := "WheelRideModel", name := "isRow", desc := "(I)Z" } : Jvm.MethodName)),
  (Jvm.Cond.code ({ cls := "WheelRideModel", name := "isRow", desc := "(I)Z" } : Jvm.MethodName) prog_14_method_7_code (2 : Nat) (Option.some Jvm.ClassFile.FieldType.boolean)),
  (Jvm.Cond.methodLink "WheelRideModel" (79 : Nat) ({ cls := "WheelRideModel", name := "in", desc := "(III)Z" } : Jvm.MethodName)),
  (Jvm.Cond.static ({ cls := "WheelRideModel", name := "in", desc := "(III)Z" } : Jvm.MethodName)),
  (Jvm.Cond.code ({ cls := "WheelRideModel", name := "in", desc := "(III)Z" } : Jvm.MethodName) prog_14_method_3_code (3 : Nat) (Option.some Jvm.ClassFile.FieldType.boolean)),
  (Jvm.Cond.constant "WheelRideModel" (93 : Nat) (-1000001 : Int32)),
  (Jvm.Cond.methodLink "WheelRideModel" (94 : Nat) ({ cls := "WheelRideModel", name := "finds", desc := "(I)I" } : Jvm.MethodName)),
  (Jvm.Cond.privateMethod ({ cls := "WheelRideModel", name := "finds", desc := "(I)I" } : Jvm.MethodName)),
  (Jvm.Cond.instanceMethod ({ cls := "WheelRideModel", name := "finds", desc := "(I)I" } : Jvm.MethodName)),
  (Jvm.Cond.code ({ cls := "WheelRideModel", name := "finds", desc := "(I)I" } : Jvm.MethodName) prog_14_method_6_code (2 : Nat) (Option.some Jvm.ClassFile.FieldType.int)),
  (Jvm.Cond.constant "WheelRideModel" (78 : Nat) (-1000010 : Int32)),
  (Jvm.Cond.methodLink "WheelRideLaw" (21 : Nat) ({ cls := "WheelRideModel", name := "set", desc := "(III)I" } : Jvm.MethodName)),
  (Jvm.Cond.instanceMethod ({ cls := "WheelRideModel", name := "set", desc := "(III)I" } : Jvm.MethodName))]
def am_t28 : List Jvm.Cond := [(Jvm.Cond.selects "WheelRideModel" ({ cls := "WheelRideModel", name := "set", desc := "(III)I" } : Jvm.MethodName) ({ cls := "WheelRideModel", name := "set", desc := "(III)I" } : Jvm.MethodName)),
  (Jvm.Cond.code ({ cls := "WheelRideModel", name := "set", desc := "(III)I" } : Jvm.MethodName) prog_14_method_13_code (4 : Nat) (Option.some Jvm.ClassFile.FieldType.int)),
  (Jvm.Cond.methodLink "WheelRideModel" (98 : Nat) ({ cls := "WheelRideModel", name := "cut", desc := "(II)I" } : Jvm.MethodName)),
  (Jvm.Cond.static ({ cls := "WheelRideModel", name := "cut", desc := "(II)I" } : Jvm.MethodName)),
  (Jvm.Cond.code ({ cls := "WheelRideModel", name := "cut", desc := "(II)I" } : Jvm.MethodName) prog_14_method_11_code (2 : Nat) (Option.some Jvm.ClassFile.FieldType.int)),
  (Jvm.Cond.methodLink "WheelRideLaw" (26 : Nat) ({ cls := "WheelRideModel", name := "copy", desc := "(IIIII)I" } : Jvm.MethodName)),
  (Jvm.Cond.instanceMethod ({ cls := "WheelRideModel", name := "copy", desc := "(IIIII)I" } : Jvm.MethodName)),
  (Jvm.Cond.selects "WheelRideModel" ({ cls := "WheelRideModel", name := "copy", desc := "(IIIII)I" } : Jvm.MethodName) ({ cls := "WheelRideModel", name := "copy", desc := "(IIIII)I" } : Jvm.MethodName)),
  (Jvm.Cond.code ({ cls := "WheelRideModel", name := "copy", desc := "(IIIII)I" } : Jvm.MethodName) prog_14_method_15_code (9 : Nat) (Option.some Jvm.ClassFile.FieldType.int)),
  (Jvm.Cond.methodLink "WheelRideModel" (102 : Nat) ({ cls := "WheelRideModel", name := "isPart", desc := "(III)Z" } : Jvm.MethodName)),
  (Jvm.Cond.static ({ cls := "WheelRideModel", name := "isPart", desc := "(III)Z" } : Jvm.MethodName)),
  (Jvm.Cond.code ({ cls := "WheelRideModel", name := "isPart", desc := "(III)Z" } : Jvm.MethodName) prog_14_method_14_code (3 : Nat) (Option.some Jvm.ClassFile.FieldType.boolean)),
  (Jvm.Cond.methodLink "WheelRideLaw" (31 : Nat) ({ cls := "WheelRideModel", name := "drop", desc := "(I)I" } : Jvm.MethodName)),
  (Jvm.Cond.instanceMethod ({ cls := "WheelRideModel", name := "drop", desc := "(I)I" } : Jvm.MethodName)),
  (Jvm.Cond.selects "WheelRideModel" ({ cls := "WheelRideModel", name := "drop", desc := "(I)I" } : Jvm.MethodName) ({ cls := "WheelRideModel", name := "drop", desc := "(I)I" } : Jvm.MethodName)),
  (Jvm.Cond.code ({ cls := "WheelRideModel", name := "drop", desc := "(I)I" } : Jvm.MethodName) prog_14_method_16_code (3 : Nat) (Option.some Jvm.ClassFile.FieldType.int)),
  (Jvm.Cond.methodLink "WheelRideLaw" (35 : Nat) ({ cls := "WheelRideModel", name := "feed", desc := "(I)I" } : Jvm.MethodName)),
  (Jvm.Cond.instanceMethod ({ cls := "WheelRideModel", name := "feed", desc := "(I)I" } : Jvm.MethodName)),
  (Jvm.Cond.selects "WheelRideModel" ({ cls := "WheelRideModel", name := "feed", desc := "(I)I" } : Jvm.MethodName) ({ cls := "WheelRideModel", name := "feed", desc := "(I)I" } : Jvm.MethodName)),
  (Jvm.Cond.code ({ cls := "WheelRideModel", name := "feed", desc := "(I)I" } : Jvm.MethodName) prog_14_method_17_code (2 : Nat) (Option.some Jvm.ClassFile.FieldType.int)),
  (Jvm.Cond.constant "WheelRideModel" (108 : Nat) (-1000003 : Int32)),
  (Jvm.Cond.methodLink "WheelRideLaw" (40 : Nat) ({ cls := "WheelRideModel", name := "wheel", desc := "()I" } : Jvm.MethodName)),
  (Jvm.Cond.instanceMethod ({ cls := "WheelRideModel", name := "wheel", desc := "()I" } : Jvm.MethodName)),
  (Jvm.Cond.selects "WheelRideModel" ({ cls := "WheelRideModel", name := "wheel", desc := "()I" } : Jvm.MethodName) ({ cls := "WheelRideModel", name := "wheel", desc := "()I" } : Jvm.MethodName)),
  (Jvm.Cond.code ({ cls := "WheelRideModel", name := "wheel", desc := "()I" } : Jvm.MethodName) prog_14_method_26_code (2 : Nat) (Option.some Jvm.ClassFile.FieldType.int)),
  (Jvm.Cond.methodLink "WheelRideModel" (144 : Nat) ({ cls := "WheelRideModel", name := "readWheel", desc := "()V" } : Jvm.MethodName)),
  (Jvm.Cond.privateMethod ({ cls := "WheelRideModel", name := "readWheel", desc := "()V" } : Jvm.MethodName)),
  (Jvm.Cond.instanceMethod ({ cls := "WheelRideModel", name := "readWheel", desc := "()V" } : Jvm.MethodName)),
  (Jvm.Cond.code ({ cls := "WheelRideModel", name := "readWheel", desc := "()V" } : Jvm.MethodName) prog_14_method_25_code (1 : Nat) (Option.none : Option Jvm.ClassFile.FieldType)),
  (Jvm.Cond.methodLink "WheelRideModel" (138 : Nat) ({ cls := "WheelRideModel", name := "sign", desc := "(I)V" } : Jvm.MethodName)),
  (Jvm.Cond.privateMethod ({ cls := "WheelRideModel", name := "sign", desc := "(I)V" } : Jvm.MethodName)),
  (Jvm.Cond.instanceMethod ({ cls := "WheelRideModel", name := "sign", desc := "(I)V" } : Jvm.MethodName)),
  (Jvm.Cond.code ({ cls := "WheelRideModel", name := "sign", desc := "(I)V" } : Jvm.MethodName) prog_14_method_20_code (2 : Nat) (Option.none : Option Jvm.ClassFile.FieldType)),
  (Jvm.Cond.methodLink "WheelRideModel" (118 : Nat) ({ cls := "WheelRideModel", name := "here", desc := "()I" } : Jvm.MethodName)),
  (Jvm.Cond.privateMethod ({ cls := "WheelRideModel", name := "here", desc := "()I" } : Jvm.MethodName)),
  (Jvm.Cond.instanceMethod ({ cls := "WheelRideModel", name := "here", desc := "()I" } : Jvm.MethodName)),
  (Jvm.Cond.code ({ cls := "WheelRideModel", name := "here", desc := "()I" } : Jvm.MethodName) prog_14_method_18_code (1 : Nat) (Option.some Jvm.ClassFile.FieldType.int)),
  (Jvm.Cond.methodLink "WheelRideModel" (122 : Nat) ({ cls := "WheelRideModel", name := "fails", desc := "(I)V" } : Jvm.MethodName)),
  (Jvm.Cond.privateMethod ({ cls := "WheelRideModel", name := "fails", desc := "(I)V" } : Jvm.MethodName)),
  (Jvm.Cond.instanceMethod ({ cls := "WheelRideModel", name := "fails", desc := "(I)V" } : Jvm.MethodName))]
def am_t29 : List Jvm.Cond := [(Jvm.Cond.code ({ cls := "WheelRideModel", name := "fails", desc := "(I)V" } : Jvm.MethodName) prog_14_method_19_code (2 : Nat) (Option.none : Option Jvm.ClassFile.FieldType)),
  (Jvm.Cond.methodLink "WheelRideModel" (135 : Nat) ({ cls := "WheelRideModel", name := "number", desc := "(II)I" } : Jvm.MethodName)),
  (Jvm.Cond.privateMethod ({ cls := "WheelRideModel", name := "number", desc := "(II)I" } : Jvm.MethodName)),
  (Jvm.Cond.instanceMethod ({ cls := "WheelRideModel", name := "number", desc := "(II)I" } : Jvm.MethodName)),
  (Jvm.Cond.code ({ cls := "WheelRideModel", name := "number", desc := "(II)I" } : Jvm.MethodName) prog_14_method_22_code (5 : Nat) (Option.some Jvm.ClassFile.FieldType.int)),
  (Jvm.Cond.methodLink "WheelRideModel" (126 : Nat) ({ cls := "WheelRideModel", name := "figures", desc := "()I" } : Jvm.MethodName)),
  (Jvm.Cond.privateMethod ({ cls := "WheelRideModel", name := "figures", desc := "()I" } : Jvm.MethodName)),
  (Jvm.Cond.instanceMethod ({ cls := "WheelRideModel", name := "figures", desc := "()I" } : Jvm.MethodName)),
  (Jvm.Cond.code ({ cls := "WheelRideModel", name := "figures", desc := "()I" } : Jvm.MethodName) prog_14_method_21_code (2 : Nat) (Option.some Jvm.ClassFile.FieldType.int)),
  (Jvm.Cond.methodLink "WheelRideModel" (141 : Nat) ({ cls := "WheelRideModel", name := "readParty", desc := "()V" } : Jvm.MethodName)),
  (Jvm.Cond.privateMethod ({ cls := "WheelRideModel", name := "readParty", desc := "()V" } : Jvm.MethodName)),
  (Jvm.Cond.instanceMethod ({ cls := "WheelRideModel", name := "readParty", desc := "()V" } : Jvm.MethodName)),
  (Jvm.Cond.code ({ cls := "WheelRideModel", name := "readParty", desc := "()V" } : Jvm.MethodName) prog_14_method_24_code (2 : Nat) (Option.none : Option Jvm.ClassFile.FieldType)),
  (Jvm.Cond.methodLink "WheelRideModel" (129 : Nat) ({ cls := "WheelRideModel", name := "sortBy", desc := "(I)I" } : Jvm.MethodName)),
  (Jvm.Cond.static ({ cls := "WheelRideModel", name := "sortBy", desc := "(I)I" } : Jvm.MethodName)),
  (Jvm.Cond.code ({ cls := "WheelRideModel", name := "sortBy", desc := "(I)I" } : Jvm.MethodName) prog_14_method_23_code (1 : Nat) (Option.some Jvm.ClassFile.FieldType.int)),
  (Jvm.Cond.constant "WheelRideModel" (150 : Nat) (-1000100 : Int32)),
  (Jvm.Cond.methodLink "WheelRideModel" (151 : Nat) ({ cls := "WheelRideModel", name := "bring", desc := "([II[III)V" } : Jvm.MethodName)),
  (Jvm.Cond.static ({ cls := "WheelRideModel", name := "bring", desc := "([II[III)V" } : Jvm.MethodName)),
  (Jvm.Cond.code ({ cls := "WheelRideModel", name := "bring", desc := "([II[III)V" } : Jvm.MethodName) prog_14_method_4_code (6 : Nat) (Option.none : Option Jvm.ClassFile.FieldType)),
  (Jvm.Cond.constant "WheelRideModel" (155 : Nat) (-1000000 : Int32)),
  (Jvm.Cond.methodLink "WheelRideLaw" (44 : Nat) ({ cls := "WheelRideModel", name := "fault", desc := "()I" } : Jvm.MethodName)),
  (Jvm.Cond.instanceMethod ({ cls := "WheelRideModel", name := "fault", desc := "()I" } : Jvm.MethodName)),
  (Jvm.Cond.selects "WheelRideModel" ({ cls := "WheelRideModel", name := "fault", desc := "()I" } : Jvm.MethodName) ({ cls := "WheelRideModel", name := "fault", desc := "()I" } : Jvm.MethodName)),
  (Jvm.Cond.code ({ cls := "WheelRideModel", name := "fault", desc := "()I" } : Jvm.MethodName) prog_14_method_27_code (1 : Nat) (Option.some Jvm.ClassFile.FieldType.int)),
  (Jvm.Cond.methodLink "WheelRideLaw" (48 : Nat) ({ cls := "WheelRideModel", name := "undo", desc := "()I" } : Jvm.MethodName)),
  (Jvm.Cond.instanceMethod ({ cls := "WheelRideModel", name := "undo", desc := "()I" } : Jvm.MethodName)),
  (Jvm.Cond.selects "WheelRideModel" ({ cls := "WheelRideModel", name := "undo", desc := "()I" } : Jvm.MethodName) ({ cls := "WheelRideModel", name := "undo", desc := "()I" } : Jvm.MethodName)),
  (Jvm.Cond.code ({ cls := "WheelRideModel", name := "undo", desc := "()I" } : Jvm.MethodName) prog_14_method_40_code (1 : Nat) (Option.some Jvm.ClassFile.FieldType.int)),
  (Jvm.Cond.constant "WheelRideModel" (193 : Nat) (-1000002 : Int32)),
  (Jvm.Cond.methodLink "WheelRideLaw" (52 : Nat) ({ cls := "WheelRideModel", name := "steps", desc := "(I)I" } : Jvm.MethodName)),
  (Jvm.Cond.instanceMethod ({ cls := "WheelRideModel", name := "steps", desc := "(I)I" } : Jvm.MethodName)),
  (Jvm.Cond.selects "WheelRideModel" ({ cls := "WheelRideModel", name := "steps", desc := "(I)I" } : Jvm.MethodName) ({ cls := "WheelRideModel", name := "steps", desc := "(I)I" } : Jvm.MethodName)),
  (Jvm.Cond.code ({ cls := "WheelRideModel", name := "steps", desc := "(I)I" } : Jvm.MethodName) prog_14_method_41_code (3 : Nat) (Option.some Jvm.ClassFile.FieldType.int)),
  (Jvm.Cond.methodLink "WheelRideModel" (194 : Nat) ({ cls := "WheelRideModel", name := "isNone", desc := "()Z" } : Jvm.MethodName)),
  (Jvm.Cond.privateMethod ({ cls := "WheelRideModel", name := "isNone", desc := "()Z" } : Jvm.MethodName)),
  (Jvm.Cond.instanceMethod ({ cls := "WheelRideModel", name := "isNone", desc := "()Z" } : Jvm.MethodName)),
  (Jvm.Cond.code ({ cls := "WheelRideModel", name := "isNone", desc := "()Z" } : Jvm.MethodName) prog_14_method_10_code (1 : Nat) (Option.some Jvm.ClassFile.FieldType.boolean)),
  (Jvm.Cond.methodLink "WheelRideModel" (198 : Nat) ({ cls := "WheelRideModel", name := "notes", desc := "()V" } : Jvm.MethodName)),
  (Jvm.Cond.privateMethod ({ cls := "WheelRideModel", name := "notes", desc := "()V" } : Jvm.MethodName))]
def am_t30 : List Jvm.Cond := [(Jvm.Cond.instanceMethod ({ cls := "WheelRideModel", name := "notes", desc := "()V" } : Jvm.MethodName)),
  (Jvm.Cond.code ({ cls := "WheelRideModel", name := "notes", desc := "()V" } : Jvm.MethodName) prog_14_method_39_code (1 : Nat) (Option.none : Option Jvm.ClassFile.FieldType)),
  (Jvm.Cond.methodLink "WheelRideModel" (201 : Nat) ({ cls := "WheelRideModel", name := "stepOn", desc := "([I)I" } : Jvm.MethodName)),
  (Jvm.Cond.privateMethod ({ cls := "WheelRideModel", name := "stepOn", desc := "([I)I" } : Jvm.MethodName)),
  (Jvm.Cond.instanceMethod ({ cls := "WheelRideModel", name := "stepOn", desc := "([I)I" } : Jvm.MethodName)),
  (Jvm.Cond.code ({ cls := "WheelRideModel", name := "stepOn", desc := "([I)I" } : Jvm.MethodName) prog_14_method_38_code (6 : Nat) (Option.some Jvm.ClassFile.FieldType.int)),
  (Jvm.Cond.methodLink "WheelRideModel" (175 : Nat) ({ cls := "WheelRideModel", name := "partyIn", desc := "([II)I" } : Jvm.MethodName)),
  (Jvm.Cond.privateMethod ({ cls := "WheelRideModel", name := "partyIn", desc := "([II)I" } : Jvm.MethodName)),
  (Jvm.Cond.instanceMethod ({ cls := "WheelRideModel", name := "partyIn", desc := "([II)I" } : Jvm.MethodName)),
  (Jvm.Cond.code ({ cls := "WheelRideModel", name := "partyIn", desc := "([II)I" } : Jvm.MethodName) prog_14_method_32_code (5 : Nat) (Option.some Jvm.ClassFile.FieldType.int)),
  (Jvm.Cond.methodLink "WheelRideModel" (178 : Nat) ({ cls := "WheelRideModel", name := "isDone", desc := "([II)Z" } : Jvm.MethodName)),
  (Jvm.Cond.privateMethod ({ cls := "WheelRideModel", name := "isDone", desc := "([II)Z" } : Jvm.MethodName)),
  (Jvm.Cond.instanceMethod ({ cls := "WheelRideModel", name := "isDone", desc := "([II)Z" } : Jvm.MethodName)),
  (Jvm.Cond.code ({ cls := "WheelRideModel", name := "isDone", desc := "([II)Z" } : Jvm.MethodName) prog_14_method_34_code (4 : Nat) (Option.some Jvm.ClassFile.FieldType.boolean)),
  (Jvm.Cond.methodLink "WheelRideModel" (168 : Nat) ({ cls := "WheelRideModel", name := "those", desc := "([II)I" } : Jvm.MethodName)),
  (Jvm.Cond.privateMethod ({ cls := "WheelRideModel", name := "those", desc := "([II)I" } : Jvm.MethodName)),
  (Jvm.Cond.instanceMethod ({ cls := "WheelRideModel", name := "those", desc := "([II)I" } : Jvm.MethodName)),
  (Jvm.Cond.code ({ cls := "WheelRideModel", name := "those", desc := "([II)I" } : Jvm.MethodName) prog_14_method_33_code (5 : Nat) (Option.some Jvm.ClassFile.FieldType.int)),
  (Jvm.Cond.methodLink "WheelRideModel" (172 : Nat) ({ cls := "WheelRideModel", name := "leanBy", desc := "([II)I" } : Jvm.MethodName)),
  (Jvm.Cond.privateMethod ({ cls := "WheelRideModel", name := "leanBy", desc := "([II)I" } : Jvm.MethodName)),
  (Jvm.Cond.instanceMethod ({ cls := "WheelRideModel", name := "leanBy", desc := "([II)I" } : Jvm.MethodName)),
  (Jvm.Cond.code ({ cls := "WheelRideModel", name := "leanBy", desc := "([II)I" } : Jvm.MethodName) prog_14_method_30_code (5 : Nat) (Option.some Jvm.ClassFile.FieldType.int)),
  (Jvm.Cond.methodLink "WheelRideModel" (159 : Nat) ({ cls := "WheelRideModel", name := "placeOf", desc := "(II)I" } : Jvm.MethodName)),
  (Jvm.Cond.privateMethod ({ cls := "WheelRideModel", name := "placeOf", desc := "(II)I" } : Jvm.MethodName)),
  (Jvm.Cond.instanceMethod ({ cls := "WheelRideModel", name := "placeOf", desc := "(II)I" } : Jvm.MethodName)),
  (Jvm.Cond.code ({ cls := "WheelRideModel", name := "placeOf", desc := "(II)I" } : Jvm.MethodName) prog_14_method_29_code (3 : Nat) (Option.some Jvm.ClassFile.FieldType.int)),
  (Jvm.Cond.methodLink "WheelRideModel" (162 : Nat) ({ cls := "WheelRideModel", name := "pull", desc := "(I)I" } : Jvm.MethodName)),
  (Jvm.Cond.privateMethod ({ cls := "WheelRideModel", name := "pull", desc := "(I)I" } : Jvm.MethodName)),
  (Jvm.Cond.instanceMethod ({ cls := "WheelRideModel", name := "pull", desc := "(I)I" } : Jvm.MethodName)),
  (Jvm.Cond.code ({ cls := "WheelRideModel", name := "pull", desc := "(I)I" } : Jvm.MethodName) prog_14_method_28_code (3 : Nat) (Option.some Jvm.ClassFile.FieldType.int)),
  (Jvm.Cond.methodLink "WheelRideModel" (165 : Nat) ({ cls := "WheelRideModel", name := "off", desc := "(I)I" } : Jvm.MethodName)),
  (Jvm.Cond.static ({ cls := "WheelRideModel", name := "off", desc := "(I)I" } : Jvm.MethodName)),
  (Jvm.Cond.code ({ cls := "WheelRideModel", name := "off", desc := "(I)I" } : Jvm.MethodName) prog_14_method_5_code (1 : Nat) (Option.some Jvm.ClassFile.FieldType.int)),
  (Jvm.Cond.methodLink "WheelRideModel" (182 : Nat) ({ cls := "WheelRideModel", name := "nextWaiting", desc := "([I)I" } : Jvm.MethodName)),
  (Jvm.Cond.privateMethod ({ cls := "WheelRideModel", name := "nextWaiting", desc := "([I)I" } : Jvm.MethodName)),
  (Jvm.Cond.instanceMethod ({ cls := "WheelRideModel", name := "nextWaiting", desc := "([I)I" } : Jvm.MethodName)),
  (Jvm.Cond.code ({ cls := "WheelRideModel", name := "nextWaiting", desc := "([I)I" } : Jvm.MethodName) prog_14_method_36_code (3 : Nat) (Option.some Jvm.ClassFile.FieldType.int)),
  (Jvm.Cond.methodLink "WheelRideModel" (186 : Nat) ({ cls := "WheelRideModel", name := "loses", desc := "([I)V" } : Jvm.MethodName)),
  (Jvm.Cond.privateMethod ({ cls := "WheelRideModel", name := "loses", desc := "([I)V" } : Jvm.MethodName)),
  (Jvm.Cond.instanceMethod ({ cls := "WheelRideModel", name := "loses", desc := "([I)V" } : Jvm.MethodName))]
def am_t31 : List Jvm.Cond := [(Jvm.Cond.code ({ cls := "WheelRideModel", name := "loses", desc := "([I)V" } : Jvm.MethodName) prog_14_method_37_code (4 : Nat) (Option.none : Option Jvm.ClassFile.FieldType)),
  (Jvm.Cond.methodLink "WheelRideModel" (190 : Nat) ({ cls := "WheelRideModel", name := "isBalance", desc := "([II)Z" } : Jvm.MethodName)),
  (Jvm.Cond.privateMethod ({ cls := "WheelRideModel", name := "isBalance", desc := "([II)Z" } : Jvm.MethodName)),
  (Jvm.Cond.instanceMethod ({ cls := "WheelRideModel", name := "isBalance", desc := "([II)Z" } : Jvm.MethodName)),
  (Jvm.Cond.code ({ cls := "WheelRideModel", name := "isBalance", desc := "([II)Z" } : Jvm.MethodName) prog_14_method_31_code (3 : Nat) (Option.some Jvm.ClassFile.FieldType.boolean)),
  (Jvm.Cond.methodLink "WheelRideLaw" (56 : Nat) ({ cls := "WheelRideModel", name := "turnTo", desc := "(I)I" } : Jvm.MethodName)),
  (Jvm.Cond.instanceMethod ({ cls := "WheelRideModel", name := "turnTo", desc := "(I)I" } : Jvm.MethodName)),
  (Jvm.Cond.selects "WheelRideModel" ({ cls := "WheelRideModel", name := "turnTo", desc := "(I)I" } : Jvm.MethodName) ({ cls := "WheelRideModel", name := "turnTo", desc := "(I)I" } : Jvm.MethodName)),
  (Jvm.Cond.code ({ cls := "WheelRideModel", name := "turnTo", desc := "(I)I" } : Jvm.MethodName) prog_14_method_42_code (3 : Nat) (Option.some Jvm.ClassFile.FieldType.int)),
  (Jvm.Cond.methodLink "WheelRideModel" (204 : Nat) ({ cls := "WheelRideModel", name := "isGondola", desc := "(I)Z" } : Jvm.MethodName)),
  (Jvm.Cond.privateMethod ({ cls := "WheelRideModel", name := "isGondola", desc := "(I)Z" } : Jvm.MethodName)),
  (Jvm.Cond.instanceMethod ({ cls := "WheelRideModel", name := "isGondola", desc := "(I)Z" } : Jvm.MethodName)),
  (Jvm.Cond.code ({ cls := "WheelRideModel", name := "isGondola", desc := "(I)Z" } : Jvm.MethodName) prog_14_method_9_code (2 : Nat) (Option.some Jvm.ClassFile.FieldType.boolean)),
  (Jvm.Cond.methodLink "WheelRideLaw" (61 : Nat) ({ cls := "WheelRideModel", name := "ballast", desc := "(II)I" } : Jvm.MethodName)),
  (Jvm.Cond.instanceMethod ({ cls := "WheelRideModel", name := "ballast", desc := "(II)I" } : Jvm.MethodName)),
  (Jvm.Cond.selects "WheelRideModel" ({ cls := "WheelRideModel", name := "ballast", desc := "(II)I" } : Jvm.MethodName) ({ cls := "WheelRideModel", name := "ballast", desc := "(II)I" } : Jvm.MethodName)),
  (Jvm.Cond.code ({ cls := "WheelRideModel", name := "ballast", desc := "(II)I" } : Jvm.MethodName) prog_14_method_43_code (4 : Nat) (Option.some Jvm.ClassFile.FieldType.int)),
  (Jvm.Cond.methodLink "WheelRideLaw" (65 : Nat) ({ cls := "WheelRideModel", name := "limit", desc := "(I)I" } : Jvm.MethodName)),
  (Jvm.Cond.instanceMethod ({ cls := "WheelRideModel", name := "limit", desc := "(I)I" } : Jvm.MethodName)),
  (Jvm.Cond.selects "WheelRideModel" ({ cls := "WheelRideModel", name := "limit", desc := "(I)I" } : Jvm.MethodName) ({ cls := "WheelRideModel", name := "limit", desc := "(I)I" } : Jvm.MethodName)),
  (Jvm.Cond.code ({ cls := "WheelRideModel", name := "limit", desc := "(I)I" } : Jvm.MethodName) prog_14_method_44_code (3 : Nat) (Option.some Jvm.ClassFile.FieldType.int)),
  (Jvm.Cond.methodLink "WheelRideLaw" (69 : Nat) ({ cls := "WheelRideModel", name := "again", desc := "(I)I" } : Jvm.MethodName)),
  (Jvm.Cond.instanceMethod ({ cls := "WheelRideModel", name := "again", desc := "(I)I" } : Jvm.MethodName)),
  (Jvm.Cond.selects "WheelRideModel" ({ cls := "WheelRideModel", name := "again", desc := "(I)I" } : Jvm.MethodName) ({ cls := "WheelRideModel", name := "again", desc := "(I)I" } : Jvm.MethodName)),
  (Jvm.Cond.code ({ cls := "WheelRideModel", name := "again", desc := "(I)I" } : Jvm.MethodName) prog_14_method_46_code (2 : Nat) (Option.some Jvm.ClassFile.FieldType.int)),
  (Jvm.Cond.methodLink "WheelRideModel" (207 : Nat) ({ cls := "WheelRideModel", name := "isParty", desc := "(I)Z" } : Jvm.MethodName)),
  (Jvm.Cond.privateMethod ({ cls := "WheelRideModel", name := "isParty", desc := "(I)Z" } : Jvm.MethodName)),
  (Jvm.Cond.instanceMethod ({ cls := "WheelRideModel", name := "isParty", desc := "(I)Z" } : Jvm.MethodName)),
  (Jvm.Cond.code ({ cls := "WheelRideModel", name := "isParty", desc := "(I)Z" } : Jvm.MethodName) prog_14_method_8_code (2 : Nat) (Option.some Jvm.ClassFile.FieldType.boolean)),
  (Jvm.Cond.methodLink "WheelRideModel" (210 : Nat) ({ cls := "WheelRideModel", name := "comes", desc := "([II)V" } : Jvm.MethodName)),
  (Jvm.Cond.static ({ cls := "WheelRideModel", name := "comes", desc := "([II)V" } : Jvm.MethodName)),
  (Jvm.Cond.code ({ cls := "WheelRideModel", name := "comes", desc := "([II)V" } : Jvm.MethodName) prog_14_method_45_code (2 : Nat) (Option.none : Option Jvm.ClassFile.FieldType)),
  (Jvm.Cond.methodLink "WheelRideLaw" (73 : Nat) ({ cls := "WheelRideModel", name := "party", desc := "(II)I" } : Jvm.MethodName)),
  (Jvm.Cond.instanceMethod ({ cls := "WheelRideModel", name := "party", desc := "(II)I" } : Jvm.MethodName)),
  (Jvm.Cond.selects "WheelRideModel" ({ cls := "WheelRideModel", name := "party", desc := "(II)I" } : Jvm.MethodName) ({ cls := "WheelRideModel", name := "party", desc := "(II)I" } : Jvm.MethodName)),
  (Jvm.Cond.code ({ cls := "WheelRideModel", name := "party", desc := "(II)I" } : Jvm.MethodName) prog_14_method_47_code (3 : Nat) (Option.some Jvm.ClassFile.FieldType.int)),
  (Jvm.Cond.methodLink "WheelRideLaw" (77 : Nat) ({ cls := "WheelRideModel", name := "gondola", desc := "(II)I" } : Jvm.MethodName)),
  (Jvm.Cond.instanceMethod ({ cls := "WheelRideModel", name := "gondola", desc := "(II)I" } : Jvm.MethodName)),
  (Jvm.Cond.selects "WheelRideModel" ({ cls := "WheelRideModel", name := "gondola", desc := "(II)I" } : Jvm.MethodName) ({ cls := "WheelRideModel", name := "gondola", desc := "(II)I" } : Jvm.MethodName)),
  (Jvm.Cond.code ({ cls := "WheelRideModel", name := "gondola", desc := "(II)I" } : Jvm.MethodName) prog_14_method_48_code (5 : Nat) (Option.some Jvm.ClassFile.FieldType.int))]
def am_t32 : List Jvm.Cond := [(Jvm.Cond.methodLink "WheelRideLaw" (81 : Nat) ({ cls := "WheelRideModel", name := "stand", desc := "(I)I" } : Jvm.MethodName)),
  (Jvm.Cond.instanceMethod ({ cls := "WheelRideModel", name := "stand", desc := "(I)I" } : Jvm.MethodName)),
  (Jvm.Cond.selects "WheelRideModel" ({ cls := "WheelRideModel", name := "stand", desc := "(I)I" } : Jvm.MethodName) ({ cls := "WheelRideModel", name := "stand", desc := "(I)I" } : Jvm.MethodName)),
  (Jvm.Cond.code ({ cls := "WheelRideModel", name := "stand", desc := "(I)I" } : Jvm.MethodName) prog_14_method_49_code (3 : Nat) (Option.some Jvm.ClassFile.FieldType.int)),
  (Jvm.Cond.methodLink "WheelRideLaw" (85 : Nat) ({ cls := "WheelRideModel", name := "ahead", desc := "(III)I" } : Jvm.MethodName)),
  (Jvm.Cond.instanceMethod ({ cls := "WheelRideModel", name := "ahead", desc := "(III)I" } : Jvm.MethodName)),
  (Jvm.Cond.selects "WheelRideModel" ({ cls := "WheelRideModel", name := "ahead", desc := "(III)I" } : Jvm.MethodName) ({ cls := "WheelRideModel", name := "ahead", desc := "(III)I" } : Jvm.MethodName)),
  (Jvm.Cond.code ({ cls := "WheelRideModel", name := "ahead", desc := "(III)I" } : Jvm.MethodName) prog_14_method_54_code (4 : Nat) (Option.some Jvm.ClassFile.FieldType.int)),
  (Jvm.Cond.methodLink "WheelRideModel" (214 : Nat) ({ cls := "WheelRideModel", name := "asItIs", desc := "()V" } : Jvm.MethodName)),
  (Jvm.Cond.privateMethod ({ cls := "WheelRideModel", name := "asItIs", desc := "()V" } : Jvm.MethodName)),
  (Jvm.Cond.instanceMethod ({ cls := "WheelRideModel", name := "asItIs", desc := "()V" } : Jvm.MethodName)),
  (Jvm.Cond.code ({ cls := "WheelRideModel", name := "asItIs", desc := "()V" } : Jvm.MethodName) prog_14_method_50_code (1 : Nat) (Option.none : Option Jvm.ClassFile.FieldType)),
  (Jvm.Cond.methodLink "WheelRideModel" (217 : Nat) ({ cls := "WheelRideModel", name := "goes", desc := "(I)I" } : Jvm.MethodName)),
  (Jvm.Cond.privateMethod ({ cls := "WheelRideModel", name := "goes", desc := "(I)I" } : Jvm.MethodName)),
  (Jvm.Cond.instanceMethod ({ cls := "WheelRideModel", name := "goes", desc := "(I)I" } : Jvm.MethodName)),
  (Jvm.Cond.code ({ cls := "WheelRideModel", name := "goes", desc := "(I)I" } : Jvm.MethodName) prog_14_method_51_code (4 : Nat) (Option.some Jvm.ClassFile.FieldType.int)),
  (Jvm.Cond.methodLink "WheelRideLaw" (89 : Nat) ({ cls := "WheelRideModel", name := "leans", desc := "(I)I" } : Jvm.MethodName)),
  (Jvm.Cond.instanceMethod ({ cls := "WheelRideModel", name := "leans", desc := "(I)I" } : Jvm.MethodName)),
  (Jvm.Cond.selects "WheelRideModel" ({ cls := "WheelRideModel", name := "leans", desc := "(I)I" } : Jvm.MethodName) ({ cls := "WheelRideModel", name := "leans", desc := "(I)I" } : Jvm.MethodName)),
  (Jvm.Cond.code ({ cls := "WheelRideModel", name := "leans", desc := "(I)I" } : Jvm.MethodName) prog_14_method_55_code (2 : Nat) (Option.some Jvm.ClassFile.FieldType.int)),
  (Jvm.Cond.methodLink "WheelRideLaw" (93 : Nat) ({ cls := "WheelRideModel", name := "when", desc := "(II)I" } : Jvm.MethodName)),
  (Jvm.Cond.instanceMethod ({ cls := "WheelRideModel", name := "when", desc := "(II)I" } : Jvm.MethodName)),
  (Jvm.Cond.selects "WheelRideModel" ({ cls := "WheelRideModel", name := "when", desc := "(II)I" } : Jvm.MethodName) ({ cls := "WheelRideModel", name := "when", desc := "(II)I" } : Jvm.MethodName)),
  (Jvm.Cond.code ({ cls := "WheelRideModel", name := "when", desc := "(II)I" } : Jvm.MethodName) prog_14_method_56_code (4 : Nat) (Option.some Jvm.ClassFile.FieldType.int)),
  (Jvm.Cond.methodLink "WheelRideLaw" (97 : Nat) ({ cls := "WheelRideModel", name := "first", desc := "(I)I" } : Jvm.MethodName)),
  (Jvm.Cond.instanceMethod ({ cls := "WheelRideModel", name := "first", desc := "(I)I" } : Jvm.MethodName)),
  (Jvm.Cond.selects "WheelRideModel" ({ cls := "WheelRideModel", name := "first", desc := "(I)I" } : Jvm.MethodName) ({ cls := "WheelRideModel", name := "first", desc := "(I)I" } : Jvm.MethodName)),
  (Jvm.Cond.code ({ cls := "WheelRideModel", name := "first", desc := "(I)I" } : Jvm.MethodName) prog_14_method_57_code (3 : Nat) (Option.some Jvm.ClassFile.FieldType.int)),
  (Jvm.Cond.methodLink "WheelRideLaw" (101 : Nat) ({ cls := "WheelRideModel", name := "order", desc := "(II)I" } : Jvm.MethodName)),
  (Jvm.Cond.instanceMethod ({ cls := "WheelRideModel", name := "order", desc := "(II)I" } : Jvm.MethodName)),
  (Jvm.Cond.selects "WheelRideModel" ({ cls := "WheelRideModel", name := "order", desc := "(II)I" } : Jvm.MethodName) ({ cls := "WheelRideModel", name := "order", desc := "(II)I" } : Jvm.MethodName)),
  (Jvm.Cond.code ({ cls := "WheelRideModel", name := "order", desc := "(II)I" } : Jvm.MethodName) prog_14_method_59_code (8 : Nat) (Option.some Jvm.ClassFile.FieldType.int)),
  (Jvm.Cond.methodLink "WheelRideModel" (220 : Nat) ({ cls := "WheelRideModel", name := "bits", desc := "(I)I" } : Jvm.MethodName)),
  (Jvm.Cond.static ({ cls := "WheelRideModel", name := "bits", desc := "(I)I" } : Jvm.MethodName)),
  (Jvm.Cond.code ({ cls := "WheelRideModel", name := "bits", desc := "(I)I" } : Jvm.MethodName) prog_14_method_53_code (3 : Nat) (Option.some Jvm.ClassFile.FieldType.int)),
  (Jvm.Cond.methodLink "WheelRideModel" (223 : Nat) ({ cls := "WheelRideModel", name := "riddenOf", desc := "([I)I" } : Jvm.MethodName)),
  (Jvm.Cond.privateMethod ({ cls := "WheelRideModel", name := "riddenOf", desc := "([I)I" } : Jvm.MethodName)),
  (Jvm.Cond.instanceMethod ({ cls := "WheelRideModel", name := "riddenOf", desc := "([I)I" } : Jvm.MethodName)),
  (Jvm.Cond.code ({ cls := "WheelRideModel", name := "riddenOf", desc := "([I)I" } : Jvm.MethodName) prog_14_method_52_code (4 : Nat) (Option.some Jvm.ClassFile.FieldType.int)),
  (Jvm.Cond.methodLink "WheelRideModel" (226 : Nat) ({ cls := "WheelRideModel", name := "nextOrder", desc := "()Z" } : Jvm.MethodName))]
def am_t33 : List Jvm.Cond := [(Jvm.Cond.privateMethod ({ cls := "WheelRideModel", name := "nextOrder", desc := "()Z" } : Jvm.MethodName)),
  (Jvm.Cond.instanceMethod ({ cls := "WheelRideModel", name := "nextOrder", desc := "()Z" } : Jvm.MethodName)),
  (Jvm.Cond.code ({ cls := "WheelRideModel", name := "nextOrder", desc := "()Z" } : Jvm.MethodName) prog_14_method_58_code (6 : Nat) (Option.some Jvm.ClassFile.FieldType.boolean)),
  (Jvm.Cond.methodLink "WheelRideLaw" (105 : Nat) ({ cls := "WheelRideModel", name := "load", desc := "(II)I" } : Jvm.MethodName)),
  (Jvm.Cond.instanceMethod ({ cls := "WheelRideModel", name := "load", desc := "(II)I" } : Jvm.MethodName)),
  (Jvm.Cond.selects "WheelRideModel" ({ cls := "WheelRideModel", name := "load", desc := "(II)I" } : Jvm.MethodName) ({ cls := "WheelRideModel", name := "load", desc := "(II)I" } : Jvm.MethodName)),
  (Jvm.Cond.code ({ cls := "WheelRideModel", name := "load", desc := "(II)I" } : Jvm.MethodName) prog_14_method_60_code (9 : Nat) (Option.some Jvm.ClassFile.FieldType.int)),
  (Jvm.Cond.methodLink "WheelRideLaw" (109 : Nat) ({ cls := "WheelRideModel", name := "bear", desc := "(I)I" } : Jvm.MethodName)),
  (Jvm.Cond.instanceMethod ({ cls := "WheelRideModel", name := "bear", desc := "(I)I" } : Jvm.MethodName)),
  (Jvm.Cond.selects "WheelRideModel" ({ cls := "WheelRideModel", name := "bear", desc := "(I)I" } : Jvm.MethodName) ({ cls := "WheelRideModel", name := "bear", desc := "(I)I" } : Jvm.MethodName)),
  (Jvm.Cond.code ({ cls := "WheelRideModel", name := "bear", desc := "(I)I" } : Jvm.MethodName) prog_14_method_61_code (3 : Nat) (Option.some Jvm.ClassFile.FieldType.int)),
  (Jvm.Cond.methodLink "WheelRideLaw" (113 : Nat) ({ cls := "WheelRideModel", name := "sets", desc := "(II)I" } : Jvm.MethodName)),
  (Jvm.Cond.instanceMethod ({ cls := "WheelRideModel", name := "sets", desc := "(II)I" } : Jvm.MethodName)),
  (Jvm.Cond.selects "WheelRideModel" ({ cls := "WheelRideModel", name := "sets", desc := "(II)I" } : Jvm.MethodName) ({ cls := "WheelRideModel", name := "sets", desc := "(II)I" } : Jvm.MethodName)),
  (Jvm.Cond.code ({ cls := "WheelRideModel", name := "sets", desc := "(II)I" } : Jvm.MethodName) prog_14_method_63_code (8 : Nat) (Option.some Jvm.ClassFile.FieldType.int)),
  (Jvm.Cond.methodLink "WheelRideModel" (229 : Nat) ({ cls := "WheelRideModel", name := "weightOf", desc := "(I)I" } : Jvm.MethodName)),
  (Jvm.Cond.privateMethod ({ cls := "WheelRideModel", name := "weightOf", desc := "(I)I" } : Jvm.MethodName)),
  (Jvm.Cond.instanceMethod ({ cls := "WheelRideModel", name := "weightOf", desc := "(I)I" } : Jvm.MethodName)),
  (Jvm.Cond.code ({ cls := "WheelRideModel", name := "weightOf", desc := "(I)I" } : Jvm.MethodName) prog_14_method_62_code (4 : Nat) (Option.some Jvm.ClassFile.FieldType.int)),
  (Jvm.Cond.methodLink "WheelRideLaw" (117 : Nat) ({ cls := "WheelRideModel", name := "share", desc := "(II)I" } : Jvm.MethodName)),
  (Jvm.Cond.instanceMethod ({ cls := "WheelRideModel", name := "share", desc := "(II)I" } : Jvm.MethodName)),
  (Jvm.Cond.selects "WheelRideModel" ({ cls := "WheelRideModel", name := "share", desc := "(II)I" } : Jvm.MethodName) ({ cls := "WheelRideModel", name := "share", desc := "(II)I" } : Jvm.MethodName)),
  (Jvm.Cond.code ({ cls := "WheelRideModel", name := "share", desc := "(II)I" } : Jvm.MethodName) prog_14_method_65_code (7 : Nat) (Option.some Jvm.ClassFile.FieldType.int)),
  (Jvm.Cond.methodLink "WheelRideModel" (232 : Nat) ({ cls := "WheelRideModel", name := "sharesOf", desc := "(III)I" } : Jvm.MethodName)),
  (Jvm.Cond.privateMethod ({ cls := "WheelRideModel", name := "sharesOf", desc := "(III)I" } : Jvm.MethodName)),
  (Jvm.Cond.instanceMethod ({ cls := "WheelRideModel", name := "sharesOf", desc := "(III)I" } : Jvm.MethodName)),
  (Jvm.Cond.code ({ cls := "WheelRideModel", name := "sharesOf", desc := "(III)I" } : Jvm.MethodName) prog_14_method_64_code (4 : Nat) (Option.some Jvm.ClassFile.FieldType.int)),
  (Jvm.Cond.methodLink "WheelRideLaw" (121 : Nat) ({ cls := "WheelRideModel", name := "byTurns", desc := "(II)I" } : Jvm.MethodName)),
  (Jvm.Cond.instanceMethod ({ cls := "WheelRideModel", name := "byTurns", desc := "(II)I" } : Jvm.MethodName)),
  (Jvm.Cond.selects "WheelRideModel" ({ cls := "WheelRideModel", name := "byTurns", desc := "(II)I" } : Jvm.MethodName) ({ cls := "WheelRideModel", name := "byTurns", desc := "(II)I" } : Jvm.MethodName)),
  (Jvm.Cond.code ({ cls := "WheelRideModel", name := "byTurns", desc := "(II)I" } : Jvm.MethodName) prog_14_method_67_code (7 : Nat) (Option.some Jvm.ClassFile.FieldType.int)),
  (Jvm.Cond.methodLink "WheelRideModel" (236 : Nat) ({ cls := "WheelRideModel", name := "worthOf", desc := "(III)I" } : Jvm.MethodName)),
  (Jvm.Cond.privateMethod ({ cls := "WheelRideModel", name := "worthOf", desc := "(III)I" } : Jvm.MethodName)),
  (Jvm.Cond.instanceMethod ({ cls := "WheelRideModel", name := "worthOf", desc := "(III)I" } : Jvm.MethodName)),
  (Jvm.Cond.code ({ cls := "WheelRideModel", name := "worthOf", desc := "(III)I" } : Jvm.MethodName) prog_14_method_66_code (7 : Nat) (Option.some Jvm.ClassFile.FieldType.int)),
  (Jvm.Cond.methodLink "WheelRideLaw" (125 : Nat) ({ cls := "WheelRideModel", name := "who", desc := "(IIIII)I" } : Jvm.MethodName)),
  (Jvm.Cond.instanceMethod ({ cls := "WheelRideModel", name := "who", desc := "(IIIII)I" } : Jvm.MethodName)),
  (Jvm.Cond.selects "WheelRideModel" ({ cls := "WheelRideModel", name := "who", desc := "(IIIII)I" } : Jvm.MethodName) ({ cls := "WheelRideModel", name := "who", desc := "(IIIII)I" } : Jvm.MethodName)),
  (Jvm.Cond.code ({ cls := "WheelRideModel", name := "who", desc := "(IIIII)I" } : Jvm.MethodName) prog_14_method_71_code (7 : Nat) (Option.some Jvm.ClassFile.FieldType.int)),
  (Jvm.Cond.methodLink "WheelRideModel" (242 : Nat) ({ cls := "WheelRideModel", name := "byRow", desc := "([IIIII)I" } : Jvm.MethodName))]
def am_t34 : List Jvm.Cond := [(Jvm.Cond.privateMethod ({ cls := "WheelRideModel", name := "byRow", desc := "([IIIII)I" } : Jvm.MethodName)),
  (Jvm.Cond.instanceMethod ({ cls := "WheelRideModel", name := "byRow", desc := "([IIIII)I" } : Jvm.MethodName)),
  (Jvm.Cond.code ({ cls := "WheelRideModel", name := "byRow", desc := "([IIIII)I" } : Jvm.MethodName) prog_14_method_69_code (9 : Nat) (Option.some Jvm.ClassFile.FieldType.int)),
  (Jvm.Cond.methodLink "WheelRideModel" (239 : Nat) ({ cls := "WheelRideModel", name := "isSo", desc := "(III)Z" } : Jvm.MethodName)),
  (Jvm.Cond.privateMethod ({ cls := "WheelRideModel", name := "isSo", desc := "(III)Z" } : Jvm.MethodName)),
  (Jvm.Cond.instanceMethod ({ cls := "WheelRideModel", name := "isSo", desc := "(III)Z" } : Jvm.MethodName)),
  (Jvm.Cond.code ({ cls := "WheelRideModel", name := "isSo", desc := "(III)Z" } : Jvm.MethodName) prog_14_method_68_code (6 : Nat) (Option.some Jvm.ClassFile.FieldType.boolean)),
  (Jvm.Cond.methodLink "WheelRideModel" (246 : Nat) ({ cls := "WheelRideModel", name := "limitsBy", desc := "(IIII)I" } : Jvm.MethodName)),
  (Jvm.Cond.privateMethod ({ cls := "WheelRideModel", name := "limitsBy", desc := "(IIII)I" } : Jvm.MethodName)),
  (Jvm.Cond.instanceMethod ({ cls := "WheelRideModel", name := "limitsBy", desc := "(IIII)I" } : Jvm.MethodName)),
  (Jvm.Cond.code ({ cls := "WheelRideModel", name := "limitsBy", desc := "(IIII)I" } : Jvm.MethodName) prog_14_method_70_code (8 : Nat) (Option.some Jvm.ClassFile.FieldType.int)),
  (Jvm.Cond.methodLink "WheelRideLaw" (130 : Nat) ({ cls := "WheelRideModel", name := "away", desc := "(III)J" } : Jvm.MethodName)),
  (Jvm.Cond.instanceMethod ({ cls := "WheelRideModel", name := "away", desc := "(III)J" } : Jvm.MethodName)),
  (Jvm.Cond.selects "WheelRideModel" ({ cls := "WheelRideModel", name := "away", desc := "(III)J" } : Jvm.MethodName) ({ cls := "WheelRideModel", name := "away", desc := "(III)J" } : Jvm.MethodName)),
  (Jvm.Cond.code ({ cls := "WheelRideModel", name := "away", desc := "(III)J" } : Jvm.MethodName) prog_14_method_73_code (14 : Nat) (Option.some Jvm.ClassFile.FieldType.long)),
  (Jvm.Cond.constantLong "WheelRideModel" (250 : Nat) (-1000002 : Int64)),
  (Jvm.Cond.constantLong "WheelRideModel" (252 : Nat) (-1000001 : Int64)),
  (Jvm.Cond.methodLink "WheelRideModel" (254 : Nat) ({ cls := "WheelRideModel", name := "common", desc := "(JJ)J" } : Jvm.MethodName)),
  (Jvm.Cond.static ({ cls := "WheelRideModel", name := "common", desc := "(JJ)J" } : Jvm.MethodName)),
  (Jvm.Cond.code ({ cls := "WheelRideModel", name := "common", desc := "(JJ)J" } : Jvm.MethodName) prog_14_method_72_code (10 : Nat) (Option.some Jvm.ClassFile.FieldType.long)),
  (Jvm.Cond.methodLink "WheelRideLaw" (134 : Nat) ({ cls := "WheelRideModel", name := "drawn", desc := "(III)I" } : Jvm.MethodName)),
  (Jvm.Cond.instanceMethod ({ cls := "WheelRideModel", name := "drawn", desc := "(III)I" } : Jvm.MethodName)),
  (Jvm.Cond.selects "WheelRideModel" ({ cls := "WheelRideModel", name := "drawn", desc := "(III)I" } : Jvm.MethodName) ({ cls := "WheelRideModel", name := "drawn", desc := "(III)I" } : Jvm.MethodName)),
  (Jvm.Cond.code ({ cls := "WheelRideModel", name := "drawn", desc := "(III)I" } : Jvm.MethodName) prog_14_method_74_code (9 : Nat) (Option.some Jvm.ClassFile.FieldType.int)),
  (Jvm.Cond.constant "WheelRideModel" (258 : Nat) (999999 : Int32)),
  (Jvm.Cond.constantLong "WheelRideModel" (259 : Nat) (16807 : Int64)),
  (Jvm.Cond.constantLong "WheelRideModel" (261 : Nat) (2147483647 : Int64)),
  (Jvm.Cond.constantLong "WheelRideModel" (263 : Nat) (4 : Int64)),
  (Jvm.Cond.constantLong "WheelRideModel" (265 : Nat) (10 : Int64)),
  (Jvm.Cond.methodLink "WheelRideLaw" (138 : Nat) ({ cls := "WheelRideModel", name := "image", desc := "(I)I" } : Jvm.MethodName)),
  (Jvm.Cond.instanceMethod ({ cls := "WheelRideModel", name := "image", desc := "(I)I" } : Jvm.MethodName)),
  (Jvm.Cond.selects "WheelRideModel" ({ cls := "WheelRideModel", name := "image", desc := "(I)I" } : Jvm.MethodName) ({ cls := "WheelRideModel", name := "image", desc := "(I)I" } : Jvm.MethodName)),
  (Jvm.Cond.code ({ cls := "WheelRideModel", name := "image", desc := "(I)I" } : Jvm.MethodName) prog_14_method_75_code (3 : Nat) (Option.some Jvm.ClassFile.FieldType.int)),
  (Jvm.Cond.methodLink "WheelRideLaw" (142 : Nat) ({ cls := "WheelRideModel", name := "restore", desc := "(I)I" } : Jvm.MethodName)),
  (Jvm.Cond.instanceMethod ({ cls := "WheelRideModel", name := "restore", desc := "(I)I" } : Jvm.MethodName)),
  (Jvm.Cond.selects "WheelRideModel" ({ cls := "WheelRideModel", name := "restore", desc := "(I)I" } : Jvm.MethodName) ({ cls := "WheelRideModel", name := "restore", desc := "(I)I" } : Jvm.MethodName)),
  (Jvm.Cond.code ({ cls := "WheelRideModel", name := "restore", desc := "(I)I" } : Jvm.MethodName) prog_14_method_76_code (3 : Nat) (Option.some Jvm.ClassFile.FieldType.int)),
  (Jvm.Cond.methodLink "WheelRideLaw" (146 : Nat) ({ cls := "WheelRideModel", name := "kind", desc := "(I)I" } : Jvm.MethodName)),
  (Jvm.Cond.instanceMethod ({ cls := "WheelRideModel", name := "kind", desc := "(I)I" } : Jvm.MethodName)),
  (Jvm.Cond.selects "WheelRideModel" ({ cls := "WheelRideModel", name := "kind", desc := "(I)I" } : Jvm.MethodName) ({ cls := "WheelRideModel", name := "kind", desc := "(I)I" } : Jvm.MethodName))]
def am_t35 : List Jvm.Cond := [(Jvm.Cond.code ({ cls := "WheelRideModel", name := "kind", desc := "(I)I" } : Jvm.MethodName) prog_14_method_77_code (2 : Nat) (Option.some Jvm.ClassFile.FieldType.int)),
  (Jvm.Cond.methodLink "WheelRideLaw" (150 : Nat) ({ cls := "WheelRideModel", name := "as", desc := "(II)I" } : Jvm.MethodName)),
  (Jvm.Cond.instanceMethod ({ cls := "WheelRideModel", name := "as", desc := "(II)I" } : Jvm.MethodName)),
  (Jvm.Cond.selects "WheelRideModel" ({ cls := "WheelRideModel", name := "as", desc := "(II)I" } : Jvm.MethodName) ({ cls := "WheelRideModel", name := "as", desc := "(II)I" } : Jvm.MethodName)),
  (Jvm.Cond.code ({ cls := "WheelRideModel", name := "as", desc := "(II)I" } : Jvm.MethodName) prog_14_method_79_code (3 : Nat) (Option.some Jvm.ClassFile.FieldType.int)),
  (Jvm.Cond.methodLink "WheelRideModel" (267 : Nat) ({ cls := "WheelRideModel", name := "isA", desc := "(II)Z" } : Jvm.MethodName)),
  (Jvm.Cond.privateMethod ({ cls := "WheelRideModel", name := "isA", desc := "(II)Z" } : Jvm.MethodName)),
  (Jvm.Cond.instanceMethod ({ cls := "WheelRideModel", name := "isA", desc := "(II)Z" } : Jvm.MethodName)),
  (Jvm.Cond.code ({ cls := "WheelRideModel", name := "isA", desc := "(II)Z" } : Jvm.MethodName) prog_14_method_78_code (4 : Nat) (Option.some Jvm.ClassFile.FieldType.boolean)),
  (Jvm.Cond.methodLink "WheelRideLaw" (154 : Nat) ({ cls := "WheelRideModel", name := "ask", desc := "(II)I" } : Jvm.MethodName)),
  (Jvm.Cond.instanceMethod ({ cls := "WheelRideModel", name := "ask", desc := "(II)I" } : Jvm.MethodName)),
  (Jvm.Cond.selects "WheelRideModel" ({ cls := "WheelRideModel", name := "ask", desc := "(II)I" } : Jvm.MethodName) ({ cls := "WheelRideModel", name := "ask", desc := "(II)I" } : Jvm.MethodName)),
  (Jvm.Cond.code ({ cls := "WheelRideModel", name := "ask", desc := "(II)I" } : Jvm.MethodName) prog_14_method_88_code (3 : Nat) (Option.some Jvm.ClassFile.FieldType.int)),
  (Jvm.Cond.methodLink "WheelRideModel" (292 : Nat) ({ cls := "WheelRideModel", name := "familySize", desc := "(I)I" } : Jvm.MethodName)),
  (Jvm.Cond.privateMethod ({ cls := "WheelRideModel", name := "familySize", desc := "(I)I" } : Jvm.MethodName)),
  (Jvm.Cond.instanceMethod ({ cls := "WheelRideModel", name := "familySize", desc := "(I)I" } : Jvm.MethodName)),
  (Jvm.Cond.code ({ cls := "WheelRideModel", name := "familySize", desc := "(I)I" } : Jvm.MethodName) prog_14_method_85_code (3 : Nat) (Option.some Jvm.ClassFile.FieldType.int)),
  (Jvm.Cond.methodLink "WheelRideModel" (274 : Nat) ({ cls := "WheelRideModel", name := "leaves", desc := "(I)V" } : Jvm.MethodName)),
  (Jvm.Cond.privateMethod ({ cls := "WheelRideModel", name := "leaves", desc := "(I)V" } : Jvm.MethodName)),
  (Jvm.Cond.instanceMethod ({ cls := "WheelRideModel", name := "leaves", desc := "(I)V" } : Jvm.MethodName)),
  (Jvm.Cond.code ({ cls := "WheelRideModel", name := "leaves", desc := "(I)V" } : Jvm.MethodName) prog_14_method_80_code (2 : Nat) (Option.none : Option Jvm.ClassFile.FieldType)),
  (Jvm.Cond.methodLink "WheelRideModel" (283 : Nat) ({ cls := "WheelRideModel", name := "ten", desc := "(I)I" } : Jvm.MethodName)),
  (Jvm.Cond.privateMethod ({ cls := "WheelRideModel", name := "ten", desc := "(I)I" } : Jvm.MethodName)),
  (Jvm.Cond.instanceMethod ({ cls := "WheelRideModel", name := "ten", desc := "(I)I" } : Jvm.MethodName)),
  (Jvm.Cond.code ({ cls := "WheelRideModel", name := "ten", desc := "(I)I" } : Jvm.MethodName) prog_14_method_81_code (2 : Nat) (Option.some Jvm.ClassFile.FieldType.int)),
  (Jvm.Cond.methodLink "WheelRideModel" (286 : Nat) ({ cls := "WheelRideModel", name := "familyMark", desc := "(I)I" } : Jvm.MethodName)),
  (Jvm.Cond.privateMethod ({ cls := "WheelRideModel", name := "familyMark", desc := "(I)I" } : Jvm.MethodName)),
  (Jvm.Cond.instanceMethod ({ cls := "WheelRideModel", name := "familyMark", desc := "(I)I" } : Jvm.MethodName)),
  (Jvm.Cond.code ({ cls := "WheelRideModel", name := "familyMark", desc := "(I)I" } : Jvm.MethodName) prog_14_method_84_code (2 : Nat) (Option.some Jvm.ClassFile.FieldType.int)),
  (Jvm.Cond.methodLink "WheelRideModel" (280 : Nat) ({ cls := "WheelRideModel", name := "twentyOne", desc := "(I)I" } : Jvm.MethodName)),
  (Jvm.Cond.privateMethod ({ cls := "WheelRideModel", name := "twentyOne", desc := "(I)I" } : Jvm.MethodName)),
  (Jvm.Cond.instanceMethod ({ cls := "WheelRideModel", name := "twentyOne", desc := "(I)I" } : Jvm.MethodName)),
  (Jvm.Cond.code ({ cls := "WheelRideModel", name := "twentyOne", desc := "(I)I" } : Jvm.MethodName) prog_14_method_83_code (2 : Nat) (Option.some Jvm.ClassFile.FieldType.int)),
  (Jvm.Cond.methodLink "WheelRideModel" (277 : Nat) ({ cls := "WheelRideModel", name := "twenty", desc := "(I)I" } : Jvm.MethodName)),
  (Jvm.Cond.privateMethod ({ cls := "WheelRideModel", name := "twenty", desc := "(I)I" } : Jvm.MethodName)),
  (Jvm.Cond.instanceMethod ({ cls := "WheelRideModel", name := "twenty", desc := "(I)I" } : Jvm.MethodName)),
  (Jvm.Cond.code ({ cls := "WheelRideModel", name := "twenty", desc := "(I)I" } : Jvm.MethodName) prog_14_method_82_code (2 : Nat) (Option.some Jvm.ClassFile.FieldType.int)),
  (Jvm.Cond.methodLink "WheelRideModel" (289 : Nat) ({ cls := "WheelRideModel", name := "solitarySize", desc := "(I)I" } : Jvm.MethodName)),
  (Jvm.Cond.privateMethod ({ cls := "WheelRideModel", name := "solitarySize", desc := "(I)I" } : Jvm.MethodName)),
  (Jvm.Cond.instanceMethod ({ cls := "WheelRideModel", name := "solitarySize", desc := "(I)I" } : Jvm.MethodName))]
def am_t36 : List Jvm.Cond := [(Jvm.Cond.code ({ cls := "WheelRideModel", name := "solitarySize", desc := "(I)I" } : Jvm.MethodName) prog_14_method_86_code (3 : Nat) (Option.some Jvm.ClassFile.FieldType.int)),
  (Jvm.Cond.methodLink "WheelRideModel" (295 : Nat) ({ cls := "WheelRideModel", name := "solitaryMark", desc := "(I)I" } : Jvm.MethodName)),
  (Jvm.Cond.privateMethod ({ cls := "WheelRideModel", name := "solitaryMark", desc := "(I)I" } : Jvm.MethodName)),
  (Jvm.Cond.instanceMethod ({ cls := "WheelRideModel", name := "solitaryMark", desc := "(I)I" } : Jvm.MethodName)),
  (Jvm.Cond.code ({ cls := "WheelRideModel", name := "solitaryMark", desc := "(I)I" } : Jvm.MethodName) prog_14_method_87_code (3 : Nat) (Option.some Jvm.ClassFile.FieldType.int)),
  (Jvm.Cond.methodLink "WheelRideLaw" (158 : Nat) ({ cls := "WheelRideModel", name := "trace", desc := "(I)I" } : Jvm.MethodName)),
  (Jvm.Cond.instanceMethod ({ cls := "WheelRideModel", name := "trace", desc := "(I)I" } : Jvm.MethodName)),
  (Jvm.Cond.selects "WheelRideModel" ({ cls := "WheelRideModel", name := "trace", desc := "(I)I" } : Jvm.MethodName) ({ cls := "WheelRideModel", name := "trace", desc := "(I)I" } : Jvm.MethodName)),
  (Jvm.Cond.code ({ cls := "WheelRideModel", name := "trace", desc := "(I)I" } : Jvm.MethodName) prog_14_method_89_code (2 : Nat) (Option.some Jvm.ClassFile.FieldType.int)),
  (Jvm.Cond.methodLink "WheelRideLaw" (162 : Nat) ({ cls := "WheelRideModel", name := "count", desc := "(I)I" } : Jvm.MethodName)),
  (Jvm.Cond.instanceMethod ({ cls := "WheelRideModel", name := "count", desc := "(I)I" } : Jvm.MethodName)),
  (Jvm.Cond.selects "WheelRideModel" ({ cls := "WheelRideModel", name := "count", desc := "(I)I" } : Jvm.MethodName) ({ cls := "WheelRideModel", name := "count", desc := "(I)I" } : Jvm.MethodName)),
  (Jvm.Cond.code ({ cls := "WheelRideModel", name := "count", desc := "(I)I" } : Jvm.MethodName) prog_14_method_92_code (2 : Nat) (Option.some Jvm.ClassFile.FieldType.int)),
  (Jvm.Cond.methodLink "WheelRideModel" (298 : Nat) ({ cls := "WheelRideModel", name := "rowsThere", desc := "()I" } : Jvm.MethodName)),
  (Jvm.Cond.privateMethod ({ cls := "WheelRideModel", name := "rowsThere", desc := "()I" } : Jvm.MethodName)),
  (Jvm.Cond.instanceMethod ({ cls := "WheelRideModel", name := "rowsThere", desc := "()I" } : Jvm.MethodName)),
  (Jvm.Cond.code ({ cls := "WheelRideModel", name := "rowsThere", desc := "()I" } : Jvm.MethodName) prog_14_method_90_code (3 : Nat) (Option.some Jvm.ClassFile.FieldType.int)),
  (Jvm.Cond.methodLink "WheelRideModel" (301 : Nat) ({ cls := "WheelRideModel", name := "ballastOfAll", desc := "()I" } : Jvm.MethodName)),
  (Jvm.Cond.privateMethod ({ cls := "WheelRideModel", name := "ballastOfAll", desc := "()I" } : Jvm.MethodName)),
  (Jvm.Cond.instanceMethod ({ cls := "WheelRideModel", name := "ballastOfAll", desc := "()I" } : Jvm.MethodName)),
  (Jvm.Cond.code ({ cls := "WheelRideModel", name := "ballastOfAll", desc := "()I" } : Jvm.MethodName) prog_14_method_91_code (3 : Nat) (Option.some Jvm.ClassFile.FieldType.int)),
  (Jvm.Cond.methodLink "WheelRideLaw" (166 : Nat) ({ cls := "WheelRideModel", name := "status", desc := "()I" } : Jvm.MethodName)),
  (Jvm.Cond.instanceMethod ({ cls := "WheelRideModel", name := "status", desc := "()I" } : Jvm.MethodName)),
  (Jvm.Cond.selects "WheelRideModel" ({ cls := "WheelRideModel", name := "status", desc := "()I" } : Jvm.MethodName) ({ cls := "WheelRideModel", name := "status", desc := "()I" } : Jvm.MethodName)),
  (Jvm.Cond.code ({ cls := "WheelRideModel", name := "status", desc := "()I" } : Jvm.MethodName) prog_14_method_93_code (1 : Nat) (Option.some Jvm.ClassFile.FieldType.int))]
def am_tb : List (List Jvm.Cond) := [am_t0, am_t1, am_t2, am_t3, am_t4, am_t5, am_t6, am_t7, am_t8, am_t9, am_t10, am_t11, am_t12, am_t13, am_t14, am_t15, am_t16, am_t17, am_t18, am_t19, am_t20, am_t21, am_t22, am_t23, am_t24, am_t25, am_t26, am_t27, am_t28, am_t29, am_t30, am_t31, am_t32, am_t33, am_t34, am_t35, am_t36]
