/-! ===== BEGIN printed: names, fields, word lists, decode rows ===== -/
def RX0 : String := "ClinkerWorks$Block"
def TX0 : u_T := fun k => match k with
  | 0 => ("ClinkerWorks$Block", "stone", "I", false)
  | 1 => ("ClinkerWorks$Block", "known", "Z", false)
  | _ => ("ClinkerWorks$Block", "oxides", "[I", true)
def tyX0 : Nat → FieldType := fun k => match k with
  | 0 => .int
  | 1 => .boolean
  | _ => .array .int
abbrev wsX00 : List Cond := u_ws RX0 TX0 3
theorem nmX0 : ∀ a, a < 3 → ∀ b, b < 3 → a ≠ b → (TX0 a).2.1 ≠ (TX0 b).2.1 := by decide +kernel
theorem tyX0_ok : ∀ k, k < 3 → parseFieldDescriptor (TX0 k).2.2.1 = some (tyX0 k) := by decide +kernel
abbrev cX0_init : ByteArray := prog_2_method_1_code
def yX0_init : MethodName := ⟨RX0, "<init>", "()V"⟩
abbrev cX0_tell : ByteArray := prog_2_method_2_code
def yX0_tell : MethodName := ⟨RX0, "tell", "(IIIII)V"⟩
abbrev cX0_believed : ByteArray := prog_2_method_3_code
def yX0_believed : MethodName := ⟨RX0, "believed", "(I)I"⟩
def RX1 : String := "ClinkerWorks$Charge"
def TX1 : u_T := fun k => match k with
  | 0 => ("ClinkerWorks$Charge", "present", "Z", false)
  | 1 => ("ClinkerWorks$Charge", "mix", "LClinkerWorks$Mix;", true)
  | 2 => ("ClinkerWorks$Charge", "partsOfBlocks", "[I", true)
  | 3 => ("ClinkerWorks$Charge", "raw", "I", false)
  | 4 => ("ClinkerWorks$Charge", "free", "I", false)
  | 5 => ("ClinkerWorks$Charge", "sand", "I", false)
  | 6 => ("ClinkerWorks$Charge", "belite", "I", false)
  | _ => ("ClinkerWorks$Charge", "alite", "I", false)
def tyX1 : Nat → FieldType := fun k => match k with
  | 0 => .boolean
  | 1 => .object "ClinkerWorks$Mix"
  | 2 => .array .int
  | 3 => .int
  | 4 => .int
  | 5 => .int
  | 6 => .int
  | _ => .int
abbrev wsX10 : List Cond := u_ws RX1 TX1 8
theorem nmX1 : ∀ a, a < 8 → ∀ b, b < 8 → a ≠ b → (TX1 a).2.1 ≠ (TX1 b).2.1 := by decide +kernel
theorem tyX1_ok : ∀ k, k < 8 → parseFieldDescriptor (TX1 k).2.2.1 = some (tyX1 k) := by decide +kernel
abbrev cX1_init : ByteArray := prog_3_method_1_code
def yX1_init : MethodName := ⟨RX1, "<init>", "()V"⟩
abbrev cX1_begin : ByteArray := prog_3_method_2_code
def yX1_begin : MethodName := ⟨RX1, "begin", "(LClinkerWorks$Mix;)V"⟩
abbrev cX1_copyFrom : ByteArray := prog_3_method_3_code
def yX1_copyFrom : MethodName := ⟨RX1, "copyFrom", "(LClinkerWorks$Charge;)V"⟩
abbrev cX1_melt : ByteArray := prog_3_method_4_code
def yX1_melt : MethodName := ⟨RX1, "melt", "()I"⟩
abbrev cX1_burn : ByteArray := prog_3_method_5_code
def yX1_burn : MethodName := ⟨RX1, "burn", "(I)I"⟩
def RX2 : String := "ClinkerWorks$Kiln"
def TX2 : u_T := fun k => match k with
  | 0 => ("ClinkerWorks$Kiln", "cells", "[LClinkerWorks$Charge;", true)
  | 1 => ("ClinkerWorks$Kiln", "warmth", "[I", true)
  | 2 => ("ClinkerWorks$Kiln", "waiting", "[LClinkerWorks$Charge;", true)
  | 3 => ("ClinkerWorks$Kiln", "waits", "I", false)
  | 4 => ("ClinkerWorks$Kiln", "out", "LClinkerWorks$Charge;", false)
  | 5 => ("ClinkerWorks$Kiln", "flame", "I", false)
  | 6 => ("ClinkerWorks$Kiln", "coal", "I", false)
  | 7 => ("ClinkerWorks$Kiln", "ring", "I", false)
  | 8 => ("ClinkerWorks$Kiln", "now", "I", false)
  | 9 => ("ClinkerWorks$Kiln", "fallen", "I", false)
  | 10 => ("ClinkerWorks$Kiln", "blocked", "I", false)
  | _ => ("ClinkerWorks$Kiln", "carbon", "I", false)
def tyX2 : Nat → FieldType := fun k => match k with
  | 0 => .array (.object "ClinkerWorks$Charge")
  | 1 => .array .int
  | 2 => .array (.object "ClinkerWorks$Charge")
  | 3 => .int
  | 4 => .object "ClinkerWorks$Charge"
  | 5 => .int
  | 6 => .int
  | 7 => .int
  | 8 => .int
  | 9 => .int
  | 10 => .int
  | _ => .int
abbrev wsX20 : List Cond := u_ws RX2 TX2 12
theorem nmX2 : ∀ a, a < 12 → ∀ b, b < 12 → a ≠ b → (TX2 a).2.1 ≠ (TX2 b).2.1 := by decide +kernel
theorem tyX2_ok : ∀ k, k < 12 → parseFieldDescriptor (TX2 k).2.2.1 = some (tyX2 k) := by decide +kernel
abbrev cX2_init : ByteArray := prog_4_method_1_code
def yX2_init : MethodName := ⟨RX2, "<init>", "()V"⟩
abbrev cX2_copyFrom : ByteArray := prog_4_method_2_code
def yX2_copyFrom : MethodName := ⟨RX2, "copyFrom", "(LClinkerWorks$Kiln;)V"⟩
abbrev cX2_isQueueFull : ByteArray := prog_4_method_3_code
def yX2_isQueueFull : MethodName := ⟨RX2, "isQueueFull", "()Z"⟩
abbrev cX2_addWaiting : ByteArray := prog_4_method_4_code
def yX2_addWaiting : MethodName := ⟨RX2, "addWaiting", "(LClinkerWorks$Mix;)LClinkerWorks$Charge;"⟩
abbrev cX2_step : ByteArray := prog_4_method_5_code
def yX2_step : MethodName := ⟨RX2, "step", "()Z"⟩
abbrev cX2_burnCoal : ByteArray := prog_4_method_6_code
def yX2_burnCoal : MethodName := ⟨RX2, "burnCoal", "()I"⟩
abbrev cX2_moveOn : ByteArray := prog_4_method_7_code
def yX2_moveOn : MethodName := ⟨RX2, "moveOn", "()Z"⟩
abbrev cX2_nextWaiting : ByteArray := prog_4_method_8_code
def yX2_nextWaiting : MethodName := ⟨RX2, "nextWaiting", "(LClinkerWorks$Charge;)LClinkerWorks$Charge;"⟩
abbrev cX2_warmCells : ByteArray := prog_4_method_9_code
def yX2_warmCells : MethodName := ⟨RX2, "warmCells", "(I)V"⟩
abbrev cX2_changeRing : ByteArray := prog_4_method_10_code
def yX2_changeRing : MethodName := ⟨RX2, "changeRing", "()V"⟩
def RX3 : String := "ClinkerWorks$Lot"
def TX3 : u_T := fun k => match k with
  | 0 => ("ClinkerWorks$Lot", "burnt", "LClinkerWorks$Charge;", true)
  | 1 => ("ClinkerWorks$Lot", "fineness", "I", false)
  | 2 => ("ClinkerWorks$Lot", "gypsum", "I", false)
  | 3 => ("ClinkerWorks$Lot", "silo", "I", false)
  | 4 => ("ClinkerWorks$Lot", "sacksAsGround", "I", false)
  | 5 => ("ClinkerWorks$Lot", "sacks", "I", false)
  | _ => ("ClinkerWorks$Lot", "found", "[I", true)
def tyX3 : Nat → FieldType := fun k => match k with
  | 0 => .object "ClinkerWorks$Charge"
  | 1 => .int
  | 2 => .int
  | 3 => .int
  | 4 => .int
  | 5 => .int
  | _ => .array .int
abbrev wsX30 : List Cond := u_ws RX3 TX3 7
theorem nmX3 : ∀ a, a < 7 → ∀ b, b < 7 → a ≠ b → (TX3 a).2.1 ≠ (TX3 b).2.1 := by decide +kernel
theorem tyX3_ok : ∀ k, k < 7 → parseFieldDescriptor (TX3 k).2.2.1 = some (tyX3 k) := by decide +kernel
abbrev cX3_init : ByteArray := prog_5_method_1_code
def yX3_init : MethodName := ⟨RX3, "<init>", "()V"⟩
abbrev cX3_isGround : ByteArray := prog_5_method_2_code
def yX3_isGround : MethodName := ⟨RX3, "isGround", "()Z"⟩
abbrev cX3_isFound : ByteArray := prog_5_method_3_code
def yX3_isFound : MethodName := ⟨RX3, "isFound", "(I)Z"⟩
abbrev cX3_setGround : ByteArray := prog_5_method_4_code
def yX3_setGround : MethodName := ⟨RX3, "setGround", "(III)V"⟩
abbrev cX3_price : ByteArray := prog_5_method_5_code
def yX3_price : MethodName := ⟨RX3, "price", "()I"⟩
abbrev cX3_strength : ByteArray := prog_5_method_6_code
def yX3_strength : MethodName := ⟨RX3, "strength", "(I)I"⟩
def RX4 : String := "ClinkerWorks$Mix"
def TX4 : u_T := fun k => match k with
  | _ => ("ClinkerWorks$Mix", "amounts", "[I", true)
def tyX4 : Nat → FieldType := fun k => match k with
  | _ => .array .int
abbrev wsX40 : List Cond := u_ws RX4 TX4 1
theorem nmX4 : ∀ a, a < 1 → ∀ b, b < 1 → a ≠ b → (TX4 a).2.1 ≠ (TX4 b).2.1 := by decide +kernel
theorem tyX4_ok : ∀ k, k < 1 → parseFieldDescriptor (TX4 k).2.2.1 = some (tyX4 k) := by decide +kernel
abbrev cX4_init : ByteArray := prog_6_method_1_code
def yX4_init : MethodName := ⟨RX4, "<init>", "()V"⟩
abbrev cX4_clear : ByteArray := prog_6_method_2_code
def yX4_clear : MethodName := ⟨RX4, "clear", "()V"⟩
abbrev cX4_copyFrom : ByteArray := prog_6_method_3_code
def yX4_copyFrom : MethodName := ⟨RX4, "copyFrom", "(LClinkerWorks$Mix;)V"⟩
abbrev cX4_addStone : ByteArray := prog_6_method_4_code
def yX4_addStone : MethodName := ⟨RX4, "addStone", "(LClinkerWorks$Block;I)V"⟩
abbrev cX4_addBins : ByteArray := prog_6_method_5_code
def yX4_addBins : MethodName := ⟨RX4, "addBins", "(III)V"⟩
abbrev cX4_sum : ByteArray := prog_6_method_6_code
def yX4_sum : MethodName := ⟨RX4, "sum", "()I"⟩
abbrev cX4_melt : ByteArray := prog_6_method_7_code
def yX4_melt : MethodName := ⟨RX4, "melt", "()I"⟩
abbrev cX4_saturation : ByteArray := prog_6_method_8_code
def yX4_saturation : MethodName := ⟨RX4, "saturation", "()I"⟩
abbrev cX4_silicaModulus : ByteArray := prog_6_method_9_code
def yX4_silicaModulus : MethodName := ⟨RX4, "silicaModulus", "()I"⟩
abbrev cX4_aluminaModulus : ByteArray := prog_6_method_10_code
def yX4_aluminaModulus : MethodName := ⟨RX4, "aluminaModulus", "()I"⟩
abbrev cX4_isRight : ByteArray := prog_6_method_11_code
def yX4_isRight : MethodName := ⟨RX4, "isRight", "()Z"⟩
abbrev cX4_isWithin : ByteArray := prog_6_method_12_code
def yX4_isWithin : MethodName := ⟨RX4, "isWithin", "(III)Z"⟩
abbrev cX4_quotient : ByteArray := prog_6_method_13_code
def yX4_quotient : MethodName := ⟨RX4, "quotient", "(II)I"⟩
def RX5 : String := "ClinkerWorks$Pile"
def TX5 : u_T := fun k => match k with
  | 0 => ("ClinkerWorks$Pile", "layers", "I", false)
  | 1 => ("ClinkerWorks$Pile", "blockOf", "[I", true)
  | 2 => ("ClinkerWorks$Pile", "parts", "[I", true)
  | _ => ("ClinkerWorks$Pile", "shares", "[I", true)
def tyX5 : Nat → FieldType := fun k => match k with
  | 0 => .int
  | 1 => .array .int
  | 2 => .array .int
  | _ => .array .int
abbrev wsX50 : List Cond := u_ws RX5 TX5 4
theorem nmX5 : ∀ a, a < 4 → ∀ b, b < 4 → a ≠ b → (TX5 a).2.1 ≠ (TX5 b).2.1 := by decide +kernel
theorem tyX5_ok : ∀ k, k < 4 → parseFieldDescriptor (TX5 k).2.2.1 = some (tyX5 k) := by decide +kernel
abbrev cX5_init : ByteArray := prog_7_method_1_code
def yX5_init : MethodName := ⟨RX5, "<init>", "()V"⟩
abbrev cX5_isFull : ByteArray := prog_7_method_2_code
def yX5_isFull : MethodName := ⟨RX5, "isFull", "()Z"⟩
abbrev cX5_total : ByteArray := prog_7_method_3_code
def yX5_total : MethodName := ⟨RX5, "total", "()I"⟩
abbrev cX5_addLayer : ByteArray := prog_7_method_4_code
def yX5_addLayer : MethodName := ⟨RX5, "addLayer", "(II)V"⟩
abbrev cX5_shareOut : ByteArray := prog_7_method_5_code
def yX5_shareOut : MethodName := ⟨RX5, "shareOut", "(I)V"⟩
abbrev cX5_shareRound : ByteArray := prog_7_method_6_code
def yX5_shareRound : MethodName := ⟨RX5, "shareRound", "(I)I"⟩
abbrev cX5_takeShares : ByteArray := prog_7_method_7_code
def yX5_takeShares : MethodName := ⟨RX5, "takeShares", "([I)V"⟩
def RX6 : String := "ClinkerWorks$Silo"
def TX6 : u_T := fun k => match k with
  | 0 => ("ClinkerWorks$Silo", "lots", "[I", true)
  | 1 => ("ClinkerWorks$Silo", "count", "I", false)
  | _ => ("ClinkerWorks$Silo", "shut", "Z", false)
def tyX6 : Nat → FieldType := fun k => match k with
  | 0 => .array .int
  | 1 => .int
  | _ => .boolean
abbrev wsX60 : List Cond := u_ws RX6 TX6 3
theorem nmX6 : ∀ a, a < 3 → ∀ b, b < 3 → a ≠ b → (TX6 a).2.1 ≠ (TX6 b).2.1 := by decide +kernel
theorem tyX6_ok : ∀ k, k < 3 → parseFieldDescriptor (TX6 k).2.2.1 = some (tyX6 k) := by decide +kernel
abbrev cX6_init : ByteArray := prog_8_method_1_code
def yX6_init : MethodName := ⟨RX6, "<init>", "()V"⟩
abbrev cX6_lotAt : ByteArray := prog_8_method_2_code
def yX6_lotAt : MethodName := ⟨RX6, "lotAt", "(I)I"⟩
abbrev cX6_addLot : ByteArray := prog_8_method_3_code
def yX6_addLot : MethodName := ⟨RX6, "addLot", "(I)V"⟩
abbrev cX6_removeFirst : ByteArray := prog_8_method_4_code
def yX6_removeFirst : MethodName := ⟨RX6, "removeFirst", "()V"⟩
def RX7 : String := "ClinkerWorks$Window"
def TX7 : u_T := fun k => match k with
  | 0 => ("ClinkerWorks$Window", "strengths", "[I", true)
  | 1 => ("ClinkerWorks$Window", "count", "I", false)
  | _ => ("ClinkerWorks$Window", "standard", "I", false)
def tyX7 : Nat → FieldType := fun k => match k with
  | 0 => .array .int
  | 1 => .int
  | _ => .int
abbrev wsX70 : List Cond := u_ws RX7 TX7 3
theorem nmX7 : ∀ a, a < 3 → ∀ b, b < 3 → a ≠ b → (TX7 a).2.1 ≠ (TX7 b).2.1 := by decide +kernel
theorem tyX7_ok : ∀ k, k < 3 → parseFieldDescriptor (TX7 k).2.2.1 = some (tyX7 k) := by decide +kernel
abbrev cX7_init : ByteArray := prog_9_method_1_code
def yX7_init : MethodName := ⟨RX7, "<init>", "()V"⟩
abbrev cX7_add : ByteArray := prog_9_method_2_code
def yX7_add : MethodName := ⟨RX7, "add", "(I)V"⟩
abbrev cX7_sum : ByteArray := prog_9_method_3_code
def yX7_sum : MethodName := ⟨RX7, "sum", "()I"⟩
abbrev cX7_mean : ByteArray := prog_9_method_4_code
def yX7_mean : MethodName := ⟨RX7, "mean", "()D"⟩
abbrev cX7_holds : ByteArray := prog_9_method_5_code
def yX7_holds : MethodName := ⟨RX7, "holds", "()Z"⟩
def RX8 : String := "ClinkerWorks"
def TX8 : u_T := fun k => match k with
  | 0 => ("ClinkerWorks", "blocks", "[LClinkerWorks$Block;", true)
  | 1 => ("ClinkerWorks", "blockCount", "I", false)
  | 2 => ("ClinkerWorks", "pile", "LClinkerWorks$Pile;", true)
  | 3 => ("ClinkerWorks", "cutMix", "LClinkerWorks$Mix;", true)
  | 4 => ("ClinkerWorks", "triedMix", "LClinkerWorks$Mix;", true)
  | 5 => ("ClinkerWorks", "kiln", "LClinkerWorks$Kiln;", true)
  | 6 => ("ClinkerWorks", "trial", "LClinkerWorks$Kiln;", true)
  | 7 => ("ClinkerWorks", "lots", "[LClinkerWorks$Lot;", true)
  | 8 => ("ClinkerWorks", "lotCount", "I", false)
  | 9 => ("ClinkerWorks", "dumped", "I", false)
  | 10 => ("ClinkerWorks", "silos", "[LClinkerWorks$Silo;", true)
  | 11 => ("ClinkerWorks", "money", "I", false)
  | 12 => ("ClinkerWorks", "window", "LClinkerWorks$Window;", true)
  | _ => ("ClinkerWorks", "claims", "I", false)
def tyX8 : Nat → FieldType := fun k => match k with
  | 0 => .array (.object "ClinkerWorks$Block")
  | 1 => .int
  | 2 => .object "ClinkerWorks$Pile"
  | 3 => .object "ClinkerWorks$Mix"
  | 4 => .object "ClinkerWorks$Mix"
  | 5 => .object "ClinkerWorks$Kiln"
  | 6 => .object "ClinkerWorks$Kiln"
  | 7 => .array (.object "ClinkerWorks$Lot")
  | 8 => .int
  | 9 => .int
  | 10 => .array (.object "ClinkerWorks$Silo")
  | 11 => .int
  | 12 => .object "ClinkerWorks$Window"
  | _ => .int
abbrev wsX80 : List Cond := u_ws RX8 TX8 14
theorem nmX8 : ∀ a, a < 14 → ∀ b, b < 14 → a ≠ b → (TX8 a).2.1 ≠ (TX8 b).2.1 := by decide +kernel
theorem tyX8_ok : ∀ k, k < 14 → parseFieldDescriptor (TX8 k).2.2.1 = some (tyX8 k) := by decide +kernel
abbrev cX8_init : ByteArray := prog_1_method_1_code
def yX8_init : MethodName := ⟨RX8, "<init>", "()V"⟩
abbrev cX8_block : ByteArray := prog_1_method_2_code
def yX8_block : MethodName := ⟨RX8, "block", "(IIIII)I"⟩
abbrev cX8_drill : ByteArray := prog_1_method_3_code
def yX8_drill : MethodName := ⟨RX8, "drill", "(I)Z"⟩
abbrev cX8_blast : ByteArray := prog_1_method_4_code
def yX8_blast : MethodName := ⟨RX8, "blast", "(II)I"⟩
abbrev cX8_charge : ByteArray := prog_1_method_5_code
def yX8_charge : MethodName := ⟨RX8, "charge", "(IIII)I"⟩
abbrev cX8_flame : ByteArray := prog_1_method_6_code
def yX8_flame : MethodName := ⟨RX8, "flame", "(I)I"⟩
abbrev cX8_coal : ByteArray := prog_1_method_7_code
def yX8_coal : MethodName := ⟨RX8, "coal", "(I)I"⟩
abbrev cX8_run : ByteArray := prog_1_method_8_code
def yX8_run : MethodName := ⟨RX8, "run", "(I)I"⟩
abbrev cX8_hammer : ByteArray := prog_1_method_9_code
def yX8_hammer : MethodName := ⟨RX8, "hammer", "()I"⟩
abbrev cX8_grind : ByteArray := prog_1_method_10_code
def yX8_grind : MethodName := ⟨RX8, "grind", "(IIII)I"⟩
abbrev cX8_sell : ByteArray := prog_1_method_11_code
def yX8_sell : MethodName := ⟨RX8, "sell", "(II)I"⟩
abbrev cX8_open : ByteArray := prog_1_method_12_code
def yX8_open : MethodName := ⟨RX8, "open", "(I)Z"⟩
abbrev cX8_cube : ByteArray := prog_1_method_13_code
def yX8_cube : MethodName := ⟨RX8, "cube", "(II)I"⟩
abbrev cX8_standard : ByteArray := prog_1_method_14_code
def yX8_standard : MethodName := ⟨RX8, "standard", "(I)I"⟩
abbrev cX8_ofBlock : ByteArray := prog_1_method_15_code
def yX8_ofBlock : MethodName := ⟨RX8, "ofBlock", "(II)I"⟩
abbrev cX8_ofLayer : ByteArray := prog_1_method_16_code
def yX8_ofLayer : MethodName := ⟨RX8, "ofLayer", "(II)I"⟩
abbrev cX8_ofCell : ByteArray := prog_1_method_17_code
def yX8_ofCell : MethodName := ⟨RX8, "ofCell", "(II)I"⟩
abbrev cX8_ofLot : ByteArray := prog_1_method_18_code
def yX8_ofLot : MethodName := ⟨RX8, "ofLot", "(II)I"⟩
abbrev cX8_modulus : ByteArray := prog_1_method_19_code
def yX8_modulus : MethodName := ⟨RX8, "modulus", "(II)I"⟩
abbrev cX8_row : ByteArray := prog_1_method_20_code
def yX8_row : MethodName := ⟨RX8, "row", "(II)I"⟩
abbrev cX8_many : ByteArray := prog_1_method_21_code
def yX8_many : MethodName := ⟨RX8, "many", "(I)I"⟩
abbrev cX8_meanFound : ByteArray := prog_1_method_22_code
def yX8_meanFound : MethodName := ⟨RX8, "meanFound", "()D"⟩
abbrev cX8_isConform : ByteArray := prog_1_method_23_code
def yX8_isConform : MethodName := ⟨RX8, "isConform", "()Z"⟩
abbrev cX8_thought : ByteArray := prog_1_method_24_code
def yX8_thought : MethodName := ⟨RX8, "thought", "(I)I"⟩
abbrev cX8_bestCharge : ByteArray := prog_1_method_25_code
def yX8_bestCharge : MethodName := ⟨RX8, "bestCharge", "(I)I"⟩
abbrev cX8_freeAfter : ByteArray := prog_1_method_26_code
def yX8_freeAfter : MethodName := ⟨RX8, "freeAfter", "(II)I"⟩
abbrev cX8_letFall : ByteArray := prog_1_method_27_code
def yX8_letFall : MethodName := ⟨RX8, "letFall", "(I)I"⟩
abbrev cX8_digest : ByteArray := prog_1_method_28_code
def yX8_digest : MethodName := ⟨RX8, "digest", "()J"⟩
abbrev cX8_digestMany : ByteArray := prog_1_method_29_code
def yX8_digestMany : MethodName := ⟨RX8, "digestMany", "(J)J"⟩
abbrev cX8_digestStone : ByteArray := prog_1_method_30_code
def yX8_digestStone : MethodName := ⟨RX8, "digestStone", "(J)J"⟩
abbrev cX8_digestKiln : ByteArray := prog_1_method_31_code
def yX8_digestKiln : MethodName := ⟨RX8, "digestKiln", "(J)J"⟩
abbrev cX8_digestLots : ByteArray := prog_1_method_32_code
def yX8_digestLots : MethodName := ⟨RX8, "digestLots", "(J)J"⟩
abbrev cX8_digestSilos : ByteArray := prog_1_method_33_code
def yX8_digestSilos : MethodName := ⟨RX8, "digestSilos", "(J)J"⟩
abbrev cX8_fold : ByteArray := prog_1_method_34_code
def yX8_fold : MethodName := ⟨RX8, "fold", "(JJ)J"⟩
abbrev cX8_asNumber : ByteArray := prog_1_method_35_code
def yX8_asNumber : MethodName := ⟨RX8, "asNumber", "(Z)I"⟩
abbrev cX8_isIndex : ByteArray := prog_1_method_36_code
def yX8_isIndex : MethodName := ⟨RX8, "isIndex", "(II)Z"⟩
abbrev cX8_needIndex : ByteArray := prog_1_method_37_code
def yX8_needIndex : MethodName := ⟨RX8, "needIndex", "(II)V"⟩
abbrev cX8_needArgument : ByteArray := prog_1_method_38_code
def yX8_needArgument : MethodName := ⟨RX8, "needArgument", "(III)V"⟩
abbrev cX8_mixCut : ByteArray := prog_1_method_39_code
def yX8_mixCut : MethodName := ⟨RX8, "mixCut", "(I)V"⟩
abbrev cX8_storeLot : ByteArray := prog_1_method_40_code
def yX8_storeLot : MethodName := ⟨RX8, "storeLot", "(LClinkerWorks$Charge;)V"⟩
abbrev cX8_takeSacks : ByteArray := prog_1_method_41_code
def yX8_takeSacks : MethodName := ⟨RX8, "takeSacks", "(LClinkerWorks$Silo;I)I"⟩
abbrev cX8_testFound : ByteArray := prog_1_method_42_code
def yX8_testFound : MethodName := ⟨RX8, "testFound", "(LClinkerWorks$Lot;I)V"⟩
abbrev cX8_usualGain : ByteArray := prog_1_method_43_code
def yX8_usualGain : MethodName := ⟨RX8, "usualGain", "(I)I"⟩
abbrev cX8_smallestRight : ByteArray := prog_1_method_44_code
def yX8_smallestRight : MethodName := ⟨RX8, "smallestRight", "(I)I"⟩
abbrev cX8_isRightWith : ByteArray := prog_1_method_45_code
def yX8_isRightWith : MethodName := ⟨RX8, "isRightWith", "(III)Z"⟩
abbrev cX8_wouldFall : ByteArray := prog_1_method_46_code
def yX8_wouldFall : MethodName := ⟨RX8, "wouldFall", "(II)Z"⟩
def RX9 : String := "ClinkerWorksModel$Charge"
def TX9 : u_T := fun k => match k with
  | 0 => ("ClinkerWorksModel$Charge", "oxides", "[I", true)
  | 1 => ("ClinkerWorksModel$Charge", "parts", "[I", true)
  | 2 => ("ClinkerWorksModel$Charge", "raw", "I", false)
  | 3 => ("ClinkerWorksModel$Charge", "free", "I", false)
  | 4 => ("ClinkerWorksModel$Charge", "sand", "I", false)
  | 5 => ("ClinkerWorksModel$Charge", "belite", "I", false)
  | 6 => ("ClinkerWorksModel$Charge", "alite", "I", false)
  | 7 => ("ClinkerWorksModel$Charge", "fineness", "I", false)
  | 8 => ("ClinkerWorksModel$Charge", "gypsum", "I", false)
  | 9 => ("ClinkerWorksModel$Charge", "silo", "I", false)
  | 10 => ("ClinkerWorksModel$Charge", "sacks", "I", false)
  | _ => ("ClinkerWorksModel$Charge", "found", "[I", true)
def tyX9 : Nat → FieldType := fun k => match k with
  | 0 => .array .int
  | 1 => .array .int
  | 2 => .int
  | 3 => .int
  | 4 => .int
  | 5 => .int
  | 6 => .int
  | 7 => .int
  | 8 => .int
  | 9 => .int
  | 10 => .int
  | _ => .array .int
abbrev wsX90 : List Cond := u_ws RX9 TX9 12
theorem nmX9 : ∀ a, a < 12 → ∀ b, b < 12 → a ≠ b → (TX9 a).2.1 ≠ (TX9 b).2.1 := by decide +kernel
theorem tyX9_ok : ∀ k, k < 12 → parseFieldDescriptor (TX9 k).2.2.1 = some (tyX9 k) := by decide +kernel
abbrev cX9_init : ByteArray := prog_12_method_1_code
def yX9_init : MethodName := ⟨RX9, "<init>", "()V"⟩
abbrev cX9_begin : ByteArray := prog_12_method_2_code
def yX9_begin : MethodName := ⟨RX9, "begin", "()V"⟩
abbrev cX9_copy : ByteArray := prog_12_method_3_code
def yX9_copy : MethodName := ⟨RX9, "copy", "()LClinkerWorksModel$Charge;"⟩
abbrev cX9_melt : ByteArray := prog_12_method_4_code
def yX9_melt : MethodName := ⟨RX9, "melt", "()I"⟩
abbrev cX9_all : ByteArray := prog_12_method_5_code
def yX9_all : MethodName := ⟨RX9, "all", "()I"⟩
abbrev cX9_isGround : ByteArray := prog_12_method_6_code
def yX9_isGround : MethodName := ⟨RX9, "isGround", "()Z"⟩
abbrev cX9_burn : ByteArray := prog_12_method_7_code
def yX9_burn : MethodName := ⟨RX9, "burn", "(I)I"⟩
abbrev cX9_strength : ByteArray := prog_12_method_8_code
def yX9_strength : MethodName := ⟨RX9, "strength", "(I)I"⟩
abbrev cX9_of : ByteArray := prog_12_method_9_code
def yX9_of : MethodName := ⟨RX9, "of", "(I)I"⟩
def RX10 : String := "ClinkerWorksModel$Kiln"
def TX10 : u_T := fun k => match k with
  | 0 => ("ClinkerWorksModel$Kiln", "cells", "[LClinkerWorksModel$Charge;", true)
  | 1 => ("ClinkerWorksModel$Kiln", "has", "[Z", true)
  | 2 => ("ClinkerWorksModel$Kiln", "warmth", "[I", true)
  | 3 => ("ClinkerWorksModel$Kiln", "flame", "I", false)
  | 4 => ("ClinkerWorksModel$Kiln", "coal", "I", false)
  | 5 => ("ClinkerWorksModel$Kiln", "now", "I", false)
  | 6 => ("ClinkerWorksModel$Kiln", "ring", "I", false)
  | 7 => ("ClinkerWorksModel$Kiln", "fell", "I", false)
  | 8 => ("ClinkerWorksModel$Kiln", "blocked", "I", false)
  | _ => ("ClinkerWorksModel$Kiln", "co2", "I", false)
def tyX10 : Nat → FieldType := fun k => match k with
  | 0 => .array (.object "ClinkerWorksModel$Charge")
  | 1 => .array .boolean
  | 2 => .array .int
  | 3 => .int
  | 4 => .int
  | 5 => .int
  | 6 => .int
  | 7 => .int
  | 8 => .int
  | _ => .int
abbrev wsX100 : List Cond := u_ws RX10 TX10 10
theorem nmX10 : ∀ a, a < 10 → ∀ b, b < 10 → a ≠ b → (TX10 a).2.1 ≠ (TX10 b).2.1 := by decide +kernel
theorem tyX10_ok : ∀ k, k < 10 → parseFieldDescriptor (TX10 k).2.2.1 = some (tyX10 k) := by decide +kernel
abbrev cX10_init : ByteArray := prog_13_method_1_code
def yX10_init : MethodName := ⟨RX10, "<init>", "()V"⟩
abbrev cX10_copy : ByteArray := prog_13_method_2_code
def yX10_copy : MethodName := ⟨RX10, "copy", "()LClinkerWorksModel$Kiln;"⟩
abbrev cX10_isBlocked : ByteArray := prog_13_method_3_code
def yX10_isBlocked : MethodName := ⟨RX10, "isBlocked", "()Z"⟩
abbrev cX10_move : ByteArray := prog_13_method_4_code
def yX10_move : MethodName := ⟨RX10, "move", "()LClinkerWorksModel$Charge;"⟩
abbrev cX10_take : ByteArray := prog_13_method_5_code
def yX10_take : MethodName := ⟨RX10, "take", "(LClinkerWorksModel$Charge;)V"⟩
abbrev cX10_burn : ByteArray := prog_13_method_6_code
def yX10_burn : MethodName := ⟨RX10, "burn", "(I)V"⟩
abbrev cX10_burns : ByteArray := prog_13_method_7_code
def yX10_burns : MethodName := ⟨RX10, "burns", "()I"⟩
def RX11 : String := "ClinkerWorksModel"
def TX11 : u_T := fun k => match k with
  | 0 => ("ClinkerWorksModel", "thrown", "I", false)
  | 1 => ("ClinkerWorksModel", "blocks", "[[I", true)
  | 2 => ("ClinkerWorksModel", "layers", "[[I", true)
  | 3 => ("ClinkerWorksModel", "waiting", "Ljava/util/List;", true)
  | 4 => ("ClinkerWorksModel", "lots", "Ljava/util/List;", true)
  | 5 => ("ClinkerWorksModel", "rows", "[[I", true)
  | 6 => ("ClinkerWorksModel", "inRow", "[I", true)
  | 7 => ("ClinkerWorksModel", "isShut", "[Z", true)
  | 8 => ("ClinkerWorksModel", "window", "[I", true)
  | 9 => ("ClinkerWorksModel", "kiln", "LClinkerWorksModel$Kiln;", true)
  | 10 => ("ClinkerWorksModel", "blockCount", "I", false)
  | 11 => ("ClinkerWorksModel", "layerCount", "I", false)
  | 12 => ("ClinkerWorksModel", "dumped", "I", false)
  | 13 => ("ClinkerWorksModel", "money", "I", false)
  | 14 => ("ClinkerWorksModel", "claims", "I", false)
  | 15 => ("ClinkerWorksModel", "found", "I", false)
  | _ => ("ClinkerWorksModel", "standard", "I", false)
def tyX11 : Nat → FieldType := fun k => match k with
  | 0 => .int
  | 1 => .array (.array .int)
  | 2 => .array (.array .int)
  | 3 => .object "java/util/List"
  | 4 => .object "java/util/List"
  | 5 => .array (.array .int)
  | 6 => .array .int
  | 7 => .array .boolean
  | 8 => .array .int
  | 9 => .object "ClinkerWorksModel$Kiln"
  | 10 => .int
  | 11 => .int
  | 12 => .int
  | 13 => .int
  | 14 => .int
  | 15 => .int
  | _ => .int
abbrev wsX110 : List Cond := u_ws RX11 TX11 17
theorem nmX11 : ∀ a, a < 17 → ∀ b, b < 17 → a ≠ b → (TX11 a).2.1 ≠ (TX11 b).2.1 := by decide +kernel
theorem tyX11_ok : ∀ k, k < 17 → parseFieldDescriptor (TX11 k).2.2.1 = some (tyX11 k) := by decide +kernel
abbrev cX11_init : ByteArray := prog_11_method_1_code
def yX11_init : MethodName := ⟨RX11, "<init>", "()V"⟩
abbrev cX11_thrown : ByteArray := prog_11_method_2_code
def yX11_thrown : MethodName := ⟨RX11, "thrown", "()I"⟩
abbrev cX11_no : ByteArray := prog_11_method_3_code
def yX11_no : MethodName := ⟨RX11, "no", "(I)I"⟩
abbrev cX11_in : ByteArray := prog_11_method_4_code
def yX11_in : MethodName := ⟨RX11, "in", "(III)Z"⟩
abbrev cX11_lower : ByteArray := prog_11_method_5_code
def yX11_lower : MethodName := ⟨RX11, "lower", "(II)I"⟩
abbrev cX11_part : ByteArray := prog_11_method_6_code
def yX11_part : MethodName := ⟨RX11, "part", "(II)I"⟩
abbrev cX11_modulusOf : ByteArray := prog_11_method_7_code
def yX11_modulusOf : MethodName := ⟨RX11, "modulusOf", "([II)I"⟩
abbrev cX11_step : ByteArray := prog_11_method_8_code
def yX11_step : MethodName := ⟨RX11, "step", "(LClinkerWorksModel$Kiln;Ljava/util/List;Ljava/util/List;)V"⟩
abbrev cX11_isBlock : ByteArray := prog_11_method_9_code
def yX11_isBlock : MethodName := ⟨RX11, "isBlock", "(I)Z"⟩
abbrev cX11_isLot : ByteArray := prog_11_method_10_code
def yX11_isLot : MethodName := ⟨RX11, "isLot", "(I)Z"⟩
abbrev cX11_pile : ByteArray := prog_11_method_11_code
def yX11_pile : MethodName := ⟨RX11, "pile", "()I"⟩
abbrev cX11_block : ByteArray := prog_11_method_12_code
def yX11_block : MethodName := ⟨RX11, "block", "(IIIII)I"⟩
abbrev cX11_drill : ByteArray := prog_11_method_13_code
def yX11_drill : MethodName := ⟨RX11, "drill", "(I)Z"⟩
abbrev cX11_blast : ByteArray := prog_11_method_14_code
def yX11_blast : MethodName := ⟨RX11, "blast", "(II)I"⟩
abbrev cX11_cutOf : ByteArray := prog_11_method_15_code
def yX11_cutOf : MethodName := ⟨RX11, "cutOf", "(I)[I"⟩
abbrev cX11_fill : ByteArray := prog_11_method_16_code
def yX11_fill : MethodName := ⟨RX11, "fill", "([I[IIII)V"⟩
abbrev cX11_charge : ByteArray := prog_11_method_17_code
def yX11_charge : MethodName := ⟨RX11, "charge", "(IIII)I"⟩
abbrev cX11_flame : ByteArray := prog_11_method_18_code
def yX11_flame : MethodName := ⟨RX11, "flame", "(I)I"⟩
abbrev cX11_coal : ByteArray := prog_11_method_19_code
def yX11_coal : MethodName := ⟨RX11, "coal", "(I)I"⟩
abbrev cX11_run : ByteArray := prog_11_method_20_code
def yX11_run : MethodName := ⟨RX11, "run", "(I)I"⟩
abbrev cX11_hammer : ByteArray := prog_11_method_21_code
def yX11_hammer : MethodName := ⟨RX11, "hammer", "()I"⟩
abbrev cX11_grind : ByteArray := prog_11_method_22_code
def yX11_grind : MethodName := ⟨RX11, "grind", "(IIII)I"⟩
abbrev cX11_sell : ByteArray := prog_11_method_23_code
def yX11_sell : MethodName := ⟨RX11, "sell", "(II)I"⟩
abbrev cX11_open : ByteArray := prog_11_method_24_code
def yX11_open : MethodName := ⟨RX11, "open", "(I)Z"⟩
abbrev cX11_inWindow : ByteArray := prog_11_method_25_code
def yX11_inWindow : MethodName := ⟨RX11, "inWindow", "()I"⟩
abbrev cX11_sum : ByteArray := prog_11_method_26_code
def yX11_sum : MethodName := ⟨RX11, "sum", "()I"⟩
abbrev cX11_conformNow : ByteArray := prog_11_method_27_code
def yX11_conformNow : MethodName := ⟨RX11, "conformNow", "()Z"⟩
abbrev cX11_cube : ByteArray := prog_11_method_28_code
def yX11_cube : MethodName := ⟨RX11, "cube", "(II)I"⟩
abbrev cX11_standard : ByteArray := prog_11_method_29_code
def yX11_standard : MethodName := ⟨RX11, "standard", "(I)I"⟩
abbrev cX11_blockNow : ByteArray := prog_11_method_30_code
def yX11_blockNow : MethodName := ⟨RX11, "blockNow", "(II)I"⟩
abbrev cX11_ofBlock : ByteArray := prog_11_method_31_code
def yX11_ofBlock : MethodName := ⟨RX11, "ofBlock", "(II)I"⟩
abbrev cX11_ofLayer : ByteArray := prog_11_method_32_code
def yX11_ofLayer : MethodName := ⟨RX11, "ofLayer", "(II)I"⟩
abbrev cX11_cellNow : ByteArray := prog_11_method_33_code
def yX11_cellNow : MethodName := ⟨RX11, "cellNow", "(II)I"⟩
abbrev cX11_ofCell : ByteArray := prog_11_method_34_code
def yX11_ofCell : MethodName := ⟨RX11, "ofCell", "(II)I"⟩
abbrev cX11_ofLot : ByteArray := prog_11_method_35_code
def yX11_ofLot : MethodName := ⟨RX11, "ofLot", "(II)I"⟩
abbrev cX11_modulus : ByteArray := prog_11_method_36_code
def yX11_modulus : MethodName := ⟨RX11, "modulus", "(II)I"⟩
abbrev cX11_rowNow : ByteArray := prog_11_method_37_code
def yX11_rowNow : MethodName := ⟨RX11, "rowNow", "(II)I"⟩
abbrev cX11_row : ByteArray := prog_11_method_38_code
def yX11_row : MethodName := ⟨RX11, "row", "(II)I"⟩
abbrev cX11_manyNow : ByteArray := prog_11_method_39_code
def yX11_manyNow : MethodName := ⟨RX11, "manyNow", "(I)I"⟩
abbrev cX11_many : ByteArray := prog_11_method_40_code
def yX11_many : MethodName := ⟨RX11, "many", "(I)I"⟩
abbrev cX11_meanFound : ByteArray := prog_11_method_41_code
def yX11_meanFound : MethodName := ⟨RX11, "meanFound", "()D"⟩
abbrev cX11_isConform : ByteArray := prog_11_method_42_code
def yX11_isConform : MethodName := ⟨RX11, "isConform", "()Z"⟩
abbrev cX11_thoughtNow : ByteArray := prog_11_method_43_code
def yX11_thoughtNow : MethodName := ⟨RX11, "thoughtNow", "(I)I"⟩
abbrev cX11_thought : ByteArray := prog_11_method_44_code
def yX11_thought : MethodName := ⟨RX11, "thought", "(I)I"⟩
abbrev cX11_bestNow : ByteArray := prog_11_method_45_code
def yX11_bestNow : MethodName := ⟨RX11, "bestNow", "(I)I"⟩
abbrev cX11_bestCharge : ByteArray := prog_11_method_46_code
def yX11_bestCharge : MethodName := ⟨RX11, "bestCharge", "(I)I"⟩
abbrev cX11_copies : ByteArray := prog_11_method_47_code
def yX11_copies : MethodName := ⟨RX11, "copies", "()Ljava/util/List;"⟩
abbrev cX11_freeNow : ByteArray := prog_11_method_48_code
def yX11_freeNow : MethodName := ⟨RX11, "freeNow", "(II)I"⟩
abbrev cX11_freeAfter : ByteArray := prog_11_method_49_code
def yX11_freeAfter : MethodName := ⟨RX11, "freeAfter", "(II)I"⟩
abbrev cX11_fallNow : ByteArray := prog_11_method_50_code
def yX11_fallNow : MethodName := ⟨RX11, "fallNow", "(I)I"⟩
abbrev cX11_letFall : ByteArray := prog_11_method_51_code
def yX11_letFall : MethodName := ⟨RX11, "letFall", "(I)I"⟩
abbrev cX11_digest : ByteArray := prog_11_method_52_code
def yX11_digest : MethodName := ⟨RX11, "digest", "()J"⟩
def RJx145de : String := "java/io/Serializable"
def TJx145de : u_T := fun k => match k with
  | _ => ("", "", "", false)
def tyJx145de : Nat → FieldType := fun k => match k with
  | _ => .int
abbrev wsJx145de0 : List Cond := u_ws RJx145de TJx145de 0
theorem nmJx145de : ∀ a, a < 0 → ∀ b, b < 0 → a ≠ b → (TJx145de a).2.1 ≠ (TJx145de b).2.1 := by decide +kernel
theorem tyJx145de_ok : ∀ k, k < 0 → parseFieldDescriptor (TJx145de k).2.2.1 = some (tyJx145de k) := by decide +kernel
def RJx8e188 : String := "java/lang/Cloneable"
def TJx8e188 : u_T := fun k => match k with
  | _ => ("", "", "", false)
def tyJx8e188 : Nat → FieldType := fun k => match k with
  | _ => .int
abbrev wsJx8e1880 : List Cond := u_ws RJx8e188 TJx8e188 0
theorem nmJx8e188 : ∀ a, a < 0 → ∀ b, b < 0 → a ≠ b → (TJx8e188 a).2.1 ≠ (TJx8e188 b).2.1 := by decide +kernel
theorem tyJx8e188_ok : ∀ k, k < 0 → parseFieldDescriptor (TJx8e188 k).2.2.1 = some (tyJx8e188 k) := by decide +kernel
def RJxab1ab : String := "java/lang/Iterable"
def TJxab1ab : u_T := fun k => match k with
  | _ => ("", "", "", false)
def tyJxab1ab : Nat → FieldType := fun k => match k with
  | _ => .int
abbrev wsJxab1ab0 : List Cond := u_ws RJxab1ab TJxab1ab 0
theorem nmJxab1ab : ∀ a, a < 0 → ∀ b, b < 0 → a ≠ b → (TJxab1ab a).2.1 ≠ (TJxab1ab b).2.1 := by decide +kernel
theorem tyJxab1ab_ok : ∀ k, k < 0 → parseFieldDescriptor (TJxab1ab k).2.2.1 = some (tyJxab1ab k) := by decide +kernel
def RJ9 : String := "java/lang/Math"
def TJ9 : u_T := fun k => match k with
  | _ => ("", "", "", false)
def tyJ9 : Nat → FieldType := fun k => match k with
  | _ => .int
abbrev wsJ90 : List Cond := u_ws RJ9 TJ9 0
theorem nmJ9 : ∀ a, a < 0 → ∀ b, b < 0 → a ≠ b → (TJ9 a).2.1 ≠ (TJ9 b).2.1 := by decide +kernel
theorem tyJ9_ok : ∀ k, k < 0 → parseFieldDescriptor (TJ9 k).2.2.1 = some (tyJ9 k) := by decide +kernel
abbrev cJ9_floorDiv_7cf53 : ByteArray := prog_21_method_47_code
def yJ9_floorDiv_7cf53 : MethodName := ⟨RJ9, "floorDiv", "(II)I"⟩
abbrev cJ9_abs_0f7a4 : ByteArray := prog_21_method_59_code
def yJ9_abs_0f7a4 : MethodName := ⟨RJ9, "abs", "(I)I"⟩
abbrev cJ9_max_7cf53 : ByteArray := prog_21_method_65_code
def yJ9_max_7cf53 : MethodName := ⟨RJ9, "max", "(II)I"⟩
abbrev cJ9_min_7cf53 : ByteArray := prog_21_method_69_code
def yJ9_min_7cf53 : MethodName := ⟨RJ9, "min", "(II)I"⟩
def RJ0 : String := "java/lang/String"
def TJ0 : u_T := fun k => match k with
  | _ => ("", "", "", false)
def tyJ0 : Nat → FieldType := fun k => match k with
  | _ => .int
abbrev wsJ00 : List Cond := u_ws RJ0 TJ0 0
theorem nmJ0 : ∀ a, a < 0 → ∀ b, b < 0 → a ≠ b → (TJ0 a).2.1 ≠ (TJ0 b).2.1 := by decide +kernel
theorem tyJ0_ok : ∀ k, k < 0 → parseFieldDescriptor (TJ0 k).2.2.1 = some (tyJ0 k) := by decide +kernel
def RJ10 : String := "java/lang/System"
def TJ10 : u_T := fun k => match k with
  | _ => ("", "", "", false)
def tyJ10 : Nat → FieldType := fun k => match k with
  | _ => .int
abbrev wsJ100 : List Cond := u_ws RJ10 TJ10 0
theorem nmJ10 : ∀ a, a < 0 → ∀ b, b < 0 → a ≠ b → (TJ10 a).2.1 ≠ (TJ10 b).2.1 := by decide +kernel
theorem tyJ10_ok : ∀ k, k < 0 → parseFieldDescriptor (TJ10 k).2.2.1 = some (tyJ10 k) := by decide +kernel
def RJxa1e45 : String := "java/util/AbstractCollection"
def TJxa1e45 : u_T := fun k => match k with
  | _ => ("", "", "", false)
def tyJxa1e45 : Nat → FieldType := fun k => match k with
  | _ => .int
abbrev wsJxa1e450 : List Cond := u_ws RJxa1e45 TJxa1e45 0
theorem nmJxa1e45 : ∀ a, a < 0 → ∀ b, b < 0 → a ≠ b → (TJxa1e45 a).2.1 ≠ (TJxa1e45 b).2.1 := by decide +kernel
theorem tyJxa1e45_ok : ∀ k, k < 0 → parseFieldDescriptor (TJxa1e45 k).2.2.1 = some (tyJxa1e45 k) := by decide +kernel
abbrev cJxa1e45_init_da8c8 : ByteArray := prog_26_method_1_code
def yJxa1e45_init_da8c8 : MethodName := ⟨RJxa1e45, "<init>", "()V"⟩
def RJxc12de : String := "java/util/AbstractList"
def TJxc12de : u_T := fun k => match k with
  | _ => ("", "", "", false)
def tyJxc12de : Nat → FieldType := fun k => match k with
  | _ => .int
abbrev wsJxc12de0 : List Cond := u_ws RJxc12de TJxc12de 0
theorem nmJxc12de : ∀ a, a < 0 → ∀ b, b < 0 → a ≠ b → (TJxc12de a).2.1 ≠ (TJxc12de b).2.1 := by decide +kernel
theorem tyJxc12de_ok : ∀ k, k < 0 → parseFieldDescriptor (TJxc12de k).2.2.1 = some (tyJxc12de k) := by decide +kernel
abbrev cJxc12de_init_da8c8 : ByteArray := prog_27_method_1_code
def yJxc12de_init_da8c8 : MethodName := ⟨RJxc12de, "<init>", "()V"⟩
def RJx4a65c : String := "java/util/ArrayList"
def TJx4a65c : u_T := fun k => match k with
  | 0 => ("java/util/AbstractList", "modCount", "I", false)
  | 1 => ("java/util/ArrayList", "elementData", "[Ljava/lang/Object;", false)
  | _ => ("java/util/ArrayList", "size", "I", false)
def tyJx4a65c : Nat → FieldType := fun k => match k with
  | 0 => .int
  | 1 => .array (.object "java/lang/Object")
  | _ => .int
abbrev wsJx4a65c0 : List Cond := u_ws RJx4a65c TJx4a65c 3
theorem nmJx4a65c : ∀ a, a < 3 → ∀ b, b < 3 → a ≠ b → (TJx4a65c a).2.1 ≠ (TJx4a65c b).2.1 := by decide +kernel
theorem tyJx4a65c_ok : ∀ k, k < 3 → parseFieldDescriptor (TJx4a65c k).2.2.1 = some (tyJx4a65c k) := by decide +kernel
abbrev cJx4a65c_init_da8c8 : ByteArray := prog_28_method_2_code
def yJx4a65c_init_da8c8 : MethodName := ⟨RJx4a65c, "<init>", "()V"⟩
abbrev cJx4a65c_grow_92f84 : ByteArray := prog_28_method_6_code
def yJx4a65c_grow_92f84 : MethodName := ⟨RJx4a65c, "grow", "(I)[Ljava/lang/Object;"⟩
abbrev cJx4a65c_grow_d5877 : ByteArray := prog_28_method_7_code
def yJx4a65c_grow_d5877 : MethodName := ⟨RJx4a65c, "grow", "()[Ljava/lang/Object;"⟩
abbrev cJx4a65c_size_8abf5 : ByteArray := prog_28_method_8_code
def yJx4a65c_size_8abf5 : MethodName := ⟨RJx4a65c, "size", "()I"⟩
abbrev cJx4a65c_isEmpty_aae02 : ByteArray := prog_28_method_9_code
def yJx4a65c_isEmpty_aae02 : MethodName := ⟨RJx4a65c, "isEmpty", "()Z"⟩
abbrev cJx4a65c_elementData_915e3 : ByteArray := prog_28_method_18_code
def yJx4a65c_elementData_915e3 : MethodName := ⟨RJx4a65c, "elementData", "(I)Ljava/lang/Object;"⟩
abbrev cJx4a65c_get_915e3 : ByteArray := prog_28_method_20_code
def yJx4a65c_get_915e3 : MethodName := ⟨RJx4a65c, "get", "(I)Ljava/lang/Object;"⟩
abbrev cJx4a65c_add_72be8 : ByteArray := prog_28_method_24_code
def yJx4a65c_add_72be8 : MethodName := ⟨RJx4a65c, "add", "(Ljava/lang/Object;[Ljava/lang/Object;I)V"⟩
abbrev cJx4a65c_add_9ea2d : ByteArray := prog_28_method_25_code
def yJx4a65c_add_9ea2d : MethodName := ⟨RJx4a65c, "add", "(Ljava/lang/Object;)Z"⟩
abbrev cJx4a65c_remove_915e3 : ByteArray := prog_28_method_29_code
def yJx4a65c_remove_915e3 : MethodName := ⟨RJx4a65c, "remove", "(I)Ljava/lang/Object;"⟩
abbrev cJx4a65c_fastRemove_b59b0 : ByteArray := prog_28_method_39_code
def yJx4a65c_fastRemove_b59b0 : MethodName := ⟨RJx4a65c, "fastRemove", "([Ljava/lang/Object;I)V"⟩
def RJ7 : String := "java/util/Arrays"
def TJ7 : u_T := fun k => match k with
  | _ => ("", "", "", false)
def tyJ7 : Nat → FieldType := fun k => match k with
  | _ => .int
abbrev wsJ70 : List Cond := u_ws RJ7 TJ7 0
theorem nmJ7 : ∀ a, a < 0 → ∀ b, b < 0 → a ≠ b → (TJ7 a).2.1 ≠ (TJ7 b).2.1 := by decide +kernel
theorem tyJ7_ok : ∀ k, k < 0 → parseFieldDescriptor (TJ7 k).2.2.1 = some (tyJ7 k) := by decide +kernel
abbrev cJ7_copyOf_1904c : ByteArray := prog_29_method_119_code
def yJ7_copyOf_1904c : MethodName := ⟨RJ7, "copyOf", "([Ljava/lang/Object;I)[Ljava/lang/Object;"⟩
abbrev cJ7_copyOf_6403c : ByteArray := prog_29_method_120_code
def yJ7_copyOf_6403c : MethodName := ⟨RJ7, "copyOf", "([Ljava/lang/Object;ILjava/lang/Class;)[Ljava/lang/Object;"⟩
def RJx5ef63 : String := "java/util/Collection"
def TJx5ef63 : u_T := fun k => match k with
  | _ => ("", "", "", false)
def tyJx5ef63 : Nat → FieldType := fun k => match k with
  | _ => .int
abbrev wsJx5ef630 : List Cond := u_ws RJx5ef63 TJx5ef63 0
theorem nmJx5ef63 : ∀ a, a < 0 → ∀ b, b < 0 → a ≠ b → (TJx5ef63 a).2.1 ≠ (TJx5ef63 b).2.1 := by decide +kernel
theorem tyJx5ef63_ok : ∀ k, k < 0 → parseFieldDescriptor (TJx5ef63 k).2.2.1 = some (tyJx5ef63 k) := by decide +kernel
def RJxbd725 : String := "java/util/List"
def TJxbd725 : u_T := fun k => match k with
  | _ => ("", "", "", false)
def tyJxbd725 : Nat → FieldType := fun k => match k with
  | _ => .int
abbrev wsJxbd7250 : List Cond := u_ws RJxbd725 TJxbd725 0
theorem nmJxbd725 : ∀ a, a < 0 → ∀ b, b < 0 → a ≠ b → (TJxbd725 a).2.1 ≠ (TJxbd725 b).2.1 := by decide +kernel
theorem tyJxbd725_ok : ∀ k, k < 0 → parseFieldDescriptor (TJxbd725 k).2.2.1 = some (tyJxbd725 k) := by decide +kernel
def RJ15 : String := "java/util/Objects"
def TJ15 : u_T := fun k => match k with
  | _ => ("", "", "", false)
def tyJ15 : Nat → FieldType := fun k => match k with
  | _ => .int
abbrev wsJ150 : List Cond := u_ws RJ15 TJ15 0
theorem nmJ15 : ∀ a, a < 0 → ∀ b, b < 0 → a ≠ b → (TJ15 a).2.1 ≠ (TJ15 b).2.1 := by decide +kernel
theorem tyJ15_ok : ∀ k, k < 0 → parseFieldDescriptor (TJ15 k).2.2.1 = some (tyJ15 k) := by decide +kernel
abbrev cJ15_checkIndex_7cf53 : ByteArray := prog_32_method_17_code
def yJ15_checkIndex_7cf53 : MethodName := ⟨RJ15, "checkIndex", "(II)I"⟩
def RJxf0a74 : String := "java/util/RandomAccess"
def TJxf0a74 : u_T := fun k => match k with
  | _ => ("", "", "", false)
def tyJxf0a74 : Nat → FieldType := fun k => match k with
  | _ => .int
abbrev wsJxf0a740 : List Cond := u_ws RJxf0a74 TJxf0a74 0
theorem nmJxf0a74 : ∀ a, a < 0 → ∀ b, b < 0 → a ≠ b → (TJxf0a74 a).2.1 ≠ (TJxf0a74 b).2.1 := by decide +kernel
theorem tyJxf0a74_ok : ∀ k, k < 0 → parseFieldDescriptor (TJxf0a74 k).2.2.1 = some (tyJxf0a74 k) := by decide +kernel
def RJxa66e6 : String := "java/util/SequencedCollection"
def TJxa66e6 : u_T := fun k => match k with
  | _ => ("", "", "", false)
def tyJxa66e6 : Nat → FieldType := fun k => match k with
  | _ => .int
abbrev wsJxa66e60 : List Cond := u_ws RJxa66e6 TJxa66e6 0
theorem nmJxa66e6 : ∀ a, a < 0 → ∀ b, b < 0 → a ≠ b → (TJxa66e6 a).2.1 ≠ (TJxa66e6 b).2.1 := by decide +kernel
theorem tyJxa66e6_ok : ∀ k, k < 0 → parseFieldDescriptor (TJxa66e6 k).2.2.1 = some (tyJxa66e6 k) := by decide +kernel
def RJ8 : String := "jdk/internal/util/ArraysSupport"
def TJ8 : u_T := fun k => match k with
  | _ => ("", "", "", false)
def tyJ8 : Nat → FieldType := fun k => match k with
  | _ => .int
abbrev wsJ80 : List Cond := u_ws RJ8 TJ8 0
theorem nmJ8 : ∀ a, a < 0 → ∀ b, b < 0 → a ≠ b → (TJ8 a).2.1 ≠ (TJ8 b).2.1 := by decide +kernel
theorem tyJ8_ok : ∀ k, k < 0 → parseFieldDescriptor (TJ8 k).2.2.1 = some (tyJ8 k) := by decide +kernel
abbrev cJ8_newLength_cabcc : ByteArray := prog_35_method_27_code
def yJ8_newLength_cabcc : MethodName := ⟨RJ8, "newLength", "(III)I"⟩
abbrev cJ8_hugeLength_7cf53 : ByteArray := prog_35_method_28_code
def yJ8_hugeLength_7cf53 : MethodName := ⟨RJ8, "hugeLength", "(II)I"⟩
def RJ3 : String := "jdk/internal/util/Preconditions"
def TJ3 : u_T := fun k => match k with
  | _ => ("", "", "", false)
def tyJ3 : Nat → FieldType := fun k => match k with
  | _ => .int
abbrev wsJ30 : List Cond := u_ws RJ3 TJ3 0
theorem nmJ3 : ∀ a, a < 0 → ∀ b, b < 0 → a ≠ b → (TJ3 a).2.1 ≠ (TJ3 b).2.1 := by decide +kernel
theorem tyJ3_ok : ∀ k, k < 0 → parseFieldDescriptor (TJ3 k).2.2.1 = some (tyJ3 k) := by decide +kernel
abbrev cJ3_checkIndex_8e157 : ByteArray := prog_36_method_11_code
def yJ3_checkIndex_8e157 : MethodName := ⟨RJ3, "checkIndex", "(IILjava/util/function/BiFunction;)I"⟩
def RL : String := "ClinkerWorksLaw"
abbrev cL_block : ByteArray := method_3_code
def yL_block : MethodName := ⟨RL, "block", "(LClinkerWorks;IIIII[J)I"⟩
abbrev cL_drill : ByteArray := method_4_code
def yL_drill : MethodName := ⟨RL, "drill", "(LClinkerWorks;I[J)I"⟩
abbrev cL_blast : ByteArray := method_5_code
def yL_blast : MethodName := ⟨RL, "blast", "(LClinkerWorks;II[J)I"⟩
abbrev cL_charge : ByteArray := method_6_code
def yL_charge : MethodName := ⟨RL, "charge", "(LClinkerWorks;IIII[J)I"⟩
abbrev cL_flame : ByteArray := method_7_code
def yL_flame : MethodName := ⟨RL, "flame", "(LClinkerWorks;I[J)I"⟩
abbrev cL_coal : ByteArray := method_8_code
def yL_coal : MethodName := ⟨RL, "coal", "(LClinkerWorks;I[J)I"⟩
abbrev cL_run : ByteArray := method_9_code
def yL_run : MethodName := ⟨RL, "run", "(LClinkerWorks;I[J)I"⟩
abbrev cL_grind : ByteArray := method_10_code
def yL_grind : MethodName := ⟨RL, "grind", "(LClinkerWorks;IIII[J)I"⟩
abbrev cL_sell : ByteArray := method_11_code
def yL_sell : MethodName := ⟨RL, "sell", "(LClinkerWorks;II[J)I"⟩
abbrev cL_open : ByteArray := method_12_code
def yL_open : MethodName := ⟨RL, "open", "(LClinkerWorks;I[J)I"⟩
abbrev cL_cube : ByteArray := method_13_code
def yL_cube : MethodName := ⟨RL, "cube", "(LClinkerWorks;II[J)I"⟩
abbrev cL_standard : ByteArray := method_14_code
def yL_standard : MethodName := ⟨RL, "standard", "(LClinkerWorks;I[J)I"⟩
abbrev cL_ofBlock : ByteArray := method_15_code
def yL_ofBlock : MethodName := ⟨RL, "ofBlock", "(LClinkerWorks;II[J)I"⟩
abbrev cL_ofLayer : ByteArray := method_16_code
def yL_ofLayer : MethodName := ⟨RL, "ofLayer", "(LClinkerWorks;II[J)I"⟩
abbrev cL_ofCell : ByteArray := method_17_code
def yL_ofCell : MethodName := ⟨RL, "ofCell", "(LClinkerWorks;II[J)I"⟩
abbrev cL_ofLot : ByteArray := method_18_code
def yL_ofLot : MethodName := ⟨RL, "ofLot", "(LClinkerWorks;II[J)I"⟩
abbrev cL_modulus : ByteArray := method_19_code
def yL_modulus : MethodName := ⟨RL, "modulus", "(LClinkerWorks;II[J)I"⟩
abbrev cL_row : ByteArray := method_20_code
def yL_row : MethodName := ⟨RL, "row", "(LClinkerWorks;II[J)I"⟩
abbrev cL_many : ByteArray := method_21_code
def yL_many : MethodName := ⟨RL, "many", "(LClinkerWorks;I[J)I"⟩
abbrev cL_thought : ByteArray := method_22_code
def yL_thought : MethodName := ⟨RL, "thought", "(LClinkerWorks;I[J)I"⟩
abbrev cL_bestCharge : ByteArray := method_23_code
def yL_bestCharge : MethodName := ⟨RL, "bestCharge", "(LClinkerWorks;I[J)I"⟩
abbrev cL_freeAfter : ByteArray := method_24_code
def yL_freeAfter : MethodName := ⟨RL, "freeAfter", "(LClinkerWorks;II[J)I"⟩
abbrev cL_letFall : ByteArray := method_25_code
def yL_letFall : MethodName := ⟨RL, "letFall", "(LClinkerWorks;I[J)I"⟩
abbrev cL_law : ByteArray := code
def yL_law : MethodName := ⟨RL, "law", "([I)Z"⟩
abbrev vwCl : List vw_C := [(RJx4a65c, TJx4a65c, 3), (RX0, TX0, 3), (RX1, TX1, 8), (RX2, TX2, 12), (RX3, TX3, 7), (RX4, TX4, 1), (RX5, TX5, 4), (RX6, TX6, 3), (RX7, TX7, 3), (RX8, TX8, 14), (RX9, TX9, 12), (RX10, TX10, 10), (RX11, TX11, 17)]
