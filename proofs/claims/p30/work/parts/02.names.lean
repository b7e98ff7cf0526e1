/-! ===== BEGIN printed: names, fields, word lists, decode rows ===== -/
def RX0 : String := "ClinkerWorks$Block"
def TX0 : u_T := fun k => match k with
  | 0 => ("ClinkerWorks$Block", "stone", "I", false)
  | 1 => ("ClinkerWorks$Block", "known", "Z", false)
  | _ => ("ClinkerWorks$Block", "oxides", "[I", true)
def tyX0 : Nat → FieldType := fun k => match k with
  | 0 => .int
  | 1 => .boolean
  | _ => .array .int
abbrev wsX00 : List Cond := u_ws RX0 TX0 3
theorem nmX0 : ∀ a, a < 3 → ∀ b, b < 3 → a ≠ b → (TX0 a).2.1 ≠ (TX0 b).2.1 := by decide +kernel
theorem tyX0_ok : ∀ k, k < 3 → parseFieldDescriptor (TX0 k).2.2.1 = some (tyX0 k) := by decide +kernel
abbrev cX0_init : ByteArray := prog_2_method_1_code
def yX0_init : MethodName := ⟨RX0, "<init>", "()V"⟩
abbrev cX0_tell : ByteArray := prog_2_method_2_code
def yX0_tell : MethodName := ⟨RX0, "tell", "(IIIII)V"⟩
abbrev cX0_believed : ByteArray := prog_2_method_3_code
def yX0_believed : MethodName := ⟨RX0, "believed", "(I)I"⟩
def RX1 : String := "ClinkerWorks$Charge"
def TX1 : u_T := fun k => match k with
  | 0 => ("ClinkerWorks$Charge", "present", "Z", false)
  | 1 => ("ClinkerWorks$Charge", "mix", "LClinkerWorks$Mix;", true)
  | 2 => ("ClinkerWorks$Charge", "partsOfBlocks", "[I", true)
  | 3 => ("ClinkerWorks$Charge", "raw", "I", false)
  | 4 => ("ClinkerWorks$Charge", "free", "I", false)
  | 5 => ("ClinkerWorks$Charge", "sand", "I", false)
  | 6 => ("ClinkerWorks$Charge", "belite", "I", false)
  | _ => ("ClinkerWorks$Charge", "alite", "I", false)
def tyX1 : Nat → FieldType := fun k => match k with
  | 0 => .boolean
  | 1 => .object "ClinkerWorks$Mix"
  | 2 => .array .int
  | 3 => .int
  | 4 => .int
  | 5 => .int
  | 6 => .int
  | _ => .int
abbrev wsX10 : List Cond := u_ws RX1 TX1 8
theorem nmX1 : ∀ a, a < 8 → ∀ b, b < 8 → a ≠ b → (TX1 a).2.1 ≠ (TX1 b).2.1 := by decide +kernel
theorem tyX1_ok : ∀ k, k < 8 → parseFieldDescriptor (TX1 k).2.2.1 = some (tyX1 k) := by decide +kernel
abbrev cX1_init : ByteArray := prog_3_method_1_code
def yX1_init : MethodName := ⟨RX1, "<init>", "()V"⟩
abbrev cX1_begin : ByteArray := prog_3_method_2_code
def yX1_begin : MethodName := ⟨RX1, "begin", "(LClinkerWorks$Mix;)V"⟩
abbrev cX1_copyFrom : ByteArray := prog_3_method_3_code
def yX1_copyFrom : MethodName := ⟨RX1, "copyFrom", "(LClinkerWorks$Charge;)V"⟩
abbrev cX1_melt : ByteArray := prog_3_method_4_code
def yX1_melt : MethodName := ⟨RX1, "melt", "()I"⟩
abbrev cX1_burn : ByteArray := prog_3_method_5_code
def yX1_burn : MethodName := ⟨RX1, "burn", "(I)I"⟩
def RX2 : String := "ClinkerWorks$Kiln"
def TX2 : u_T := fun k => match k with
  | 0 => ("ClinkerWorks$Kiln", "cells", "[LClinkerWorks$Charge;", true)
  | 1 => ("ClinkerWorks$Kiln", "warmth", "[I", true)
  | 2 => ("ClinkerWorks$Kiln", "waiting", "[LClinkerWorks$Charge;", true)
  | 3 => ("ClinkerWorks$Kiln", "waits", "I", false)
  | 4 => ("ClinkerWorks$Kiln", "out", "LClinkerWorks$Charge;", false)
  | 5 => ("ClinkerWorks$Kiln", "flame", "I", false)
  | 6 => ("ClinkerWorks$Kiln", "coal", "I", false)
  | 7 => ("ClinkerWorks$Kiln", "ring", "I", false)
  | 8 => ("ClinkerWorks$Kiln", "now", "I", false)
  | 9 => ("ClinkerWorks$Kiln", "fallen", "I", false)
  | 10 => ("ClinkerWorks$Kiln", "blocked", "I", false)
  | _ => ("ClinkerWorks$Kiln", "carbon", "I", false)
def tyX2 : Nat → FieldType := fun k => match k with
  | 0 => .array (.object "ClinkerWorks$Charge")
  | 1 => .array .int
  | 2 => .array (.object "ClinkerWorks$Charge")
  | 3 => .int
  | 4 => .object "ClinkerWorks$Charge"
  | 5 => .int
  | 6 => .int
  | 7 => .int
  | 8 => .int
  | 9 => .int
  | 10 => .int
  | _ => .int
abbrev wsX20 : List Cond := u_ws RX2 TX2 12
theorem nmX2 : ∀ a, a < 12 → ∀ b, b < 12 → a ≠ b → (TX2 a).2.1 ≠ (TX2 b).2.1 := by decide +kernel
theorem tyX2_ok : ∀ k, k < 12 → parseFieldDescriptor (TX2 k).2.2.1 = some (tyX2 k) := by decide +kernel
abbrev cX2_init : ByteArray := prog_4_method_1_code
def yX2_init : MethodName := ⟨RX2, "<init>", "()V"⟩
abbrev cX2_copyFrom : ByteArray := prog_4_method_2_code
def yX2_copyFrom : MethodName := ⟨RX2, "copyFrom", "(LClinkerWorks$Kiln;)V"⟩
abbrev cX2_isQueueFull : ByteArray := prog_4_method_3_code
def yX2_isQueueFull : MethodName := ⟨RX2, "isQueueFull", "()Z"⟩
abbrev cX2_addWaiting : ByteArray := prog_4_method_4_code
def yX2_addWaiting : MethodName := ⟨RX2, "addWaiting", "(LClinkerWorks$Mix;)LClinkerWorks$Charge;"⟩
abbrev cX2_step : ByteArray := prog_4_method_5_code
def yX2_step : MethodName := ⟨RX2, "step", "()Z"⟩
abbrev cX2_burnCoal : ByteArray := prog_4_method_6_code
def yX2_burnCoal : MethodName := ⟨RX2, "burnCoal", "()I"⟩
abbrev cX2_moveOn : ByteArray := prog_4_method_7_code
def yX2_moveOn : MethodName := ⟨RX2, "moveOn", "()Z"⟩
abbrev cX2_nextWaiting : ByteArray := prog_4_method_8_code
def yX2_nextWaiting : MethodName := ⟨RX2, "nextWaiting", "(LClinkerWorks$Charge;)LClinkerWorks$Charge;"⟩
abbrev cX2_warmCells : ByteArray := prog_4_method_9_code
def yX2_warmCells : MethodName := ⟨RX2, "warmCells", "(I)V"⟩
abbrev cX2_changeRing : ByteArray := prog_4_method_10_code
def yX2_changeRing : MethodName := ⟨RX2, "changeRing", "()V"⟩
def RX3 : String := "ClinkerWorks$Lot"
def TX3 : u_T := fun k => match k with
  | 0 => ("ClinkerWorks$Lot", "burnt", "LClinkerWorks$Charge;", true)
  | 1 => ("ClinkerWorks$Lot", "fineness", "I", false)
  | 2 => ("ClinkerWorks$Lot", "gypsum", "I", false)
  | 3 => ("ClinkerWorks$Lot", "silo", "I", false)
  | 4 => ("ClinkerWorks$Lot", "sacksAsGround", "I", false)
  | 5 => ("ClinkerWorks$Lot", "sacks", "I", false)
  | _ => ("ClinkerWorks$Lot", "found", "[I", true)
def tyX3 : Nat → FieldType := fun k => match k with
  | 0 => .object "ClinkerWorks$Charge"
  | 1 => .int
  | 2 => .int
  | 3 => .int
  | 4 => .int
  | 5 => .int
  | _ => .array .int
abbrev wsX30 : List Cond := u_ws RX3 TX3 7
theorem nmX3 : ∀ a, a < 7 → ∀ b, b < 7 → a ≠ b → (TX3 a).2.1 ≠ (TX3 b).2.1 := by decide +kernel
theorem tyX3_ok : ∀ k, k < 7 → parseFieldDescriptor (TX3 k).2.2.1 = some (tyX3 k) := by decide +kernel
abbrev cX3_init : ByteArray := prog_5_method_1_code
def yX3_init : MethodName := ⟨RX3, "<init>", "()V"⟩
abbrev cX3_isFound : ByteArray := prog_5_method_3_code
def yX3_isFound : MethodName := ⟨RX3, "isFound", "(I)Z"⟩
def RX4 : String := "ClinkerWorks$Mix"
def TX4 : u_T := fun k => match k with
  | _ => ("ClinkerWorks$Mix", "amounts", "[I", true)
def tyX4 : Nat → FieldType := fun k => match k with
  | _ => .array .int
abbrev wsX40 : List Cond := u_ws RX4 TX4 1
theorem nmX4 : ∀ a, a < 1 → ∀ b, b < 1 → a ≠ b → (TX4 a).2.1 ≠ (TX4 b).2.1 := by decide +kernel
theorem tyX4_ok : ∀ k, k < 1 → parseFieldDescriptor (TX4 k).2.2.1 = some (tyX4 k) := by decide +kernel
abbrev cX4_init : ByteArray := prog_6_method_1_code
def yX4_init : MethodName := ⟨RX4, "<init>", "()V"⟩
abbrev cX4_clear : ByteArray := prog_6_method_2_code
def yX4_clear : MethodName := ⟨RX4, "clear", "()V"⟩
abbrev cX4_copyFrom : ByteArray := prog_6_method_3_code
def yX4_copyFrom : MethodName := ⟨RX4, "copyFrom", "(LClinkerWorks$Mix;)V"⟩
abbrev cX4_addStone : ByteArray := prog_6_method_4_code
def yX4_addStone : MethodName := ⟨RX4, "addStone", "(LClinkerWorks$Block;I)V"⟩
abbrev cX4_addBins : ByteArray := prog_6_method_5_code
def yX4_addBins : MethodName := ⟨RX4, "addBins", "(III)V"⟩
abbrev cX4_melt : ByteArray := prog_6_method_7_code
def yX4_melt : MethodName := ⟨RX4, "melt", "()I"⟩
abbrev cX4_saturation : ByteArray := prog_6_method_8_code
def yX4_saturation : MethodName := ⟨RX4, "saturation", "()I"⟩
abbrev cX4_silicaModulus : ByteArray := prog_6_method_9_code
def yX4_silicaModulus : MethodName := ⟨RX4, "silicaModulus", "()I"⟩
abbrev cX4_aluminaModulus : ByteArray := prog_6_method_10_code
def yX4_aluminaModulus : MethodName := ⟨RX4, "aluminaModulus", "()I"⟩
abbrev cX4_isRight : ByteArray := prog_6_method_11_code
def yX4_isRight : MethodName := ⟨RX4, "isRight", "()Z"⟩
abbrev cX4_isWithin : ByteArray := prog_6_method_12_code
def yX4_isWithin : MethodName := ⟨RX4, "isWithin", "(III)Z"⟩
abbrev cX4_quotient : ByteArray := prog_6_method_13_code
def yX4_quotient : MethodName := ⟨RX4, "quotient", "(II)I"⟩
def RX5 : String := "ClinkerWorks$Pile"
def TX5 : u_T := fun k => match k with
  | 0 => ("ClinkerWorks$Pile", "layers", "I", false)
  | 1 => ("ClinkerWorks$Pile", "blockOf", "[I", true)
  | 2 => ("ClinkerWorks$Pile", "parts", "[I", true)
  | _ => ("ClinkerWorks$Pile", "shares", "[I", true)
def tyX5 : Nat → FieldType := fun k => match k with
  | 0 => .int
  | 1 => .array .int
  | 2 => .array .int
  | _ => .array .int
abbrev wsX50 : List Cond := u_ws RX5 TX5 4
theorem nmX5 : ∀ a, a < 4 → ∀ b, b < 4 → a ≠ b → (TX5 a).2.1 ≠ (TX5 b).2.1 := by decide +kernel
theorem tyX5_ok : ∀ k, k < 4 → parseFieldDescriptor (TX5 k).2.2.1 = some (tyX5 k) := by decide +kernel
abbrev cX5_init : ByteArray := prog_7_method_1_code
def yX5_init : MethodName := ⟨RX5, "<init>", "()V"⟩
abbrev cX5_isFull : ByteArray := prog_7_method_2_code
def yX5_isFull : MethodName := ⟨RX5, "isFull", "()Z"⟩
abbrev cX5_total : ByteArray := prog_7_method_3_code
def yX5_total : MethodName := ⟨RX5, "total", "()I"⟩
abbrev cX5_addLayer : ByteArray := prog_7_method_4_code
def yX5_addLayer : MethodName := ⟨RX5, "addLayer", "(II)V"⟩
abbrev cX5_shareOut : ByteArray := prog_7_method_5_code
def yX5_shareOut : MethodName := ⟨RX5, "shareOut", "(I)V"⟩
abbrev cX5_shareRound : ByteArray := prog_7_method_6_code
def yX5_shareRound : MethodName := ⟨RX5, "shareRound", "(I)I"⟩
abbrev cX5_takeShares : ByteArray := prog_7_method_7_code
def yX5_takeShares : MethodName := ⟨RX5, "takeShares", "([I)V"⟩
def RX6 : String := "ClinkerWorks$Silo"
def TX6 : u_T := fun k => match k with
  | 0 => ("ClinkerWorks$Silo", "lots", "[I", true)
  | 1 => ("ClinkerWorks$Silo", "count", "I", false)
  | _ => ("ClinkerWorks$Silo", "shut", "Z", false)
def tyX6 : Nat → FieldType := fun k => match k with
  | 0 => .array .int
  | 1 => .int
  | _ => .boolean
abbrev wsX60 : List Cond := u_ws RX6 TX6 3
theorem nmX6 : ∀ a, a < 3 → ∀ b, b < 3 → a ≠ b → (TX6 a).2.1 ≠ (TX6 b).2.1 := by decide +kernel
theorem tyX6_ok : ∀ k, k < 3 → parseFieldDescriptor (TX6 k).2.2.1 = some (tyX6 k) := by decide +kernel
abbrev cX6_init : ByteArray := prog_8_method_1_code
def yX6_init : MethodName := ⟨RX6, "<init>", "()V"⟩
abbrev cX6_lotAt : ByteArray := prog_8_method_2_code
def yX6_lotAt : MethodName := ⟨RX6, "lotAt", "(I)I"⟩
def RX7 : String := "ClinkerWorks$Window"
def TX7 : u_T := fun k => match k with
  | 0 => ("ClinkerWorks$Window", "strengths", "[I", true)
  | 1 => ("ClinkerWorks$Window", "count", "I", false)
  | _ => ("ClinkerWorks$Window", "standard", "I", false)
def tyX7 : Nat → FieldType := fun k => match k with
  | 0 => .array .int
  | 1 => .int
  | _ => .int
abbrev wsX70 : List Cond := u_ws RX7 TX7 3
theorem nmX7 : ∀ a, a < 3 → ∀ b, b < 3 → a ≠ b → (TX7 a).2.1 ≠ (TX7 b).2.1 := by decide +kernel
theorem tyX7_ok : ∀ k, k < 3 → parseFieldDescriptor (TX7 k).2.2.1 = some (tyX7 k) := by decide +kernel
abbrev cX7_init : ByteArray := prog_9_method_1_code
def yX7_init : MethodName := ⟨RX7, "<init>", "()V"⟩
abbrev cX7_sum : ByteArray := prog_9_method_3_code
def yX7_sum : MethodName := ⟨RX7, "sum", "()I"⟩
abbrev cX7_holds : ByteArray := prog_9_method_5_code
def yX7_holds : MethodName := ⟨RX7, "holds", "()Z"⟩
def RX8 : String := "ClinkerWorks"
def TX8 : u_T := fun k => match k with
  | 0 => ("ClinkerWorks", "blocks", "[LClinkerWorks$Block;", true)
  | 1 => ("ClinkerWorks", "blockCount", "I", false)
  | 2 => ("ClinkerWorks", "pile", "LClinkerWorks$Pile;", true)
  | 3 => ("ClinkerWorks", "cutMix", "LClinkerWorks$Mix;", true)
  | 4 => ("ClinkerWorks", "triedMix", "LClinkerWorks$Mix;", true)
  | 5 => ("ClinkerWorks", "kiln", "LClinkerWorks$Kiln;", true)
  | 6 => ("ClinkerWorks", "trial", "LClinkerWorks$Kiln;", true)
  | 7 => ("ClinkerWorks", "lots", "[LClinkerWorks$Lot;", true)
  | 8 => ("ClinkerWorks", "lotCount", "I", false)
  | 9 => ("ClinkerWorks", "dumped", "I", false)
  | 10 => ("ClinkerWorks", "silos", "[LClinkerWorks$Silo;", true)
  | 11 => ("ClinkerWorks", "money", "I", false)
  | 12 => ("ClinkerWorks", "window", "LClinkerWorks$Window;", true)
  | _ => ("ClinkerWorks", "claims", "I", false)
def tyX8 : Nat → FieldType := fun k => match k with
  | 0 => .array (.object "ClinkerWorks$Block")
  | 1 => .int
  | 2 => .object "ClinkerWorks$Pile"
  | 3 => .object "ClinkerWorks$Mix"
  | 4 => .object "ClinkerWorks$Mix"
  | 5 => .object "ClinkerWorks$Kiln"
  | 6 => .object "ClinkerWorks$Kiln"
  | 7 => .array (.object "ClinkerWorks$Lot")
  | 8 => .int
  | 9 => .int
  | 10 => .array (.object "ClinkerWorks$Silo")
  | 11 => .int
  | 12 => .object "ClinkerWorks$Window"
  | _ => .int
abbrev wsX80 : List Cond := u_ws RX8 TX8 14
theorem nmX8 : ∀ a, a < 14 → ∀ b, b < 14 → a ≠ b → (TX8 a).2.1 ≠ (TX8 b).2.1 := by decide +kernel
theorem tyX8_ok : ∀ k, k < 14 → parseFieldDescriptor (TX8 k).2.2.1 = some (tyX8 k) := by decide +kernel
abbrev cX8_init : ByteArray := prog_1_method_1_code
def yX8_init : MethodName := ⟨RX8, "<init>", "()V"⟩
abbrev cX8_block : ByteArray := prog_1_method_2_code
def yX8_block : MethodName := ⟨RX8, "block", "(IIIII)I"⟩
abbrev cX8_blast : ByteArray := prog_1_method_4_code
def yX8_blast : MethodName := ⟨RX8, "blast", "(II)I"⟩
abbrev cX8_charge : ByteArray := prog_1_method_5_code
def yX8_charge : MethodName := ⟨RX8, "charge", "(IIII)I"⟩
abbrev cX8_flame : ByteArray := prog_1_method_6_code
def yX8_flame : MethodName := ⟨RX8, "flame", "(I)I"⟩
abbrev cX8_coal : ByteArray := prog_1_method_7_code
def yX8_coal : MethodName := ⟨RX8, "coal", "(I)I"⟩
abbrev cX8_run : ByteArray := prog_1_method_8_code
def yX8_run : MethodName := ⟨RX8, "run", "(I)I"⟩
abbrev cX8_ofBlock : ByteArray := prog_1_method_15_code
def yX8_ofBlock : MethodName := ⟨RX8, "ofBlock", "(II)I"⟩
abbrev cX8_ofLayer : ByteArray := prog_1_method_16_code
def yX8_ofLayer : MethodName := ⟨RX8, "ofLayer", "(II)I"⟩
abbrev cX8_ofCell : ByteArray := prog_1_method_17_code
def yX8_ofCell : MethodName := ⟨RX8, "ofCell", "(II)I"⟩
abbrev cX8_ofLot : ByteArray := prog_1_method_18_code
def yX8_ofLot : MethodName := ⟨RX8, "ofLot", "(II)I"⟩
abbrev cX8_modulus : ByteArray := prog_1_method_19_code
def yX8_modulus : MethodName := ⟨RX8, "modulus", "(II)I"⟩
abbrev cX8_row : ByteArray := prog_1_method_20_code
def yX8_row : MethodName := ⟨RX8, "row", "(II)I"⟩
abbrev cX8_many : ByteArray := prog_1_method_21_code
def yX8_many : MethodName := ⟨RX8, "many", "(I)I"⟩
abbrev cX8_isConform : ByteArray := prog_1_method_23_code
def yX8_isConform : MethodName := ⟨RX8, "isConform", "()Z"⟩
abbrev cX8_thought : ByteArray := prog_1_method_24_code
def yX8_thought : MethodName := ⟨RX8, "thought", "(I)I"⟩
abbrev cX8_bestCharge : ByteArray := prog_1_method_25_code
def yX8_bestCharge : MethodName := ⟨RX8, "bestCharge", "(I)I"⟩
abbrev cX8_freeAfter : ByteArray := prog_1_method_26_code
def yX8_freeAfter : MethodName := ⟨RX8, "freeAfter", "(II)I"⟩
abbrev cX8_letFall : ByteArray := prog_1_method_27_code
def yX8_letFall : MethodName := ⟨RX8, "letFall", "(I)I"⟩
abbrev cX8_digest : ByteArray := prog_1_method_28_code
def yX8_digest : MethodName := ⟨RX8, "digest", "()J"⟩
abbrev cX8_digestMany : ByteArray := prog_1_method_29_code
def yX8_digestMany : MethodName := ⟨RX8, "digestMany", "(J)J"⟩
abbrev cX8_digestStone : ByteArray := prog_1_method_30_code
def yX8_digestStone : MethodName := ⟨RX8, "digestStone", "(J)J"⟩
abbrev cX8_digestKiln : ByteArray := prog_1_method_31_code
def yX8_digestKiln : MethodName := ⟨RX8, "digestKiln", "(J)J"⟩
abbrev cX8_digestLots : ByteArray := prog_1_method_32_code
def yX8_digestLots : MethodName := ⟨RX8, "digestLots", "(J)J"⟩
abbrev cX8_digestSilos : ByteArray := prog_1_method_33_code
def yX8_digestSilos : MethodName := ⟨RX8, "digestSilos", "(J)J"⟩
abbrev cX8_fold : ByteArray := prog_1_method_34_code
def yX8_fold : MethodName := ⟨RX8, "fold", "(JJ)J"⟩
abbrev cX8_asNumber : ByteArray := prog_1_method_35_code
def yX8_asNumber : MethodName := ⟨RX8, "asNumber", "(Z)I"⟩
abbrev cX8_isIndex : ByteArray := prog_1_method_36_code
def yX8_isIndex : MethodName := ⟨RX8, "isIndex", "(II)Z"⟩
abbrev cX8_needIndex : ByteArray := prog_1_method_37_code
def yX8_needIndex : MethodName := ⟨RX8, "needIndex", "(II)V"⟩
abbrev cX8_needArgument : ByteArray := prog_1_method_38_code
def yX8_needArgument : MethodName := ⟨RX8, "needArgument", "(III)V"⟩
abbrev cX8_mixCut : ByteArray := prog_1_method_39_code
def yX8_mixCut : MethodName := ⟨RX8, "mixCut", "(I)V"⟩
abbrev cX8_storeLot : ByteArray := prog_1_method_40_code
def yX8_storeLot : MethodName := ⟨RX8, "storeLot", "(LClinkerWorks$Charge;)V"⟩
abbrev cX8_usualGain : ByteArray := prog_1_method_43_code
def yX8_usualGain : MethodName := ⟨RX8, "usualGain", "(I)I"⟩
abbrev cX8_smallestRight : ByteArray := prog_1_method_44_code
def yX8_smallestRight : MethodName := ⟨RX8, "smallestRight", "(I)I"⟩
abbrev cX8_isRightWith : ByteArray := prog_1_method_45_code
def yX8_isRightWith : MethodName := ⟨RX8, "isRightWith", "(III)Z"⟩
abbrev cX8_wouldFall : ByteArray := prog_1_method_46_code
def yX8_wouldFall : MethodName := ⟨RX8, "wouldFall", "(II)Z"⟩
def RX9 : String := "ClinkerWorksLaw$Told"
def TX9 : u_T := fun k => match k with
  | 0 => ("ClinkerWorksLaw$Told", "m", "LClinkerWorks;", true)
  | 1 => ("ClinkerWorksLaw$Told", "s", "[I", true)
  | 2 => ("ClinkerWorksLaw$Told", "draws", "I", false)
  | 3 => ("ClinkerWorksLaw$Told", "blocks", "[[I", false)
  | 4 => ("ClinkerWorksLaw$Told", "layers", "[[I", false)
  | _ => ("ClinkerWorksLaw$Told", "waits", "[[I", false)
def tyX9 : Nat → FieldType := fun k => match k with
  | 0 => .object "ClinkerWorks"
  | 1 => .array .int
  | 2 => .int
  | 3 => .array (.array .int)
  | 4 => .array (.array .int)
  | _ => .array (.array .int)
abbrev wsX90 : List Cond := u_ws RX9 TX9 6
theorem nmX9 : ∀ a, a < 6 → ∀ b, b < 6 → a ≠ b → (TX9 a).2.1 ≠ (TX9 b).2.1 := by decide +kernel
theorem tyX9_ok : ∀ k, k < 6 → parseFieldDescriptor (TX9 k).2.2.1 = some (tyX9 k) := by decide +kernel
abbrev cX9_init : ByteArray := prog_11_method_1_code
def yX9_init : MethodName := ⟨RX9, "<init>", "([II)V"⟩
abbrev cX9_draw : ByteArray := prog_11_method_2_code
def yX9_draw : MethodName := ⟨RX9, "draw", "(I)I"⟩
abbrev cX9_plus : ByteArray := prog_11_method_3_code
def yX9_plus : MethodName := ⟨RX9, "plus", "([[I[I)[[I"⟩
abbrev cX9_block : ByteArray := prog_11_method_4_code
def yX9_block : MethodName := ⟨RX9, "block", "(IIIII)Z"⟩
abbrev cX9_blast : ByteArray := prog_11_method_5_code
def yX9_blast : MethodName := ⟨RX9, "blast", "(II)Z"⟩
abbrev cX9_pile : ByteArray := prog_11_method_6_code
def yX9_pile : MethodName := ⟨RX9, "pile", "()I"⟩
abbrev cX9_cut : ByteArray := prog_11_method_7_code
def yX9_cut : MethodName := ⟨RX9, "cut", "(I)[I"⟩
abbrev cX9_oxides : ByteArray := prog_11_method_8_code
def yX9_oxides : MethodName := ⟨RX9, "oxides", "([IIII)[I"⟩
abbrev cX9_charge : ByteArray := prog_11_method_9_code
def yX9_charge : MethodName := ⟨RX9, "charge", "(IIII)Z"⟩
abbrev cX9_found : ByteArray := prog_11_method_10_code
def yX9_found : MethodName := ⟨RX9, "found", "()Z"⟩
def RX10 : String := "ClinkerWorksModel$Charge"
def TX10 : u_T := fun k => match k with
  | _ => ("", "", "", false)
def tyX10 : Nat → FieldType := fun k => match k with
  | _ => .int
abbrev wsX100 : List Cond := u_ws RX10 TX10 0
theorem nmX10 : ∀ a, a < 0 → ∀ b, b < 0 → a ≠ b → (TX10 a).2.1 ≠ (TX10 b).2.1 := by decide +kernel
theorem tyX10_ok : ∀ k, k < 0 → parseFieldDescriptor (TX10 k).2.2.1 = some (tyX10 k) := by decide +kernel
def RX11 : String := "ClinkerWorksModel$Kiln"
def TX11 : u_T := fun k => match k with
  | _ => ("", "", "", false)
def tyX11 : Nat → FieldType := fun k => match k with
  | _ => .int
abbrev wsX110 : List Cond := u_ws RX11 TX11 0
theorem nmX11 : ∀ a, a < 0 → ∀ b, b < 0 → a ≠ b → (TX11 a).2.1 ≠ (TX11 b).2.1 := by decide +kernel
theorem tyX11_ok : ∀ k, k < 0 → parseFieldDescriptor (TX11 k).2.2.1 = some (tyX11 k) := by decide +kernel
def RX12 : String := "ClinkerWorksModel"
def TX12 : u_T := fun k => match k with
  | _ => ("", "", "", false)
def tyX12 : Nat → FieldType := fun k => match k with
  | _ => .int
abbrev wsX120 : List Cond := u_ws RX12 TX12 0
theorem nmX12 : ∀ a, a < 0 → ∀ b, b < 0 → a ≠ b → (TX12 a).2.1 ≠ (TX12 b).2.1 := by decide +kernel
theorem tyX12_ok : ∀ k, k < 0 → parseFieldDescriptor (TX12 k).2.2.1 = some (tyX12 k) := by decide +kernel
def RJx145de : String := "java/io/Serializable"
def TJx145de : u_T := fun k => match k with
  | _ => ("", "", "", false)
def tyJx145de : Nat → FieldType := fun k => match k with
  | _ => .int
abbrev wsJx145de0 : List Cond := u_ws RJx145de TJx145de 0
theorem nmJx145de : ∀ a, a < 0 → ∀ b, b < 0 → a ≠ b → (TJx145de a).2.1 ≠ (TJx145de b).2.1 := by decide +kernel
theorem tyJx145de_ok : ∀ k, k < 0 → parseFieldDescriptor (TJx145de k).2.2.1 = some (tyJx145de k) := by decide +kernel
def RJ9 : String := "java/lang/Math"
def TJ9 : u_T := fun k => match k with
  | _ => ("", "", "", false)
def tyJ9 : Nat → FieldType := fun k => match k with
  | _ => .int
abbrev wsJ90 : List Cond := u_ws RJ9 TJ9 0
theorem nmJ9 : ∀ a, a < 0 → ∀ b, b < 0 → a ≠ b → (TJ9 a).2.1 ≠ (TJ9 b).2.1 := by decide +kernel
theorem tyJ9_ok : ∀ k, k < 0 → parseFieldDescriptor (TJ9 k).2.2.1 = some (tyJ9 k) := by decide +kernel
abbrev cJ9_floorDiv_7cf53 : ByteArray := prog_19_method_47_code
def yJ9_floorDiv_7cf53 : MethodName := ⟨RJ9, "floorDiv", "(II)I"⟩
abbrev cJ9_max_7cf53 : ByteArray := prog_19_method_65_code
def yJ9_max_7cf53 : MethodName := ⟨RJ9, "max", "(II)I"⟩
abbrev cJ9_min_7cf53 : ByteArray := prog_19_method_69_code
def yJ9_min_7cf53 : MethodName := ⟨RJ9, "min", "(II)I"⟩
def RJ0 : String := "java/lang/String"
def TJ0 : u_T := fun k => match k with
  | _ => ("", "", "", false)
def tyJ0 : Nat → FieldType := fun k => match k with
  | _ => .int
abbrev wsJ00 : List Cond := u_ws RJ0 TJ0 0
theorem nmJ0 : ∀ a, a < 0 → ∀ b, b < 0 → a ≠ b → (TJ0 a).2.1 ≠ (TJ0 b).2.1 := by decide +kernel
theorem tyJ0_ok : ∀ k, k < 0 → parseFieldDescriptor (TJ0 k).2.2.1 = some (tyJ0 k) := by decide +kernel
def RJ10 : String := "java/lang/System"
def TJ10 : u_T := fun k => match k with
  | _ => ("", "", "", false)
def tyJ10 : Nat → FieldType := fun k => match k with
  | _ => .int
abbrev wsJ100 : List Cond := u_ws RJ10 TJ10 0
theorem nmJ10 : ∀ a, a < 0 → ∀ b, b < 0 → a ≠ b → (TJ10 a).2.1 ≠ (TJ10 b).2.1 := by decide +kernel
theorem tyJ10_ok : ∀ k, k < 0 → parseFieldDescriptor (TJ10 k).2.2.1 = some (tyJ10 k) := by decide +kernel
def RL : String := "ClinkerWorksLaw"
abbrev cL_below : ByteArray := method_2_code
def yL_below : MethodName := ⟨RL, "below", "(II)I"⟩
abbrev cL_cell : ByteArray := method_3_code
def yL_cell : MethodName := ⟨RL, "cell", "([II)I"⟩
abbrev cL_part : ByteArray := method_4_code
def yL_part : MethodName := ⟨RL, "part", "(II)I"⟩
abbrev cL_isIn : ByteArray := method_5_code
def yL_isIn : MethodName := ⟨RL, "isIn", "(III)Z"⟩
abbrev cL_modulus : ByteArray := method_6_code
def yL_modulus : MethodName := ⟨RL, "modulus", "([II)I"⟩
abbrev cL_law : ByteArray := code
def yL_law : MethodName := ⟨RL, "law", "([I)Z"⟩
abbrev cL_copy : ByteArray := method_8_code
def yL_copy : MethodName := ⟨RL, "copy", "(LClinkerWorksLaw$Told;LClinkerWorks;)V"⟩
abbrev vwCl : List vw_C := [(RX0, TX0, 3), (RX0, TX0, 3), (RX1, TX1, 8), (RX2, TX2, 12), (RX3, TX3, 7), (RX4, TX4, 1), (RX5, TX5, 4), (RX6, TX6, 3), (RX7, TX7, 3), (RX8, TX8, 14), (RX9, TX9, 6)]
