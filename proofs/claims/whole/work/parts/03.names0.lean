def RX0 : String := "Conformary$Act"
def TX0 : u_T := fun k => match k with
  | 0 => ("Conformary$Act", "scope", "I", true)
  | 1 => ("Conformary$Act", "without", "I", true)
  | 2 => ("Conformary$Act", "demanded", "I", true)
  | 3 => ("Conformary$Act", "from", "I", true)
  | _ => ("Conformary$Act", "moreSpecial", "I", false)
def tyX0 : Nat → FieldType := fun k => match k with
  | 0 => .int
  | 1 => .int
  | 2 => .int
  | 3 => .int
  | _ => .int
abbrev wsX00 : List Cond := u_ws RX0 TX0 5
theorem nmX0 : ∀ a, a < 5 → ∀ b, b < 5 → a ≠ b → (TX0 a).2.1 ≠ (TX0 b).2.1 := by decide +kernel
theorem tyX0_ok : ∀ k, k < 5 → parseFieldDescriptor (TX0 k).2.2.1 = some (tyX0 k) := by decide +kernel
abbrev cX0_init : ByteArray := prog_2_method_1_code
def yX0_init : MethodName := ⟨RX0, "<init>", "(IIII)V"⟩
abbrev cX0_isForByItself : ByteArray := prog_2_method_2_code
def yX0_isForByItself : MethodName := ⟨RX0, "isForByItself", "(II)Z"⟩
def RX1 : String := "Conformary$Batch"
def TX1 : u_T := fun k => match k with
  | 0 => ("Conformary$Batch", "product", "I", true)
  | 1 => ("Conformary$Batch", "units", "I", true)
  | 2 => ("Conformary$Batch", "cameOn", "I", true)
  | 3 => ("Conformary$Batch", "version", "I", true)
  | 4 => ("Conformary$Batch", "lackThen", "I", true)
  | 5 => ("Conformary$Batch", "standing", "I", false)
  | 6 => ("Conformary$Batch", "latestSample", "I", false)
  | 7 => ("Conformary$Batch", "highestSeverity", "I", false)
  | _ => ("Conformary$Batch", "harmed", "I", false)
def tyX1 : Nat → FieldType := fun k => match k with
  | 0 => .int
  | 1 => .int
  | 2 => .int
  | 3 => .int
  | 4 => .int
  | 5 => .int
  | 6 => .int
  | 7 => .int
  | _ => .int
abbrev wsX10 : List Cond := u_ws RX1 TX1 9
theorem nmX1 : ∀ a, a < 9 → ∀ b, b < 9 → a ≠ b → (TX1 a).2.1 ≠ (TX1 b).2.1 := by decide +kernel
theorem tyX1_ok : ∀ k, k < 9 → parseFieldDescriptor (TX1 k).2.2.1 = some (tyX1 k) := by decide +kernel
abbrev cX1_init : ByteArray := prog_3_method_1_code
def yX1_init : MethodName := ⟨RX1, "<init>", "(IIIII)V"⟩
abbrev cX1_isOnMarketOf : ByteArray := prog_3_method_2_code
def yX1_isOnMarketOf : MethodName := ⟨RX1, "isOnMarketOf", "(I)Z"⟩
abbrev cX1_alarmLevel : ByteArray := prog_3_method_3_code
def yX1_alarmLevel : MethodName := ⟨RX1, "alarmLevel", "()I"⟩
abbrev cX1_alarmByHarm : ByteArray := prog_3_method_4_code
def yX1_alarmByHarm : MethodName := ⟨RX1, "alarmByHarm", "()I"⟩
def RX2 : String := "Conformary$Body"
def TX2 : u_T := fun k => match k with
  | 0 => ("Conformary$Body", "number", "I", true)
  | 1 => ("Conformary$Body", "scope", "I", true)
  | _ => ("Conformary$Body", "suspendedOn", "I", false)
def tyX2 : Nat → FieldType := fun k => match k with
  | 0 => .int
  | 1 => .int
  | _ => .int
abbrev wsX20 : List Cond := u_ws RX2 TX2 3
theorem nmX2 : ∀ a, a < 3 → ∀ b, b < 3 → a ≠ b → (TX2 a).2.1 ≠ (TX2 b).2.1 := by decide +kernel
theorem tyX2_ok : ∀ k, k < 3 → parseFieldDescriptor (TX2 k).2.2.1 = some (tyX2 k) := by decide +kernel
abbrev cX2_init : ByteArray := prog_4_method_1_code
def yX2_init : MethodName := ⟨RX2, "<init>", "(II)V"⟩
abbrev cX2_isSuspended : ByteArray := prog_4_method_2_code
def yX2_isSuspended : MethodName := ⟨RX2, "isSuspended", "()Z"⟩
abbrev cX2_hasInScope : ByteArray := prog_4_method_3_code
def yX2_hasInScope : MethodName := ⟨RX2, "hasInScope", "(I)Z"⟩
abbrev cX2_isCertificateUpheld : ByteArray := prog_4_method_4_code
def yX2_isCertificateUpheld : MethodName := ⟨RX2, "isCertificateUpheld", "(I)Z"⟩
def RX3 : String := "Conformary$Product"
def TX3 : u_T := fun k => match k with
  | 0 => ("Conformary$Product", "riskBefore", "[I", true)
  | 1 => ("Conformary$Product", "riskAfter", "[I", true)
  | 2 => ("Conformary$Product", "followed", "[I", true)
  | 3 => ("Conformary$Product", "functions", "I", false)
  | 4 => ("Conformary$Product", "version", "I", false)
  | 5 => ("Conformary$Product", "proved", "I", false)
  | 6 => ("Conformary$Product", "declaredOn", "I", false)
  | 7 => ("Conformary$Product", "certifier", "LConformary$Body;", false)
  | 8 => ("Conformary$Product", "certifiedUntil", "I", false)
  | 9 => ("Conformary$Product", "visitedOn", "I", false)
  | _ => ("Conformary$Product", "statesForBan", "I", false)
def tyX3 : Nat → FieldType := fun k => match k with
  | 0 => .array .int
  | 1 => .array .int
  | 2 => .array .int
  | 3 => .int
  | 4 => .int
  | 5 => .int
  | 6 => .int
  | 7 => .object "Conformary$Body"
  | 8 => .int
  | 9 => .int
  | _ => .int
abbrev wsX30 : List Cond := u_ws RX3 TX3 11
theorem nmX3 : ∀ a, a < 11 → ∀ b, b < 11 → a ≠ b → (TX3 a).2.1 ≠ (TX3 b).2.1 := by decide +kernel
theorem tyX3_ok : ∀ k, k < 11 → parseFieldDescriptor (TX3 k).2.2.1 = some (tyX3 k) := by decide +kernel
abbrev cX3_init : ByteArray := prog_5_method_1_code
def yX3_init : MethodName := ⟨RX3, "<init>", "(I)V"⟩
abbrev cX3_startNextVersion : ByteArray := prog_5_method_2_code
def yX3_startNextVersion : MethodName := ⟨RX3, "startNextVersion", "()V"⟩
abbrev cX3_endCertificate : ByteArray := prog_5_method_3_code
def yX3_endCertificate : MethodName := ⟨RX3, "endCertificate", "()V"⟩
abbrev cX3_isVisitCounted : ByteArray := prog_5_method_4_code
def yX3_isVisitCounted : MethodName := ⟨RX3, "isVisitCounted", "(I)Z"⟩
abbrev cX3_hazardsBeforeAbove : ByteArray := prog_5_method_5_code
def yX3_hazardsBeforeAbove : MethodName := ⟨RX3, "hazardsBeforeAbove", "(I)I"⟩
abbrev cX3_hazardsAfterAbove : ByteArray := prog_5_method_6_code
def yX3_hazardsAfterAbove : MethodName := ⟨RX3, "hazardsAfterAbove", "(I)I"⟩
abbrev cX3_hazardsAbove : ByteArray := prog_5_method_7_code
def yX3_hazardsAbove : MethodName := ⟨RX3, "hazardsAbove", "(I[I)I"⟩
def RX4 : String := "Conformary$Standard"
def TX4 : u_T := fun k => match k with
  | 0 => ("Conformary$Standard", "from", "I", true)
  | 1 => ("Conformary$Standard", "hazards", "I", false)
  | _ => ("Conformary$Standard", "until", "I", false)
def tyX4 : Nat → FieldType := fun k => match k with
  | 0 => .int
  | 1 => .int
  | _ => .int
abbrev wsX40 : List Cond := u_ws RX4 TX4 3
theorem nmX4 : ∀ a, a < 3 → ∀ b, b < 3 → a ≠ b → (TX4 a).2.1 ≠ (TX4 b).2.1 := by decide +kernel
theorem tyX4_ok : ∀ k, k < 3 → parseFieldDescriptor (TX4 k).2.2.1 = some (tyX4 k) := by decide +kernel
abbrev cX4_init : ByteArray := prog_6_method_1_code
def yX4_init : MethodName := ⟨RX4, "<init>", "(II)V"⟩
abbrev cX4_isListedOn : ByteArray := prog_6_method_2_code
def yX4_isListedOn : MethodName := ⟨RX4, "isListedOn", "(I)Z"⟩
def RX5 : String := "Conformary"
def TX5 : u_T := fun k => match k with
  | 0 => ("Conformary", "acts", "[LConformary$Act;", true)
  | 1 => ("Conformary", "standards", "[LConformary$Standard;", true)
  | 2 => ("Conformary", "products", "[LConformary$Product;", true)
  | 3 => ("Conformary", "bodies", "[LConformary$Body;", true)
  | 4 => ("Conformary", "batches", "[LConformary$Batch;", true)
  | 5 => ("Conformary", "actCount", "I", false)
  | 6 => ("Conformary", "standardCount", "I", false)
  | 7 => ("Conformary", "productCount", "I", false)
  | 8 => ("Conformary", "bodyCount", "I", false)
  | 9 => ("Conformary", "batchCount", "I", false)
  | _ => ("Conformary", "today", "I", false)
def tyX5 : Nat → FieldType := fun k => match k with
  | 0 => .array (.object "Conformary$Act")
  | 1 => .array (.object "Conformary$Standard")
  | 2 => .array (.object "Conformary$Product")
  | 3 => .array (.object "Conformary$Body")
  | 4 => .array (.object "Conformary$Batch")
  | 5 => .int
  | 6 => .int
  | 7 => .int
  | 8 => .int
  | 9 => .int
  | _ => .int
abbrev wsX50 : List Cond := u_ws RX5 TX5 11
theorem nmX5 : ∀ a, a < 11 → ∀ b, b < 11 → a ≠ b → (TX5 a).2.1 ≠ (TX5 b).2.1 := by decide +kernel
theorem tyX5_ok : ∀ k, k < 11 → parseFieldDescriptor (TX5 k).2.2.1 = some (tyX5 k) := by decide +kernel
abbrev cX5_init : ByteArray := prog_1_method_1_code
def yX5_init : MethodName := ⟨RX5, "<init>", "()V"⟩
abbrev cX5_act : ByteArray := prog_1_method_2_code
def yX5_act : MethodName := ⟨RX5, "act", "(IIII)I"⟩
abbrev cX5_special : ByteArray := prog_1_method_3_code
def yX5_special : MethodName := ⟨RX5, "special", "(II)Z"⟩
abbrev cX5_standard : ByteArray := prog_1_method_4_code
def yX5_standard : MethodName := ⟨RX5, "standard", "(II)I"⟩
abbrev cX5_withdraw : ByteArray := prog_1_method_5_code
def yX5_withdraw : MethodName := ⟨RX5, "withdraw", "(II)I"⟩
abbrev cX5_restrict : ByteArray := prog_1_method_6_code
def yX5_restrict : MethodName := ⟨RX5, "restrict", "(II)I"⟩
abbrev cX5_product : ByteArray := prog_1_method_7_code
def yX5_product : MethodName := ⟨RX5, "product", "(I)I"⟩
abbrev cX5_change : ByteArray := prog_1_method_8_code
def yX5_change : MethodName := ⟨RX5, "change", "(II)I"⟩
abbrev cX5_risk : ByteArray := prog_1_method_9_code
def yX5_risk : MethodName := ⟨RX5, "risk", "(IIII)I"⟩
abbrev cX5_follow : ByteArray := prog_1_method_10_code
def yX5_follow : MethodName := ⟨RX5, "follow", "(III)I"⟩
abbrev cX5_prove : ByteArray := prog_1_method_11_code
def yX5_prove : MethodName := ⟨RX5, "prove", "(II)I"⟩
abbrev cX5_declare : ByteArray := prog_1_method_12_code
def yX5_declare : MethodName := ⟨RX5, "declare", "(I)I"⟩
abbrev cX5_body : ByteArray := prog_1_method_13_code
def yX5_body : MethodName := ⟨RX5, "body", "(I)I"⟩
abbrev cX5_suspend : ByteArray := prog_1_method_14_code
def yX5_suspend : MethodName := ⟨RX5, "suspend", "(IZ)Z"⟩
abbrev cX5_certify : ByteArray := prog_1_method_15_code
def yX5_certify : MethodName := ⟨RX5, "certify", "(III)I"⟩
abbrev cX5_transfer : ByteArray := prog_1_method_16_code
def yX5_transfer : MethodName := ⟨RX5, "transfer", "(II)I"⟩
abbrev cX5_visit : ByteArray := prog_1_method_17_code
def yX5_visit : MethodName := ⟨RX5, "visit", "(IZ)Z"⟩
abbrev cX5_place : ByteArray := prog_1_method_18_code
def yX5_place : MethodName := ⟨RX5, "place", "(II)I"⟩
abbrev cX5_post : ByteArray := prog_1_method_19_code
def yX5_post : MethodName := ⟨RX5, "post", "(II)I"⟩
abbrev cX5_sample : ByteArray := prog_1_method_20_code
def yX5_sample : MethodName := ⟨RX5, "sample", "(IIII)I"⟩
abbrev cX5_event : ByteArray := prog_1_method_21_code
def yX5_event : MethodName := ⟨RX5, "event", "(III)I"⟩
abbrev cX5_recall : ByteArray := prog_1_method_22_code
def yX5_recall : MethodName := ⟨RX5, "recall", "(III)I"⟩
abbrev cX5_ban : ByteArray := prog_1_method_23_code
def yX5_ban : MethodName := ⟨RX5, "ban", "(IIZ)I"⟩
abbrev cX5_pass : ByteArray := prog_1_method_24_code
def yX5_pass : MethodName := ⟨RX5, "pass", "(I)I"⟩
abbrev cX5_day : ByteArray := prog_1_method_25_code
def yX5_day : MethodName := ⟨RX5, "day", "()I"⟩
abbrev cX5_applies : ByteArray := prog_1_method_26_code
def yX5_applies : MethodName := ⟨RX5, "applies", "(II)Z"⟩
abbrev cX5_demands : ByteArray := prog_1_method_27_code
def yX5_demands : MethodName := ⟨RX5, "demands", "(IZ)I"⟩
abbrev cX5_way : ByteArray := prog_1_method_28_code
def yX5_way : MethodName := ⟨RX5, "way", "(I)I"⟩
abbrev cX5_wanting : ByteArray := prog_1_method_29_code
def yX5_wanting : MethodName := ⟨RX5, "wanting", "(I)I"⟩
abbrev cX5_productOf : ByteArray := prog_1_method_30_code
def yX5_productOf : MethodName := ⟨RX5, "productOf", "(II)I"⟩
abbrev cX5_riskOf : ByteArray := prog_1_method_31_code
def yX5_riskOf : MethodName := ⟨RX5, "riskOf", "(IIZ)I"⟩
abbrev cX5_batchOf : ByteArray := prog_1_method_32_code
def yX5_batchOf : MethodName := ⟨RX5, "batchOf", "(II)I"⟩
abbrev cX5_wantingAnew : ByteArray := prog_1_method_33_code
def yX5_wantingAnew : MethodName := ⟨RX5, "wantingAnew", "(I)I"⟩
abbrev cX5_actAt : ByteArray := prog_1_method_34_code
def yX5_actAt : MethodName := ⟨RX5, "actAt", "(I)LConformary$Act;"⟩
abbrev cX5_standardAt : ByteArray := prog_1_method_35_code
def yX5_standardAt : MethodName := ⟨RX5, "standardAt", "(I)LConformary$Standard;"⟩
abbrev cX5_productAt : ByteArray := prog_1_method_36_code
def yX5_productAt : MethodName := ⟨RX5, "productAt", "(I)LConformary$Product;"⟩
abbrev cX5_bodyAt : ByteArray := prog_1_method_37_code
def yX5_bodyAt : MethodName := ⟨RX5, "bodyAt", "(I)LConformary$Body;"⟩
abbrev cX5_batchAt : ByteArray := prog_1_method_38_code
def yX5_batchAt : MethodName := ⟨RX5, "batchAt", "(I)LConformary$Batch;"⟩
abbrev cX5_checkHazard : ByteArray := prog_1_method_39_code
def yX5_checkHazard : MethodName := ⟨RX5, "checkHazard", "(I)V"⟩
abbrev cX5_checkRange : ByteArray := prog_1_method_40_code
def yX5_checkRange : MethodName := ⟨RX5, "checkRange", "(III)V"⟩
abbrev cX5_checkMayCertify : ByteArray := prog_1_method_41_code
def yX5_checkMayCertify : MethodName := ⟨RX5, "checkMayCertify", "(LConformary$Body;LConformary$Product;)V"⟩
abbrev cX5_hasBit : ByteArray := prog_1_method_42_code
def yX5_hasBit : MethodName := ⟨RX5, "hasBit", "(II)Z"⟩
abbrev cX5_actsMoreSpecialThan : ByteArray := prog_1_method_43_code
def yX5_actsMoreSpecialThan : MethodName := ⟨RX5, "actsMoreSpecialThan", "(LConformary$Act;)I"⟩
abbrev cX5_actsForByThemselves : ByteArray := prog_1_method_44_code
def yX5_actsForByThemselves : MethodName := ⟨RX5, "actsForByThemselves", "(LConformary$Product;)I"⟩
abbrev cX5_actsApplyingTo : ByteArray := prog_1_method_45_code
def yX5_actsApplyingTo : MethodName := ⟨RX5, "actsApplyingTo", "(LConformary$Product;)I"⟩
abbrev cX5_hazardsDemanded : ByteArray := prog_1_method_46_code
def yX5_hazardsDemanded : MethodName := ⟨RX5, "hazardsDemanded", "(LConformary$Product;)I"⟩
abbrev cX5_hazardsKept : ByteArray := prog_1_method_47_code
def yX5_hazardsKept : MethodName := ⟨RX5, "hazardsKept", "(LConformary$Product;I)I"⟩
abbrev cX5_wayOf : ByteArray := prog_1_method_48_code
def yX5_wayOf : MethodName := ⟨RX5, "wayOf", "(LConformary$Product;I)I"⟩
abbrev cX5_firstLack : ByteArray := prog_1_method_49_code
def yX5_firstLack : MethodName := ⟨RX5, "firstLack", "(LConformary$Product;)I"⟩
abbrev cX5_holdsCertificate : ByteArray := prog_1_method_50_code
def yX5_holdsCertificate : MethodName := ⟨RX5, "holdsCertificate", "(LConformary$Product;)Z"⟩
abbrev cX5_addBatch : ByteArray := prog_1_method_51_code
def yX5_addBatch : MethodName := ⟨RX5, "addBatch", "(ILConformary$Product;I)I"⟩
abbrev cX5_unitsOnMarket : ByteArray := prog_1_method_52_code
def yX5_unitsOnMarket : MethodName := ⟨RX5, "unitsOnMarket", "(I)I"⟩
def RX6 : String := "ConformaryModel"
def TX6 : u_T := fun k => match k with
  | 0 => ("ConformaryModel", "thrown", "I", false)
  | 1 => ("ConformaryModel", "day", "I", false)
  | 2 => ("ConformaryModel", "acts", "I", false)
  | 3 => ("ConformaryModel", "scope", "[I", true)
  | 4 => ("ConformaryModel", "without", "[I", true)
  | 5 => ("ConformaryModel", "asks", "[I", true)
  | 6 => ("ConformaryModel", "inForce", "[I", true)
  | 7 => ("ConformaryModel", "isSpecial", "[Z", true)
  | 8 => ("ConformaryModel", "isReached", "[Z", true)
  | 9 => ("ConformaryModel", "standards", "I", false)
  | 10 => ("ConformaryModel", "covers", "[I", true)
  | 11 => ("ConformaryModel", "listedFrom", "[I", true)
  | 12 => ("ConformaryModel", "listedTo", "[I", true)
  | 13 => ("ConformaryModel", "products", "I", false)
  | 14 => ("ConformaryModel", "functions", "[I", true)
  | 15 => ("ConformaryModel", "version", "[I", true)
  | 16 => ("ConformaryModel", "before", "[I", true)
  | 17 => ("ConformaryModel", "after", "[I", true)
  | 18 => ("ConformaryModel", "follows", "[I", true)
  | 19 => ("ConformaryModel", "proofs", "[I", true)
  | 20 => ("ConformaryModel", "bodyOf", "[I", true)
  | 21 => ("ConformaryModel", "lastDay", "[I", true)
  | 22 => ("ConformaryModel", "visited", "[I", true)
  | 23 => ("ConformaryModel", "declared", "[I", true)
  | 24 => ("ConformaryModel", "bans", "[I", true)
  | 25 => ("ConformaryModel", "bodies", "I", false)
  | 26 => ("ConformaryModel", "allowed", "[I", true)
  | 27 => ("ConformaryModel", "since", "[I", true)
  | 28 => ("ConformaryModel", "batches", "I", false)
  | 29 => ("ConformaryModel", "productOf", "[I", true)
  | 30 => ("ConformaryModel", "units", "[I", true)
  | 31 => ("ConformaryModel", "came", "[I", true)
  | 32 => ("ConformaryModel", "versionOf", "[I", true)
  | 33 => ("ConformaryModel", "lacked", "[I", true)
  | 34 => ("ConformaryModel", "state", "[I", true)
  | 35 => ("ConformaryModel", "sampled", "[I", true)
  | 36 => ("ConformaryModel", "worst", "[I", true)
  | _ => ("ConformaryModel", "harmed", "[I", true)
def tyX6 : Nat → FieldType := fun k => match k with
  | 0 => .int
  | 1 => .int
  | 2 => .int
  | 3 => .array .int
  | 4 => .array .int
  | 5 => .array .int
  | 6 => .array .int
  | 7 => .array .boolean
  | 8 => .array .boolean
  | 9 => .int
  | 10 => .array .int
  | 11 => .array .int
  | 12 => .array .int
  | 13 => .int
  | 14 => .array .int
  | 15 => .array .int
  | 16 => .array .int
  | 17 => .array .int
  | 18 => .array .int
  | 19 => .array .int
  | 20 => .array .int
  | 21 => .array .int
  | 22 => .array .int
  | 23 => .array .int
  | 24 => .array .int
  | 25 => .int
  | 26 => .array .int
  | 27 => .array .int
  | 28 => .int
  | 29 => .array .int
  | 30 => .array .int
  | 31 => .array .int
  | 32 => .array .int
  | 33 => .array .int
  | 34 => .array .int
  | 35 => .array .int
  | 36 => .array .int
  | _ => .array .int
abbrev wsX60 : List Cond := u_ws RX6 TX6 38
theorem nmX6 : ∀ a, a < 38 → ∀ b, b < 38 → a ≠ b → (TX6 a).2.1 ≠ (TX6 b).2.1 := by decide +kernel
theorem tyX6_ok : ∀ k, k < 38 → parseFieldDescriptor (TX6 k).2.2.1 = some (tyX6 k) := by decide +kernel
abbrev cX6_init : ByteArray := prog_8_method_1_code
def yX6_init : MethodName := ⟨RX6, "<init>", "()V"⟩
abbrev cX6_thrown : ByteArray := prog_8_method_2_code
def yX6_thrown : MethodName := ⟨RX6, "thrown", "()I"⟩
abbrev cX6_in : ByteArray := prog_8_method_3_code
def yX6_in : MethodName := ⟨RX6, "in", "(III)Z"⟩
abbrev cX6_refused : ByteArray := prog_8_method_4_code
def yX6_refused : MethodName := ⟨RX6, "refused", "(I)Z"⟩
abbrev cX6_isAct : ByteArray := prog_8_method_5_code
def yX6_isAct : MethodName := ⟨RX6, "isAct", "(I)Z"⟩
abbrev cX6_isStandard : ByteArray := prog_8_method_6_code
def yX6_isStandard : MethodName := ⟨RX6, "isStandard", "(I)Z"⟩
abbrev cX6_isProduct : ByteArray := prog_8_method_7_code
def yX6_isProduct : MethodName := ⟨RX6, "isProduct", "(I)Z"⟩
abbrev cX6_isBody : ByteArray := prog_8_method_8_code
def yX6_isBody : MethodName := ⟨RX6, "isBody", "(I)Z"⟩
abbrev cX6_isBatch : ByteArray := prog_8_method_9_code
def yX6_isBatch : MethodName := ⟨RX6, "isBatch", "(I)Z"⟩
abbrev cX6_bits : ByteArray := prog_8_method_10_code
def yX6_bits : MethodName := ⟨RX6, "bits", "(I)I"⟩
abbrev cX6_act : ByteArray := prog_8_method_11_code
def yX6_act : MethodName := ⟨RX6, "act", "(IIII)I"⟩
abbrev cX6_isAbove : ByteArray := prog_8_method_12_code
def yX6_isAbove : MethodName := ⟨RX6, "isAbove", "(II)Z"⟩
abbrev cX6_special : ByteArray := prog_8_method_13_code
def yX6_special : MethodName := ⟨RX6, "special", "(II)Z"⟩
abbrev cX6_standard : ByteArray := prog_8_method_14_code
def yX6_standard : MethodName := ⟨RX6, "standard", "(II)I"⟩
abbrev cX6_withdraw : ByteArray := prog_8_method_15_code
def yX6_withdraw : MethodName := ⟨RX6, "withdraw", "(II)I"⟩
abbrev cX6_restrict : ByteArray := prog_8_method_16_code
def yX6_restrict : MethodName := ⟨RX6, "restrict", "(II)I"⟩
abbrev cX6_product : ByteArray := prog_8_method_17_code
def yX6_product : MethodName := ⟨RX6, "product", "(I)I"⟩
abbrev cX6_nextVersion : ByteArray := prog_8_method_18_code
def yX6_nextVersion : MethodName := ⟨RX6, "nextVersion", "(I)V"⟩
abbrev cX6_change : ByteArray := prog_8_method_19_code
def yX6_change : MethodName := ⟨RX6, "change", "(II)I"⟩
abbrev cX6_risk : ByteArray := prog_8_method_20_code
def yX6_risk : MethodName := ⟨RX6, "risk", "(IIII)I"⟩
abbrev cX6_follow : ByteArray := prog_8_method_21_code
def yX6_follow : MethodName := ⟨RX6, "follow", "(III)I"⟩
abbrev cX6_prove : ByteArray := prog_8_method_22_code
def yX6_prove : MethodName := ⟨RX6, "prove", "(II)I"⟩
abbrev cX6_isFor : ByteArray := prog_8_method_23_code
def yX6_isFor : MethodName := ⟨RX6, "isFor", "(II)Z"⟩
abbrev cX6_doesApply : ByteArray := prog_8_method_24_code
def yX6_doesApply : MethodName := ⟨RX6, "doesApply", "(II)Z"⟩
abbrev cX6_applying : ByteArray := prog_8_method_25_code
def yX6_applying : MethodName := ⟨RX6, "applying", "(I)I"⟩
abbrev cX6_demandsOf : ByteArray := prog_8_method_26_code
def yX6_demandsOf : MethodName := ⟨RX6, "demandsOf", "(I)I"⟩
abbrev cX6_shown : ByteArray := prog_8_method_27_code
def yX6_shown : MethodName := ⟨RX6, "shown", "(I)I"⟩
abbrev cX6_lowOf : ByteArray := prog_8_method_28_code
def yX6_lowOf : MethodName := ⟨RX6, "lowOf", "(I)I"⟩
abbrev cX6_keptOf : ByteArray := prog_8_method_29_code
def yX6_keptOf : MethodName := ⟨RX6, "keptOf", "(I)I"⟩
abbrev cX6_wayOf : ByteArray := prog_8_method_30_code
def yX6_wayOf : MethodName := ⟨RX6, "wayOf", "(I)I"⟩
abbrev cX6_hasScope : ByteArray := prog_8_method_31_code
def yX6_hasScope : MethodName := ⟨RX6, "hasScope", "(II)Z"⟩
abbrev cX6_holds : ByteArray := prog_8_method_32_code
def yX6_holds : MethodName := ⟨RX6, "holds", "(I)Z"⟩
abbrev cX6_wantingOf : ByteArray := prog_8_method_33_code
def yX6_wantingOf : MethodName := ⟨RX6, "wantingOf", "(I)I"⟩
abbrev cX6_declare : ByteArray := prog_8_method_34_code
def yX6_declare : MethodName := ⟨RX6, "declare", "(I)I"⟩
abbrev cX6_body : ByteArray := prog_8_method_35_code
def yX6_body : MethodName := ⟨RX6, "body", "(I)I"⟩
abbrev cX6_suspend : ByteArray := prog_8_method_36_code
def yX6_suspend : MethodName := ⟨RX6, "suspend", "(IZ)Z"⟩
abbrev cX6_certify : ByteArray := prog_8_method_37_code
def yX6_certify : MethodName := ⟨RX6, "certify", "(III)I"⟩
abbrev cX6_transfer : ByteArray := prog_8_method_38_code
def yX6_transfer : MethodName := ⟨RX6, "transfer", "(II)I"⟩
abbrev cX6_visit : ByteArray := prog_8_method_39_code
def yX6_visit : MethodName := ⟨RX6, "visit", "(IZ)Z"⟩
abbrev cX6_arrives : ByteArray := prog_8_method_40_code
def yX6_arrives : MethodName := ⟨RX6, "arrives", "(III)I"⟩
abbrev cX6_place : ByteArray := prog_8_method_41_code
def yX6_place : MethodName := ⟨RX6, "place", "(II)I"⟩
abbrev cX6_post : ByteArray := prog_8_method_42_code
def yX6_post : MethodName := ⟨RX6, "post", "(II)I"⟩
abbrev cX6_sample : ByteArray := prog_8_method_43_code
def yX6_sample : MethodName := ⟨RX6, "sample", "(IIII)I"⟩
abbrev cX6_levelOf : ByteArray := prog_8_method_44_code
def yX6_levelOf : MethodName := ⟨RX6, "levelOf", "(I)I"⟩
abbrev cX6_event : ByteArray := prog_8_method_45_code
def yX6_event : MethodName := ⟨RX6, "event", "(III)I"⟩
abbrev cX6_recall : ByteArray := prog_8_method_46_code
def yX6_recall : MethodName := ⟨RX6, "recall", "(III)I"⟩
abbrev cX6_ban : ByteArray := prog_8_method_47_code
def yX6_ban : MethodName := ⟨RX6, "ban", "(IIZ)I"⟩
abbrev cX6_pass : ByteArray := prog_8_method_48_code
def yX6_pass : MethodName := ⟨RX6, "pass", "(I)I"⟩
abbrev cX6_day : ByteArray := prog_8_method_49_code
def yX6_day : MethodName := ⟨RX6, "day", "()I"⟩
abbrev cX6_applies : ByteArray := prog_8_method_50_code
def yX6_applies : MethodName := ⟨RX6, "applies", "(II)Z"⟩
abbrev cX6_demands : ByteArray := prog_8_method_51_code
def yX6_demands : MethodName := ⟨RX6, "demands", "(IZ)I"⟩
abbrev cX6_way : ByteArray := prog_8_method_52_code
def yX6_way : MethodName := ⟨RX6, "way", "(I)I"⟩
abbrev cX6_wanting : ByteArray := prog_8_method_53_code
def yX6_wanting : MethodName := ⟨RX6, "wanting", "(I)I"⟩
abbrev cX6_onMarket : ByteArray := prog_8_method_54_code
def yX6_onMarket : MethodName := ⟨RX6, "onMarket", "(I)I"⟩
abbrev cX6_productOf : ByteArray := prog_8_method_55_code
def yX6_productOf : MethodName := ⟨RX6, "productOf", "(II)I"⟩
abbrev cX6_riskOf : ByteArray := prog_8_method_56_code
def yX6_riskOf : MethodName := ⟨RX6, "riskOf", "(IIZ)I"⟩
abbrev cX6_batchOf : ByteArray := prog_8_method_57_code
def yX6_batchOf : MethodName := ⟨RX6, "batchOf", "(II)I"⟩
abbrev cX6_wantingAnew : ByteArray := prog_8_method_58_code
def yX6_wantingAnew : MethodName := ⟨RX6, "wantingAnew", "(I)I"⟩
def RL : String := "ConformaryLaw"
abbrev cL_act : ByteArray := method_3_code
def yL_act : MethodName := ⟨RL, "act", "(LConformary;IIII[J)I"⟩
abbrev cL_special : ByteArray := method_4_code
def yL_special : MethodName := ⟨RL, "special", "(LConformary;II[J)I"⟩
abbrev cL_standard : ByteArray := method_5_code
def yL_standard : MethodName := ⟨RL, "standard", "(LConformary;II[J)I"⟩
abbrev cL_withdraw : ByteArray := method_6_code
def yL_withdraw : MethodName := ⟨RL, "withdraw", "(LConformary;II[J)I"⟩
abbrev cL_restrict : ByteArray := method_7_code
def yL_restrict : MethodName := ⟨RL, "restrict", "(LConformary;II[J)I"⟩
abbrev cL_product : ByteArray := method_8_code
def yL_product : MethodName := ⟨RL, "product", "(LConformary;I[J)I"⟩
abbrev cL_change : ByteArray := method_9_code
def yL_change : MethodName := ⟨RL, "change", "(LConformary;II[J)I"⟩
abbrev cL_risk : ByteArray := method_10_code
def yL_risk : MethodName := ⟨RL, "risk", "(LConformary;IIII[J)I"⟩
abbrev cL_follow : ByteArray := method_11_code
def yL_follow : MethodName := ⟨RL, "follow", "(LConformary;III[J)I"⟩
abbrev cL_prove : ByteArray := method_12_code
def yL_prove : MethodName := ⟨RL, "prove", "(LConformary;II[J)I"⟩
abbrev cL_declare : ByteArray := method_13_code
def yL_declare : MethodName := ⟨RL, "declare", "(LConformary;I[J)I"⟩
abbrev cL_body : ByteArray := method_14_code
def yL_body : MethodName := ⟨RL, "body", "(LConformary;I[J)I"⟩
abbrev cL_suspend : ByteArray := method_15_code
def yL_suspend : MethodName := ⟨RL, "suspend", "(LConformary;IZ[J)I"⟩
abbrev cL_certify : ByteArray := method_16_code
def yL_certify : MethodName := ⟨RL, "certify", "(LConformary;III[J)I"⟩
abbrev cL_transfer : ByteArray := method_17_code
def yL_transfer : MethodName := ⟨RL, "transfer", "(LConformary;II[J)I"⟩
abbrev cL_visit : ByteArray := method_18_code
def yL_visit : MethodName := ⟨RL, "visit", "(LConformary;IZ[J)I"⟩
abbrev cL_place : ByteArray := method_19_code
def yL_place : MethodName := ⟨RL, "place", "(LConformary;II[J)I"⟩
abbrev cL_post : ByteArray := method_20_code
def yL_post : MethodName := ⟨RL, "post", "(LConformary;II[J)I"⟩
abbrev cL_sample : ByteArray := method_21_code
def yL_sample : MethodName := ⟨RL, "sample", "(LConformary;IIII[J)I"⟩
abbrev cL_event : ByteArray := method_22_code
def yL_event : MethodName := ⟨RL, "event", "(LConformary;III[J)I"⟩
abbrev cL_recall : ByteArray := method_23_code
def yL_recall : MethodName := ⟨RL, "recall", "(LConformary;III[J)I"⟩
abbrev cL_ban : ByteArray := method_24_code
def yL_ban : MethodName := ⟨RL, "ban", "(LConformary;IIZ[J)I"⟩
abbrev cL_pass : ByteArray := method_25_code
def yL_pass : MethodName := ⟨RL, "pass", "(LConformary;I[J)I"⟩
abbrev cL_applies : ByteArray := method_26_code
def yL_applies : MethodName := ⟨RL, "applies", "(LConformary;II[J)I"⟩
abbrev cL_demands : ByteArray := method_27_code
def yL_demands : MethodName := ⟨RL, "demands", "(LConformary;IZ[J)I"⟩
abbrev cL_way : ByteArray := method_28_code
def yL_way : MethodName := ⟨RL, "way", "(LConformary;I[J)I"⟩
abbrev cL_wanting : ByteArray := method_29_code
def yL_wanting : MethodName := ⟨RL, "wanting", "(LConformary;I[J)I"⟩
abbrev cL_productOf : ByteArray := method_30_code
def yL_productOf : MethodName := ⟨RL, "productOf", "(LConformary;II[J)I"⟩
abbrev cL_riskOf : ByteArray := method_31_code
def yL_riskOf : MethodName := ⟨RL, "riskOf", "(LConformary;IIZ[J)I"⟩
abbrev cL_batchOf : ByteArray := method_32_code
def yL_batchOf : MethodName := ⟨RL, "batchOf", "(LConformary;II[J)I"⟩
abbrev cL_wantingAnew : ByteArray := method_33_code
def yL_wantingAnew : MethodName := ⟨RL, "wantingAnew", "(LConformary;I[J)I"⟩
abbrev cL_law : ByteArray := code
def yL_law : MethodName := ⟨RL, "law", "([I)Z"⟩
theorem dX0_init_0 : decode cX0_init 0 = .ok (.aload_n 0, 1) := by decide +kernel
theorem dX0_init_1 : decode cX0_init 1 = .ok (.invokespecial 1, 3) := by decide +kernel
theorem dX0_init_4 : decode cX0_init 4 = .ok (.aload_n 0, 1) := by decide +kernel
theorem dX0_init_5 : decode cX0_init 5 = .ok (.iload_n 1, 1) := by decide +kernel
theorem dX0_init_6 : decode cX0_init 6 = .ok (.putfield 7, 3) := by decide +kernel
theorem dX0_init_9 : decode cX0_init 9 = .ok (.aload_n 0, 1) := by decide +kernel
theorem dX0_init_10 : decode cX0_init 10 = .ok (.iload_n 2, 1) := by decide +kernel
theorem dX0_init_11 : decode cX0_init 11 = .ok (.putfield 13, 3) := by decide +kernel
theorem dX0_init_14 : decode cX0_init 14 = .ok (.aload_n 0, 1) := by decide +kernel
theorem dX0_init_15 : decode cX0_init 15 = .ok (.iload_n 3, 1) := by decide +kernel
theorem dX0_init_16 : decode cX0_init 16 = .ok (.putfield 16, 3) := by decide +kernel
theorem dX0_init_19 : decode cX0_init 19 = .ok (.aload_n 0, 1) := by decide +kernel
theorem dX0_init_20 : decode cX0_init 20 = .ok (.iload 4, 2) := by decide +kernel
theorem dX0_init_22 : decode cX0_init 22 = .ok (.putfield 19, 3) := by decide +kernel
theorem dX0_init_25 : decode cX0_init 25 = .ok (.return_, 1) := by decide +kernel
theorem dX0_isForByItself_0 : decode cX0_isForByItself 0 = .ok (.iload_n 2, 1) := by decide +kernel
theorem dX0_isForByItself_1 : decode cX0_isForByItself 1 = .ok (.aload_n 0, 1) := by decide +kernel
theorem dX0_isForByItself_2 : decode cX0_isForByItself 2 = .ok (.getfield 19, 3) := by decide +kernel
theorem dX0_isForByItself_5 : decode cX0_isForByItself 5 = .ok (.if_icmp .lt 25, 3) := by decide +kernel
theorem dX0_isForByItself_8 : decode cX0_isForByItself 8 = .ok (.aload_n 0, 1) := by decide +kernel
theorem dX0_isForByItself_9 : decode cX0_isForByItself 9 = .ok (.getfield 7, 3) := by decide +kernel
theorem dX0_isForByItself_12 : decode cX0_isForByItself 12 = .ok (.iload_n 1, 1) := by decide +kernel
theorem dX0_isForByItself_13 : decode cX0_isForByItself 13 = .ok (.iand, 1) := by decide +kernel
theorem dX0_isForByItself_14 : decode cX0_isForByItself 14 = .ok (.ifCond .eq 16, 3) := by decide +kernel
theorem dX0_isForByItself_17 : decode cX0_isForByItself 17 = .ok (.aload_n 0, 1) := by decide +kernel
theorem dX0_isForByItself_18 : decode cX0_isForByItself 18 = .ok (.getfield 13, 3) := by decide +kernel
theorem dX0_isForByItself_21 : decode cX0_isForByItself 21 = .ok (.iload_n 1, 1) := by decide +kernel
theorem dX0_isForByItself_22 : decode cX0_isForByItself 22 = .ok (.iand, 1) := by decide +kernel
theorem dX0_isForByItself_23 : decode cX0_isForByItself 23 = .ok (.ifCond .ne 7, 3) := by decide +kernel
theorem dX0_isForByItself_26 : decode cX0_isForByItself 26 = .ok (.iconst 1, 1) := by decide +kernel
theorem dX0_isForByItself_27 : decode cX0_isForByItself 27 = .ok (.goto 4, 3) := by decide +kernel
theorem dX0_isForByItself_30 : decode cX0_isForByItself 30 = .ok (.iconst 0, 1) := by decide +kernel
theorem dX0_isForByItself_31 : decode cX0_isForByItself 31 = .ok (.ireturn, 1) := by decide +kernel
theorem dX1_init_0 : decode cX1_init 0 = .ok (.aload_n 0, 1) := by decide +kernel
theorem dX1_init_1 : decode cX1_init 1 = .ok (.invokespecial 3, 3) := by decide +kernel
theorem dX1_init_4 : decode cX1_init 4 = .ok (.aload_n 0, 1) := by decide +kernel
theorem dX1_init_5 : decode cX1_init 5 = .ok (.iload_n 1, 1) := by decide +kernel
theorem dX1_init_6 : decode cX1_init 6 = .ok (.putfield 9, 3) := by decide +kernel
theorem dX1_init_9 : decode cX1_init 9 = .ok (.aload_n 0, 1) := by decide +kernel
theorem dX1_init_10 : decode cX1_init 10 = .ok (.iload_n 2, 1) := by decide +kernel
theorem dX1_init_11 : decode cX1_init 11 = .ok (.putfield 15, 3) := by decide +kernel
theorem dX1_init_14 : decode cX1_init 14 = .ok (.aload_n 0, 1) := by decide +kernel
theorem dX1_init_15 : decode cX1_init 15 = .ok (.iload_n 3, 1) := by decide +kernel
theorem dX1_init_16 : decode cX1_init 16 = .ok (.putfield 18, 3) := by decide +kernel
theorem dX1_init_19 : decode cX1_init 19 = .ok (.aload_n 0, 1) := by decide +kernel
theorem dX1_init_20 : decode cX1_init 20 = .ok (.iload 4, 2) := by decide +kernel
theorem dX1_init_22 : decode cX1_init 22 = .ok (.putfield 21, 3) := by decide +kernel
theorem dX1_init_25 : decode cX1_init 25 = .ok (.aload_n 0, 1) := by decide +kernel
theorem dX1_init_26 : decode cX1_init 26 = .ok (.iload 5, 2) := by decide +kernel
theorem dX1_init_28 : decode cX1_init 28 = .ok (.putfield 24, 3) := by decide +kernel
theorem dX1_init_31 : decode cX1_init 31 = .ok (.aload_n 0, 1) := by decide +kernel
theorem dX1_init_32 : decode cX1_init 32 = .ok (.iconst 0, 1) := by decide +kernel
theorem dX1_init_33 : decode cX1_init 33 = .ok (.putfield 27, 3) := by decide +kernel
theorem dX1_init_36 : decode cX1_init 36 = .ok (.aload_n 0, 1) := by decide +kernel
theorem dX1_init_37 : decode cX1_init 37 = .ok (.iconst (-1), 1) := by decide +kernel
theorem dX1_init_38 : decode cX1_init 38 = .ok (.putfield 30, 3) := by decide +kernel
theorem dX1_init_41 : decode cX1_init 41 = .ok (.return_, 1) := by decide +kernel
theorem dX1_isOnMarketOf_0 : decode cX1_isOnMarketOf 0 = .ok (.aload_n 0, 1) := by decide +kernel
theorem dX1_isOnMarketOf_1 : decode cX1_isOnMarketOf 1 = .ok (.getfield 9, 3) := by decide +kernel
theorem dX1_isOnMarketOf_4 : decode cX1_isOnMarketOf 4 = .ok (.iload_n 1, 1) := by decide +kernel
theorem dX1_isOnMarketOf_5 : decode cX1_isOnMarketOf 5 = .ok (.if_icmp .ne 14, 3) := by decide +kernel
theorem dX1_isOnMarketOf_8 : decode cX1_isOnMarketOf 8 = .ok (.aload_n 0, 1) := by decide +kernel
theorem dX1_isOnMarketOf_9 : decode cX1_isOnMarketOf 9 = .ok (.getfield 27, 3) := by decide +kernel
theorem dX1_isOnMarketOf_12 : decode cX1_isOnMarketOf 12 = .ok (.ifCond .ne 7, 3) := by decide +kernel
theorem dX1_isOnMarketOf_15 : decode cX1_isOnMarketOf 15 = .ok (.iconst 1, 1) := by decide +kernel
theorem dX1_isOnMarketOf_16 : decode cX1_isOnMarketOf 16 = .ok (.goto 4, 3) := by decide +kernel
theorem dX1_isOnMarketOf_19 : decode cX1_isOnMarketOf 19 = .ok (.iconst 0, 1) := by decide +kernel
theorem dX1_isOnMarketOf_20 : decode cX1_isOnMarketOf 20 = .ok (.ireturn, 1) := by decide +kernel
theorem dX1_alarmLevel_0 : decode cX1_alarmLevel 0 = .ok (.aload_n 0, 1) := by decide +kernel
theorem dX1_alarmLevel_1 : decode cX1_alarmLevel 1 = .ok (.getfield 33, 3) := by decide +kernel
theorem dX1_alarmLevel_4 : decode cX1_alarmLevel 4 = .ok (.aload_n 0, 1) := by decide +kernel
theorem dX1_alarmLevel_5 : decode cX1_alarmLevel 5 = .ok (.invokevirtual 36, 3) := by decide +kernel
theorem dX1_alarmLevel_8 : decode cX1_alarmLevel 8 = .ok (.iadd, 1) := by decide +kernel
theorem dX1_alarmLevel_9 : decode cX1_alarmLevel 9 = .ok (.aload_n 0, 1) := by decide +kernel
theorem dX1_alarmLevel_10 : decode cX1_alarmLevel 10 = .ok (.getfield 30, 3) := by decide +kernel
theorem dX1_alarmLevel_13 : decode cX1_alarmLevel 13 = .ok (.iconst 2, 1) := by decide +kernel
theorem dX1_alarmLevel_14 : decode cX1_alarmLevel 14 = .ok (.if_icmp .ne 7, 3) := by decide +kernel
theorem dX1_alarmLevel_17 : decode cX1_alarmLevel 17 = .ok (.iconst 1, 1) := by decide +kernel
theorem dX1_alarmLevel_18 : decode cX1_alarmLevel 18 = .ok (.goto 4, 3) := by decide +kernel
theorem dX1_alarmLevel_21 : decode cX1_alarmLevel 21 = .ok (.iconst 0, 1) := by decide +kernel
theorem dX1_alarmLevel_22 : decode cX1_alarmLevel 22 = .ok (.iadd, 1) := by decide +kernel
theorem dX1_alarmLevel_23 : decode cX1_alarmLevel 23 = .ok (.ireturn, 1) := by decide +kernel
theorem dX1_alarmByHarm_0 : decode cX1_alarmByHarm 0 = .ok (.aload_n 0, 1) := by decide +kernel
theorem dX1_alarmByHarm_1 : decode cX1_alarmByHarm 1 = .ok (.getfield 40, 3) := by decide +kernel
theorem dX1_alarmByHarm_4 : decode cX1_alarmByHarm 4 = .ok (.i2l, 1) := by decide +kernel
theorem dX1_alarmByHarm_5 : decode cX1_alarmByHarm 5 = .ok (.ldc2_w 43, 3) := by decide +kernel
theorem dX1_alarmByHarm_8 : decode cX1_alarmByHarm 8 = .ok (.lmul, 1) := by decide +kernel
theorem dX1_alarmByHarm_9 : decode cX1_alarmByHarm 9 = .ok (.lstore_n 1, 1) := by decide +kernel
theorem dX1_alarmByHarm_10 : decode cX1_alarmByHarm 10 = .ok (.lload_n 1, 1) := by decide +kernel
theorem dX1_alarmByHarm_11 : decode cX1_alarmByHarm 11 = .ok (.ldc2_w 45, 3) := by decide +kernel
theorem dX1_alarmByHarm_14 : decode cX1_alarmByHarm 14 = .ok (.aload_n 0, 1) := by decide +kernel
theorem dX1_alarmByHarm_15 : decode cX1_alarmByHarm 15 = .ok (.getfield 15, 3) := by decide +kernel
theorem dX1_alarmByHarm_18 : decode cX1_alarmByHarm 18 = .ok (.i2l, 1) := by decide +kernel
theorem dX1_alarmByHarm_19 : decode cX1_alarmByHarm 19 = .ok (.lmul, 1) := by decide +kernel
theorem dX1_alarmByHarm_20 : decode cX1_alarmByHarm 20 = .ok (.lcmp, 1) := by decide +kernel
theorem dX1_alarmByHarm_21 : decode cX1_alarmByHarm 21 = .ok (.ifCond .lt 5, 3) := by decide +kernel
theorem dX1_alarmByHarm_24 : decode cX1_alarmByHarm 24 = .ok (.iconst 2, 1) := by decide +kernel
theorem dX1_alarmByHarm_25 : decode cX1_alarmByHarm 25 = .ok (.ireturn, 1) := by decide +kernel
theorem dX1_alarmByHarm_26 : decode cX1_alarmByHarm 26 = .ok (.lload_n 1, 1) := by decide +kernel
theorem dX1_alarmByHarm_27 : decode cX1_alarmByHarm 27 = .ok (.ldc2_w 47, 3) := by decide +kernel
theorem dX1_alarmByHarm_30 : decode cX1_alarmByHarm 30 = .ok (.aload_n 0, 1) := by decide +kernel
theorem dX1_alarmByHarm_31 : decode cX1_alarmByHarm 31 = .ok (.getfield 15, 3) := by decide +kernel
theorem dX1_alarmByHarm_34 : decode cX1_alarmByHarm 34 = .ok (.i2l, 1) := by decide +kernel
theorem dX1_alarmByHarm_35 : decode cX1_alarmByHarm 35 = .ok (.lmul, 1) := by decide +kernel
theorem dX1_alarmByHarm_36 : decode cX1_alarmByHarm 36 = .ok (.lcmp, 1) := by decide +kernel
theorem dX1_alarmByHarm_37 : decode cX1_alarmByHarm 37 = .ok (.ifCond .lt 7, 3) := by decide +kernel
theorem dX1_alarmByHarm_40 : decode cX1_alarmByHarm 40 = .ok (.iconst 1, 1) := by decide +kernel
theorem dX1_alarmByHarm_41 : decode cX1_alarmByHarm 41 = .ok (.goto 4, 3) := by decide +kernel
theorem dX1_alarmByHarm_44 : decode cX1_alarmByHarm 44 = .ok (.iconst 0, 1) := by decide +kernel
theorem dX1_alarmByHarm_45 : decode cX1_alarmByHarm 45 = .ok (.ireturn, 1) := by decide +kernel
theorem dX2_init_0 : decode cX2_init 0 = .ok (.aload_n 0, 1) := by decide +kernel
theorem dX2_init_1 : decode cX2_init 1 = .ok (.invokespecial 3, 3) := by decide +kernel
theorem dX2_init_4 : decode cX2_init 4 = .ok (.aload_n 0, 1) := by decide +kernel
theorem dX2_init_5 : decode cX2_init 5 = .ok (.iload_n 1, 1) := by decide +kernel
theorem dX2_init_6 : decode cX2_init 6 = .ok (.putfield 9, 3) := by decide +kernel
theorem dX2_init_9 : decode cX2_init 9 = .ok (.aload_n 0, 1) := by decide +kernel
theorem dX2_init_10 : decode cX2_init 10 = .ok (.iload_n 2, 1) := by decide +kernel
theorem dX2_init_11 : decode cX2_init 11 = .ok (.putfield 15, 3) := by decide +kernel
theorem dX2_init_14 : decode cX2_init 14 = .ok (.aload_n 0, 1) := by decide +kernel
theorem dX2_init_15 : decode cX2_init 15 = .ok (.iconst (-1), 1) := by decide +kernel
theorem dX2_init_16 : decode cX2_init 16 = .ok (.putfield 18, 3) := by decide +kernel
theorem dX2_init_19 : decode cX2_init 19 = .ok (.return_, 1) := by decide +kernel
theorem dX2_isSuspended_0 : decode cX2_isSuspended 0 = .ok (.aload_n 0, 1) := by decide +kernel
theorem dX2_isSuspended_1 : decode cX2_isSuspended 1 = .ok (.getfield 18, 3) := by decide +kernel
theorem dX2_isSuspended_4 : decode cX2_isSuspended 4 = .ok (.iconst (-1), 1) := by decide +kernel
theorem dX2_isSuspended_5 : decode cX2_isSuspended 5 = .ok (.if_icmp .eq 7, 3) := by decide +kernel
theorem dX2_isSuspended_8 : decode cX2_isSuspended 8 = .ok (.iconst 1, 1) := by decide +kernel
theorem dX2_isSuspended_9 : decode cX2_isSuspended 9 = .ok (.goto 4, 3) := by decide +kernel
theorem dX2_isSuspended_12 : decode cX2_isSuspended 12 = .ok (.iconst 0, 1) := by decide +kernel
theorem dX2_isSuspended_13 : decode cX2_isSuspended 13 = .ok (.ireturn, 1) := by decide +kernel
theorem dX2_hasInScope_0 : decode cX2_hasInScope 0 = .ok (.iload_n 1, 1) := by decide +kernel
theorem dX2_hasInScope_1 : decode cX2_hasInScope 1 = .ok (.aload_n 0, 1) := by decide +kernel
theorem dX2_hasInScope_2 : decode cX2_hasInScope 2 = .ok (.getfield 15, 3) := by decide +kernel
theorem dX2_hasInScope_5 : decode cX2_hasInScope 5 = .ok (.iconst (-1), 1) := by decide +kernel
theorem dX2_hasInScope_6 : decode cX2_hasInScope 6 = .ok (.ixor, 1) := by decide +kernel
theorem dX2_hasInScope_7 : decode cX2_hasInScope 7 = .ok (.iand, 1) := by decide +kernel
theorem dX2_hasInScope_8 : decode cX2_hasInScope 8 = .ok (.ifCond .ne 7, 3) := by decide +kernel
theorem dX2_hasInScope_11 : decode cX2_hasInScope 11 = .ok (.iconst 1, 1) := by decide +kernel
theorem dX2_hasInScope_12 : decode cX2_hasInScope 12 = .ok (.goto 4, 3) := by decide +kernel
theorem dX2_hasInScope_15 : decode cX2_hasInScope 15 = .ok (.iconst 0, 1) := by decide +kernel
theorem dX2_hasInScope_16 : decode cX2_hasInScope 16 = .ok (.ireturn, 1) := by decide +kernel
theorem dX2_isCertificateUpheld_0 : decode cX2_isCertificateUpheld 0 = .ok (.aload_n 0, 1) := by decide +kernel
theorem dX2_isCertificateUpheld_1 : decode cX2_isCertificateUpheld 1 = .ok (.invokevirtual 21, 3) := by decide +kernel
theorem dX2_isCertificateUpheld_4 : decode cX2_isCertificateUpheld 4 = .ok (.ifCond .eq 14, 3) := by decide +kernel
theorem dX2_isCertificateUpheld_7 : decode cX2_isCertificateUpheld 7 = .ok (.iload_n 1, 1) := by decide +kernel
theorem dX2_isCertificateUpheld_8 : decode cX2_isCertificateUpheld 8 = .ok (.aload_n 0, 1) := by decide +kernel
theorem dX2_isCertificateUpheld_9 : decode cX2_isCertificateUpheld 9 = .ok (.getfield 18, 3) := by decide +kernel
theorem dX2_isCertificateUpheld_12 : decode cX2_isCertificateUpheld 12 = .ok (.bipush 100, 2) := by decide +kernel
theorem dX2_isCertificateUpheld_14 : decode cX2_isCertificateUpheld 14 = .ok (.iadd, 1) := by decide +kernel
theorem dX2_isCertificateUpheld_15 : decode cX2_isCertificateUpheld 15 = .ok (.if_icmp .gt 7, 3) := by decide +kernel
theorem dX2_isCertificateUpheld_18 : decode cX2_isCertificateUpheld 18 = .ok (.iconst 1, 1) := by decide +kernel
theorem dX2_isCertificateUpheld_19 : decode cX2_isCertificateUpheld 19 = .ok (.goto 4, 3) := by decide +kernel
theorem dX2_isCertificateUpheld_22 : decode cX2_isCertificateUpheld 22 = .ok (.iconst 0, 1) := by decide +kernel
theorem dX2_isCertificateUpheld_23 : decode cX2_isCertificateUpheld 23 = .ok (.ireturn, 1) := by decide +kernel
theorem dX3_init_0 : decode cX3_init 0 = .ok (.aload_n 0, 1) := by decide +kernel
theorem dX3_init_1 : decode cX3_init 1 = .ok (.invokespecial 3, 3) := by decide +kernel
theorem dX3_init_4 : decode cX3_init 4 = .ok (.aload_n 0, 1) := by decide +kernel
theorem dX3_init_5 : decode cX3_init 5 = .ok (.iload_n 1, 1) := by decide +kernel
theorem dX3_init_6 : decode cX3_init 6 = .ok (.putfield 9, 3) := by decide +kernel
theorem dX3_init_9 : decode cX3_init 9 = .ok (.aload_n 0, 1) := by decide +kernel
theorem dX3_init_10 : decode cX3_init 10 = .ok (.bipush 8, 2) := by decide +kernel
theorem dX3_init_12 : decode cX3_init 12 = .ok (.newarray .int, 2) := by decide +kernel
theorem dX3_init_14 : decode cX3_init 14 = .ok (.putfield 15, 3) := by decide +kernel
theorem dX3_init_17 : decode cX3_init 17 = .ok (.aload_n 0, 1) := by decide +kernel
theorem dX3_init_18 : decode cX3_init 18 = .ok (.bipush 8, 2) := by decide +kernel
theorem dX3_init_20 : decode cX3_init 20 = .ok (.newarray .int, 2) := by decide +kernel
theorem dX3_init_22 : decode cX3_init 22 = .ok (.putfield 19, 3) := by decide +kernel
theorem dX3_init_25 : decode cX3_init 25 = .ok (.aload_n 0, 1) := by decide +kernel
theorem dX3_init_26 : decode cX3_init 26 = .ok (.bipush 12, 2) := by decide +kernel
theorem dX3_init_28 : decode cX3_init 28 = .ok (.newarray .int, 2) := by decide +kernel
theorem dX3_init_30 : decode cX3_init 30 = .ok (.putfield 22, 3) := by decide +kernel
theorem dX3_init_33 : decode cX3_init 33 = .ok (.aload_n 0, 1) := by decide +kernel
theorem dX3_init_34 : decode cX3_init 34 = .ok (.iconst (-1), 1) := by decide +kernel
theorem dX3_init_35 : decode cX3_init 35 = .ok (.putfield 25, 3) := by decide +kernel
theorem dX3_init_38 : decode cX3_init 38 = .ok (.aload_n 0, 1) := by decide +kernel
theorem dX3_init_39 : decode cX3_init 39 = .ok (.iconst (-1), 1) := by decide +kernel
theorem dX3_init_40 : decode cX3_init 40 = .ok (.putfield 28, 3) := by decide +kernel
theorem dX3_init_43 : decode cX3_init 43 = .ok (.aload_n 0, 1) := by decide +kernel
theorem dX3_init_44 : decode cX3_init 44 = .ok (.iconst (-1), 1) := by decide +kernel
theorem dX3_init_45 : decode cX3_init 45 = .ok (.putfield 31, 3) := by decide +kernel
theorem dX3_init_48 : decode cX3_init 48 = .ok (.return_, 1) := by decide +kernel
theorem dX3_startNextVersion_0 : decode cX3_startNextVersion 0 = .ok (.aload_n 0, 1) := by decide +kernel
theorem dX3_startNextVersion_1 : decode cX3_startNextVersion 1 = .ok (.dup, 1) := by decide +kernel
theorem dX3_startNextVersion_2 : decode cX3_startNextVersion 2 = .ok (.getfield 34, 3) := by decide +kernel
theorem dX3_startNextVersion_5 : decode cX3_startNextVersion 5 = .ok (.iconst 1, 1) := by decide +kernel
theorem dX3_startNextVersion_6 : decode cX3_startNextVersion 6 = .ok (.iadd, 1) := by decide +kernel
theorem dX3_startNextVersion_7 : decode cX3_startNextVersion 7 = .ok (.putfield 34, 3) := by decide +kernel
theorem dX3_startNextVersion_10 : decode cX3_startNextVersion 10 = .ok (.iconst 0, 1) := by decide +kernel
theorem dX3_startNextVersion_11 : decode cX3_startNextVersion 11 = .ok (.istore_n 1, 1) := by decide +kernel
theorem dX3_startNextVersion_12 : decode cX3_startNextVersion 12 = .ok (.iload_n 1, 1) := by decide +kernel
theorem dX3_startNextVersion_13 : decode cX3_startNextVersion 13 = .ok (.aload_n 0, 1) := by decide +kernel
theorem dX3_startNextVersion_14 : decode cX3_startNextVersion 14 = .ok (.getfield 22, 3) := by decide +kernel
theorem dX3_startNextVersion_17 : decode cX3_startNextVersion 17 = .ok (.arraylength, 1) := by decide +kernel
theorem dX3_startNextVersion_18 : decode cX3_startNextVersion 18 = .ok (.if_icmp .ge 16, 3) := by decide +kernel
theorem dX3_startNextVersion_21 : decode cX3_startNextVersion 21 = .ok (.aload_n 0, 1) := by decide +kernel
theorem dX3_startNextVersion_22 : decode cX3_startNextVersion 22 = .ok (.getfield 22, 3) := by decide +kernel
theorem dX3_startNextVersion_25 : decode cX3_startNextVersion 25 = .ok (.iload_n 1, 1) := by decide +kernel
theorem dX3_startNextVersion_26 : decode cX3_startNextVersion 26 = .ok (.iconst 0, 1) := by decide +kernel
theorem dX3_startNextVersion_27 : decode cX3_startNextVersion 27 = .ok (.iastore, 1) := by decide +kernel
theorem dX3_startNextVersion_28 : decode cX3_startNextVersion 28 = .ok (.iinc 1 1, 3) := by decide +kernel
theorem dX3_startNextVersion_31 : decode cX3_startNextVersion 31 = .ok (.goto (-19), 3) := by decide +kernel
theorem dX3_startNextVersion_34 : decode cX3_startNextVersion 34 = .ok (.aload_n 0, 1) := by decide +kernel
theorem dX3_startNextVersion_35 : decode cX3_startNextVersion 35 = .ok (.iconst 0, 1) := by decide +kernel
theorem dX3_startNextVersion_36 : decode cX3_startNextVersion 36 = .ok (.putfield 37, 3) := by decide +kernel
theorem dX3_startNextVersion_39 : decode cX3_startNextVersion 39 = .ok (.aload_n 0, 1) := by decide +kernel
theorem dX3_startNextVersion_40 : decode cX3_startNextVersion 40 = .ok (.iconst (-1), 1) := by decide +kernel
theorem dX3_startNextVersion_41 : decode cX3_startNextVersion 41 = .ok (.putfield 25, 3) := by decide +kernel
theorem dX3_startNextVersion_44 : decode cX3_startNextVersion 44 = .ok (.aload_n 0, 1) := by decide +kernel
theorem dX3_startNextVersion_45 : decode cX3_startNextVersion 45 = .ok (.iconst (-1), 1) := by decide +kernel
theorem dX3_startNextVersion_46 : decode cX3_startNextVersion 46 = .ok (.putfield 31, 3) := by decide +kernel
theorem dX3_startNextVersion_49 : decode cX3_startNextVersion 49 = .ok (.aload_n 0, 1) := by decide +kernel
theorem dX3_startNextVersion_50 : decode cX3_startNextVersion 50 = .ok (.invokevirtual 40, 3) := by decide +kernel
theorem dX3_startNextVersion_53 : decode cX3_startNextVersion 53 = .ok (.return_, 1) := by decide +kernel
theorem dX3_endCertificate_0 : decode cX3_endCertificate 0 = .ok (.aload_n 0, 1) := by decide +kernel
theorem dX3_endCertificate_1 : decode cX3_endCertificate 1 = .ok (.aconst_null, 1) := by decide +kernel
theorem dX3_endCertificate_2 : decode cX3_endCertificate 2 = .ok (.putfield 43, 3) := by decide +kernel
theorem dX3_endCertificate_5 : decode cX3_endCertificate 5 = .ok (.aload_n 0, 1) := by decide +kernel
theorem dX3_endCertificate_6 : decode cX3_endCertificate 6 = .ok (.iconst (-1), 1) := by decide +kernel
theorem dX3_endCertificate_7 : decode cX3_endCertificate 7 = .ok (.putfield 28, 3) := by decide +kernel
theorem dX3_endCertificate_10 : decode cX3_endCertificate 10 = .ok (.return_, 1) := by decide +kernel
theorem dX3_isVisitCounted_0 : decode cX3_isVisitCounted 0 = .ok (.aload_n 0, 1) := by decide +kernel
theorem dX3_isVisitCounted_1 : decode cX3_isVisitCounted 1 = .ok (.getfield 31, 3) := by decide +kernel
theorem dX3_isVisitCounted_4 : decode cX3_isVisitCounted 4 = .ok (.iconst (-1), 1) := by decide +kernel
theorem dX3_isVisitCounted_5 : decode cX3_isVisitCounted 5 = .ok (.if_icmp .eq 19, 3) := by decide +kernel
theorem dX3_isVisitCounted_8 : decode cX3_isVisitCounted 8 = .ok (.iload_n 1, 1) := by decide +kernel
theorem dX3_isVisitCounted_9 : decode cX3_isVisitCounted 9 = .ok (.aload_n 0, 1) := by decide +kernel
theorem dX3_isVisitCounted_10 : decode cX3_isVisitCounted 10 = .ok (.getfield 31, 3) := by decide +kernel
theorem dX3_isVisitCounted_13 : decode cX3_isVisitCounted 13 = .ok (.sipush 365, 3) := by decide +kernel
theorem dX3_isVisitCounted_16 : decode cX3_isVisitCounted 16 = .ok (.iadd, 1) := by decide +kernel
theorem dX3_isVisitCounted_17 : decode cX3_isVisitCounted 17 = .ok (.if_icmp .gt 7, 3) := by decide +kernel
theorem dX3_isVisitCounted_20 : decode cX3_isVisitCounted 20 = .ok (.iconst 1, 1) := by decide +kernel
theorem dX3_isVisitCounted_21 : decode cX3_isVisitCounted 21 = .ok (.goto 4, 3) := by decide +kernel
theorem dX3_isVisitCounted_24 : decode cX3_isVisitCounted 24 = .ok (.iconst 0, 1) := by decide +kernel
theorem dX3_isVisitCounted_25 : decode cX3_isVisitCounted 25 = .ok (.ireturn, 1) := by decide +kernel
theorem dX3_hazardsBeforeAbove_0 : decode cX3_hazardsBeforeAbove 0 = .ok (.iload_n 1, 1) := by decide +kernel
theorem dX3_hazardsBeforeAbove_1 : decode cX3_hazardsBeforeAbove 1 = .ok (.aload_n 0, 1) := by decide +kernel
theorem dX3_hazardsBeforeAbove_2 : decode cX3_hazardsBeforeAbove 2 = .ok (.getfield 15, 3) := by decide +kernel
theorem dX3_hazardsBeforeAbove_5 : decode cX3_hazardsBeforeAbove 5 = .ok (.invokestatic 47, 3) := by decide +kernel
theorem dX3_hazardsBeforeAbove_8 : decode cX3_hazardsBeforeAbove 8 = .ok (.ireturn, 1) := by decide +kernel
theorem dX3_hazardsAfterAbove_0 : decode cX3_hazardsAfterAbove 0 = .ok (.iload_n 1, 1) := by decide +kernel
theorem dX3_hazardsAfterAbove_1 : decode cX3_hazardsAfterAbove 1 = .ok (.aload_n 0, 1) := by decide +kernel
theorem dX3_hazardsAfterAbove_2 : decode cX3_hazardsAfterAbove 2 = .ok (.getfield 19, 3) := by decide +kernel
theorem dX3_hazardsAfterAbove_5 : decode cX3_hazardsAfterAbove 5 = .ok (.invokestatic 47, 3) := by decide +kernel
theorem dX3_hazardsAfterAbove_8 : decode cX3_hazardsAfterAbove 8 = .ok (.ireturn, 1) := by decide +kernel
theorem dX3_hazardsAbove_0 : decode cX3_hazardsAbove 0 = .ok (.iconst 0, 1) := by decide +kernel
theorem dX3_hazardsAbove_1 : decode cX3_hazardsAbove 1 = .ok (.istore_n 2, 1) := by decide +kernel
theorem dX3_hazardsAbove_2 : decode cX3_hazardsAbove 2 = .ok (.iconst 0, 1) := by decide +kernel
theorem dX3_hazardsAbove_3 : decode cX3_hazardsAbove 3 = .ok (.istore_n 3, 1) := by decide +kernel
theorem dX3_hazardsAbove_4 : decode cX3_hazardsAbove 4 = .ok (.iload_n 3, 1) := by decide +kernel
theorem dX3_hazardsAbove_5 : decode cX3_hazardsAbove 5 = .ok (.aload_n 1, 1) := by decide +kernel
theorem dX3_hazardsAbove_6 : decode cX3_hazardsAbove 6 = .ok (.arraylength, 1) := by decide +kernel
theorem dX3_hazardsAbove_7 : decode cX3_hazardsAbove 7 = .ok (.if_icmp .ge 22, 3) := by decide +kernel
theorem dX3_hazardsAbove_10 : decode cX3_hazardsAbove 10 = .ok (.aload_n 1, 1) := by decide +kernel
theorem dX3_hazardsAbove_11 : decode cX3_hazardsAbove 11 = .ok (.iload_n 3, 1) := by decide +kernel
theorem dX3_hazardsAbove_12 : decode cX3_hazardsAbove 12 = .ok (.iaload, 1) := by decide +kernel
theorem dX3_hazardsAbove_13 : decode cX3_hazardsAbove 13 = .ok (.iload_n 0, 1) := by decide +kernel
theorem dX3_hazardsAbove_14 : decode cX3_hazardsAbove 14 = .ok (.if_icmp .le 9, 3) := by decide +kernel
theorem dX3_hazardsAbove_17 : decode cX3_hazardsAbove 17 = .ok (.iload_n 2, 1) := by decide +kernel
theorem dX3_hazardsAbove_18 : decode cX3_hazardsAbove 18 = .ok (.iconst 1, 1) := by decide +kernel
theorem dX3_hazardsAbove_19 : decode cX3_hazardsAbove 19 = .ok (.iload_n 3, 1) := by decide +kernel
theorem dX3_hazardsAbove_20 : decode cX3_hazardsAbove 20 = .ok (.ishl, 1) := by decide +kernel
theorem dX3_hazardsAbove_21 : decode cX3_hazardsAbove 21 = .ok (.ior, 1) := by decide +kernel
theorem dX3_hazardsAbove_22 : decode cX3_hazardsAbove 22 = .ok (.istore_n 2, 1) := by decide +kernel
theorem dX3_hazardsAbove_23 : decode cX3_hazardsAbove 23 = .ok (.iinc 3 1, 3) := by decide +kernel
theorem dX3_hazardsAbove_26 : decode cX3_hazardsAbove 26 = .ok (.goto (-22), 3) := by decide +kernel
theorem dX3_hazardsAbove_29 : decode cX3_hazardsAbove 29 = .ok (.iload_n 2, 1) := by decide +kernel
theorem dX3_hazardsAbove_30 : decode cX3_hazardsAbove 30 = .ok (.ireturn, 1) := by decide +kernel
theorem dX4_init_0 : decode cX4_init 0 = .ok (.aload_n 0, 1) := by decide +kernel
theorem dX4_init_1 : decode cX4_init 1 = .ok (.invokespecial 3, 3) := by decide +kernel
theorem dX4_init_4 : decode cX4_init 4 = .ok (.aload_n 0, 1) := by decide +kernel
theorem dX4_init_5 : decode cX4_init 5 = .ok (.iload_n 1, 1) := by decide +kernel
theorem dX4_init_6 : decode cX4_init 6 = .ok (.putfield 9, 3) := by decide +kernel
theorem dX4_init_9 : decode cX4_init 9 = .ok (.aload_n 0, 1) := by decide +kernel
theorem dX4_init_10 : decode cX4_init 10 = .ok (.iload_n 2, 1) := by decide +kernel
theorem dX4_init_11 : decode cX4_init 11 = .ok (.putfield 15, 3) := by decide +kernel
theorem dX4_init_14 : decode cX4_init 14 = .ok (.aload_n 0, 1) := by decide +kernel
theorem dX4_init_15 : decode cX4_init 15 = .ok (.iconst (-1), 1) := by decide +kernel
theorem dX4_init_16 : decode cX4_init 16 = .ok (.putfield 18, 3) := by decide +kernel
theorem dX4_init_19 : decode cX4_init 19 = .ok (.return_, 1) := by decide +kernel
theorem dX4_isListedOn_0 : decode cX4_isListedOn 0 = .ok (.iload_n 1, 1) := by decide +kernel
theorem dX4_isListedOn_1 : decode cX4_isListedOn 1 = .ok (.aload_n 0, 1) := by decide +kernel
theorem dX4_isListedOn_2 : decode cX4_isListedOn 2 = .ok (.getfield 15, 3) := by decide +kernel
theorem dX4_isListedOn_5 : decode cX4_isListedOn 5 = .ok (.if_icmp .lt 23, 3) := by decide +kernel
theorem dX4_isListedOn_8 : decode cX4_isListedOn 8 = .ok (.aload_n 0, 1) := by decide +kernel
theorem dX4_isListedOn_9 : decode cX4_isListedOn 9 = .ok (.getfield 18, 3) := by decide +kernel
theorem dX4_isListedOn_12 : decode cX4_isListedOn 12 = .ok (.iconst (-1), 1) := by decide +kernel
theorem dX4_isListedOn_13 : decode cX4_isListedOn 13 = .ok (.if_icmp .eq 11, 3) := by decide +kernel
theorem dX4_isListedOn_16 : decode cX4_isListedOn 16 = .ok (.iload_n 1, 1) := by decide +kernel
theorem dX4_isListedOn_17 : decode cX4_isListedOn 17 = .ok (.aload_n 0, 1) := by decide +kernel
theorem dX4_isListedOn_18 : decode cX4_isListedOn 18 = .ok (.getfield 18, 3) := by decide +kernel
theorem dX4_isListedOn_21 : decode cX4_isListedOn 21 = .ok (.if_icmp .gt 7, 3) := by decide +kernel
theorem dX4_isListedOn_24 : decode cX4_isListedOn 24 = .ok (.iconst 1, 1) := by decide +kernel
theorem dX4_isListedOn_25 : decode cX4_isListedOn 25 = .ok (.goto 4, 3) := by decide +kernel
theorem dX4_isListedOn_28 : decode cX4_isListedOn 28 = .ok (.iconst 0, 1) := by decide +kernel
theorem dX4_isListedOn_29 : decode cX4_isListedOn 29 = .ok (.ireturn, 1) := by decide +kernel
theorem dX5_init_0 : decode cX5_init 0 = .ok (.aload_n 0, 1) := by decide +kernel
theorem dX5_init_1 : decode cX5_init 1 = .ok (.invokespecial 1, 3) := by decide +kernel
theorem dX5_init_4 : decode cX5_init 4 = .ok (.aload_n 0, 1) := by decide +kernel
theorem dX5_init_5 : decode cX5_init 5 = .ok (.bipush 6, 2) := by decide +kernel
theorem dX5_init_7 : decode cX5_init 7 = .ok (.anewarray 9, 3) := by decide +kernel
theorem dX5_init_10 : decode cX5_init 10 = .ok (.putfield 11, 3) := by decide +kernel
theorem dX5_init_13 : decode cX5_init 13 = .ok (.aload_n 0, 1) := by decide +kernel
theorem dX5_init_14 : decode cX5_init 14 = .ok (.bipush 12, 2) := by decide +kernel
theorem dX5_init_16 : decode cX5_init 16 = .ok (.anewarray 15, 3) := by decide +kernel
theorem dX5_init_19 : decode cX5_init 19 = .ok (.putfield 17, 3) := by decide +kernel
theorem dX5_init_22 : decode cX5_init 22 = .ok (.aload_n 0, 1) := by decide +kernel
theorem dX5_init_23 : decode cX5_init 23 = .ok (.bipush 10, 2) := by decide +kernel
theorem dX5_init_25 : decode cX5_init 25 = .ok (.anewarray 21, 3) := by decide +kernel
theorem dX5_init_28 : decode cX5_init 28 = .ok (.putfield 23, 3) := by decide +kernel
theorem dX5_init_31 : decode cX5_init 31 = .ok (.aload_n 0, 1) := by decide +kernel
theorem dX5_init_32 : decode cX5_init 32 = .ok (.iconst 5, 1) := by decide +kernel
theorem dX5_init_33 : decode cX5_init 33 = .ok (.anewarray 27, 3) := by decide +kernel
theorem dX5_init_36 : decode cX5_init 36 = .ok (.putfield 29, 3) := by decide +kernel
theorem dX5_init_39 : decode cX5_init 39 = .ok (.aload_n 0, 1) := by decide +kernel
theorem dX5_init_40 : decode cX5_init 40 = .ok (.bipush 40, 2) := by decide +kernel
theorem dX5_init_42 : decode cX5_init 42 = .ok (.anewarray 33, 3) := by decide +kernel
theorem dX5_init_45 : decode cX5_init 45 = .ok (.putfield 35, 3) := by decide +kernel
theorem dX5_init_48 : decode cX5_init 48 = .ok (.return_, 1) := by decide +kernel
theorem dX5_act_0 : decode cX5_act 0 = .ok (.iload_n 1, 1) := by decide +kernel
theorem dX5_act_1 : decode cX5_act 1 = .ok (.iconst 1, 1) := by decide +kernel
theorem dX5_act_2 : decode cX5_act 2 = .ok (.sipush 255, 3) := by decide +kernel
theorem dX5_act_5 : decode cX5_act 5 = .ok (.invokestatic 39, 3) := by decide +kernel
theorem dX5_act_8 : decode cX5_act 8 = .ok (.iload_n 2, 1) := by decide +kernel
theorem dX5_act_9 : decode cX5_act 9 = .ok (.iconst 0, 1) := by decide +kernel
theorem dX5_act_10 : decode cX5_act 10 = .ok (.sipush 255, 3) := by decide +kernel
theorem dX5_act_13 : decode cX5_act 13 = .ok (.invokestatic 39, 3) := by decide +kernel
theorem dX5_act_16 : decode cX5_act 16 = .ok (.iload_n 3, 1) := by decide +kernel
theorem dX5_act_17 : decode cX5_act 17 = .ok (.iconst 1, 1) := by decide +kernel
theorem dX5_act_18 : decode cX5_act 18 = .ok (.sipush 255, 3) := by decide +kernel
theorem dX5_act_21 : decode cX5_act 21 = .ok (.invokestatic 39, 3) := by decide +kernel
theorem dX5_act_24 : decode cX5_act 24 = .ok (.iload 4, 2) := by decide +kernel
theorem dX5_act_26 : decode cX5_act 26 = .ok (.iconst 0, 1) := by decide +kernel
theorem dX5_act_27 : decode cX5_act 27 = .ok (.sipush 5000, 3) := by decide +kernel
theorem dX5_act_30 : decode cX5_act 30 = .ok (.invokestatic 39, 3) := by decide +kernel
theorem dX5_act_33 : decode cX5_act 33 = .ok (.aload_n 0, 1) := by decide +kernel
theorem dX5_act_34 : decode cX5_act 34 = .ok (.getfield 43, 3) := by decide +kernel
theorem dX5_act_37 : decode cX5_act 37 = .ok (.ifCond .lt 15, 3) := by decide +kernel
theorem dX5_act_40 : decode cX5_act 40 = .ok (.aload_n 0, 1) := by decide +kernel
theorem dX5_act_41 : decode cX5_act 41 = .ok (.getfield 43, 3) := by decide +kernel
theorem dX5_act_44 : decode cX5_act 44 = .ok (.aload_n 0, 1) := by decide +kernel
theorem dX5_act_45 : decode cX5_act 45 = .ok (.getfield 11, 3) := by decide +kernel
theorem dX5_act_48 : decode cX5_act 48 = .ok (.arraylength, 1) := by decide +kernel
theorem dX5_act_49 : decode cX5_act 49 = .ok (.if_icmp .lt 13, 3) := by decide +kernel
theorem dX5_act_52 : decode cX5_act 52 = .ok (.new 47, 3) := by decide +kernel
theorem dX5_act_55 : decode cX5_act 55 = .ok (.dup, 1) := by decide +kernel
theorem dX5_act_56 : decode cX5_act 56 = .ok (.ldc 49, 2) := by decide +kernel
theorem dX5_act_58 : decode cX5_act 58 = .ok (.invokespecial 51, 3) := by decide +kernel
theorem dX5_act_61 : decode cX5_act 61 = .ok (.athrow, 1) := by decide +kernel
theorem dX5_act_62 : decode cX5_act 62 = .ok (.aload_n 0, 1) := by decide +kernel
theorem dX5_act_63 : decode cX5_act 63 = .ok (.getfield 11, 3) := by decide +kernel
theorem dX5_act_66 : decode cX5_act 66 = .ok (.aload_n 0, 1) := by decide +kernel
theorem dX5_act_67 : decode cX5_act 67 = .ok (.getfield 43, 3) := by decide +kernel
theorem dX5_act_70 : decode cX5_act 70 = .ok (.new 9, 3) := by decide +kernel
theorem dX5_act_73 : decode cX5_act 73 = .ok (.dup, 1) := by decide +kernel
theorem dX5_act_74 : decode cX5_act 74 = .ok (.iload_n 1, 1) := by decide +kernel
theorem dX5_act_75 : decode cX5_act 75 = .ok (.iload_n 2, 1) := by decide +kernel
theorem dX5_act_76 : decode cX5_act 76 = .ok (.iload_n 3, 1) := by decide +kernel
theorem dX5_act_77 : decode cX5_act 77 = .ok (.iload 4, 2) := by decide +kernel
theorem dX5_act_79 : decode cX5_act 79 = .ok (.invokespecial 54, 3) := by decide +kernel
theorem dX5_act_82 : decode cX5_act 82 = .ok (.aastore, 1) := by decide +kernel
theorem dX5_act_83 : decode cX5_act 83 = .ok (.aload_n 0, 1) := by decide +kernel
theorem dX5_act_84 : decode cX5_act 84 = .ok (.dup, 1) := by decide +kernel
theorem dX5_act_85 : decode cX5_act 85 = .ok (.getfield 43, 3) := by decide +kernel
theorem dX5_act_88 : decode cX5_act 88 = .ok (.dup_x1, 1) := by decide +kernel
theorem dX5_act_89 : decode cX5_act 89 = .ok (.iconst 1, 1) := by decide +kernel
theorem dX5_act_90 : decode cX5_act 90 = .ok (.iadd, 1) := by decide +kernel
theorem dX5_act_91 : decode cX5_act 91 = .ok (.putfield 43, 3) := by decide +kernel
theorem dX5_act_94 : decode cX5_act 94 = .ok (.ireturn, 1) := by decide +kernel
theorem dX5_special_0 : decode cX5_special 0 = .ok (.aload_n 0, 1) := by decide +kernel
theorem dX5_special_1 : decode cX5_special 1 = .ok (.iload_n 1, 1) := by decide +kernel
theorem dX5_special_2 : decode cX5_special 2 = .ok (.invokevirtual 57, 3) := by decide +kernel
theorem dX5_special_5 : decode cX5_special 5 = .ok (.astore_n 3, 1) := by decide +kernel
theorem dX5_special_6 : decode cX5_special 6 = .ok (.aload_n 0, 1) := by decide +kernel
theorem dX5_special_7 : decode cX5_special 7 = .ok (.iload_n 2, 1) := by decide +kernel
theorem dX5_special_8 : decode cX5_special 8 = .ok (.invokevirtual 57, 3) := by decide +kernel
theorem dX5_special_11 : decode cX5_special 11 = .ok (.astore 4, 2) := by decide +kernel
theorem dX5_special_13 : decode cX5_special 13 = .ok (.iload_n 1, 1) := by decide +kernel
theorem dX5_special_14 : decode cX5_special 14 = .ok (.iload_n 2, 1) := by decide +kernel
theorem dX5_special_15 : decode cX5_special 15 = .ok (.if_icmp .ne 13, 3) := by decide +kernel
theorem dX5_special_18 : decode cX5_special 18 = .ok (.new 61, 3) := by decide +kernel
theorem dX5_special_21 : decode cX5_special 21 = .ok (.dup, 1) := by decide +kernel
theorem dX5_special_22 : decode cX5_special 22 = .ok (.ldc 63, 2) := by decide +kernel
theorem dX5_special_24 : decode cX5_special 24 = .ok (.invokespecial 65, 3) := by decide +kernel
theorem dX5_special_27 : decode cX5_special 27 = .ok (.athrow, 1) := by decide +kernel
theorem dX5_special_28 : decode cX5_special 28 = .ok (.aload_n 0, 1) := by decide +kernel
theorem dX5_special_29 : decode cX5_special 29 = .ok (.aload_n 3, 1) := by decide +kernel
theorem dX5_special_30 : decode cX5_special 30 = .ok (.invokevirtual 66, 3) := by decide +kernel
theorem dX5_special_33 : decode cX5_special 33 = .ok (.iload_n 2, 1) := by decide +kernel
theorem dX5_special_34 : decode cX5_special 34 = .ok (.invokestatic 70, 3) := by decide +kernel
theorem dX5_special_37 : decode cX5_special 37 = .ok (.ifCond .eq 13, 3) := by decide +kernel
theorem dX5_special_40 : decode cX5_special 40 = .ok (.new 47, 3) := by decide +kernel
theorem dX5_special_43 : decode cX5_special 43 = .ok (.dup, 1) := by decide +kernel
theorem dX5_special_44 : decode cX5_special 44 = .ok (.ldc 74, 2) := by decide +kernel
theorem dX5_special_46 : decode cX5_special 46 = .ok (.invokespecial 51, 3) := by decide +kernel
theorem dX5_special_49 : decode cX5_special 49 = .ok (.athrow, 1) := by decide +kernel
theorem dX5_special_50 : decode cX5_special 50 = .ok (.aload 4, 2) := by decide +kernel
theorem dX5_special_52 : decode cX5_special 52 = .ok (.getfield 76, 3) := by decide +kernel
theorem dX5_special_55 : decode cX5_special 55 = .ok (.iload_n 1, 1) := by decide +kernel
theorem dX5_special_56 : decode cX5_special 56 = .ok (.invokestatic 70, 3) := by decide +kernel
theorem dX5_special_59 : decode cX5_special 59 = .ok (.ifCond .ne 7, 3) := by decide +kernel
theorem dX5_special_62 : decode cX5_special 62 = .ok (.iconst 1, 1) := by decide +kernel
theorem dX5_special_63 : decode cX5_special 63 = .ok (.goto 4, 3) := by decide +kernel
theorem dX5_special_66 : decode cX5_special 66 = .ok (.iconst 0, 1) := by decide +kernel
theorem dX5_special_67 : decode cX5_special 67 = .ok (.istore 5, 2) := by decide +kernel
theorem dX5_special_69 : decode cX5_special 69 = .ok (.aload 4, 2) := by decide +kernel
theorem dX5_special_71 : decode cX5_special 71 = .ok (.dup, 1) := by decide +kernel
theorem dX5_special_72 : decode cX5_special 72 = .ok (.getfield 76, 3) := by decide +kernel
theorem dX5_special_75 : decode cX5_special 75 = .ok (.iconst 1, 1) := by decide +kernel
theorem dX5_special_76 : decode cX5_special 76 = .ok (.iload_n 1, 1) := by decide +kernel
theorem dX5_special_77 : decode cX5_special 77 = .ok (.ishl, 1) := by decide +kernel
theorem dX5_special_78 : decode cX5_special 78 = .ok (.ior, 1) := by decide +kernel
theorem dX5_special_79 : decode cX5_special 79 = .ok (.putfield 76, 3) := by decide +kernel
theorem dX5_special_82 : decode cX5_special 82 = .ok (.iload 5, 2) := by decide +kernel
theorem dX5_special_84 : decode cX5_special 84 = .ok (.ireturn, 1) := by decide +kernel
theorem dX5_standard_0 : decode cX5_standard 0 = .ok (.iload_n 1, 1) := by decide +kernel
theorem dX5_standard_1 : decode cX5_standard 1 = .ok (.iconst 1, 1) := by decide +kernel
theorem dX5_standard_2 : decode cX5_standard 2 = .ok (.sipush 255, 3) := by decide +kernel
theorem dX5_standard_5 : decode cX5_standard 5 = .ok (.invokestatic 39, 3) := by decide +kernel
theorem dX5_standard_8 : decode cX5_standard 8 = .ok (.iload_n 2, 1) := by decide +kernel
theorem dX5_standard_9 : decode cX5_standard 9 = .ok (.iconst 0, 1) := by decide +kernel
theorem dX5_standard_10 : decode cX5_standard 10 = .ok (.sipush 5000, 3) := by decide +kernel
theorem dX5_standard_13 : decode cX5_standard 13 = .ok (.invokestatic 39, 3) := by decide +kernel
theorem dX5_standard_16 : decode cX5_standard 16 = .ok (.aload_n 0, 1) := by decide +kernel
theorem dX5_standard_17 : decode cX5_standard 17 = .ok (.getfield 79, 3) := by decide +kernel
theorem dX5_standard_20 : decode cX5_standard 20 = .ok (.ifCond .lt 15, 3) := by decide +kernel
theorem dX5_standard_23 : decode cX5_standard 23 = .ok (.aload_n 0, 1) := by decide +kernel
theorem dX5_standard_24 : decode cX5_standard 24 = .ok (.getfield 79, 3) := by decide +kernel
theorem dX5_standard_27 : decode cX5_standard 27 = .ok (.aload_n 0, 1) := by decide +kernel
theorem dX5_standard_28 : decode cX5_standard 28 = .ok (.getfield 17, 3) := by decide +kernel
theorem dX5_standard_31 : decode cX5_standard 31 = .ok (.arraylength, 1) := by decide +kernel
theorem dX5_standard_32 : decode cX5_standard 32 = .ok (.if_icmp .lt 13, 3) := by decide +kernel
theorem dX5_standard_35 : decode cX5_standard 35 = .ok (.new 47, 3) := by decide +kernel
theorem dX5_standard_38 : decode cX5_standard 38 = .ok (.dup, 1) := by decide +kernel
theorem dX5_standard_39 : decode cX5_standard 39 = .ok (.ldc 82, 2) := by decide +kernel
theorem dX5_standard_41 : decode cX5_standard 41 = .ok (.invokespecial 51, 3) := by decide +kernel
theorem dX5_standard_44 : decode cX5_standard 44 = .ok (.athrow, 1) := by decide +kernel
theorem dX5_standard_45 : decode cX5_standard 45 = .ok (.aload_n 0, 1) := by decide +kernel
theorem dX5_standard_46 : decode cX5_standard 46 = .ok (.getfield 17, 3) := by decide +kernel
theorem dX5_standard_49 : decode cX5_standard 49 = .ok (.aload_n 0, 1) := by decide +kernel
theorem dX5_standard_50 : decode cX5_standard 50 = .ok (.getfield 79, 3) := by decide +kernel
theorem dX5_standard_53 : decode cX5_standard 53 = .ok (.new 15, 3) := by decide +kernel
theorem dX5_standard_56 : decode cX5_standard 56 = .ok (.dup, 1) := by decide +kernel
theorem dX5_standard_57 : decode cX5_standard 57 = .ok (.iload_n 1, 1) := by decide +kernel
theorem dX5_standard_58 : decode cX5_standard 58 = .ok (.iload_n 2, 1) := by decide +kernel
theorem dX5_standard_59 : decode cX5_standard 59 = .ok (.invokespecial 84, 3) := by decide +kernel
theorem dX5_standard_62 : decode cX5_standard 62 = .ok (.aastore, 1) := by decide +kernel
theorem dX5_standard_63 : decode cX5_standard 63 = .ok (.aload_n 0, 1) := by decide +kernel
theorem dX5_standard_64 : decode cX5_standard 64 = .ok (.dup, 1) := by decide +kernel
theorem dX5_standard_65 : decode cX5_standard 65 = .ok (.getfield 79, 3) := by decide +kernel
theorem dX5_standard_68 : decode cX5_standard 68 = .ok (.dup_x1, 1) := by decide +kernel
theorem dX5_standard_69 : decode cX5_standard 69 = .ok (.iconst 1, 1) := by decide +kernel
theorem dX5_standard_70 : decode cX5_standard 70 = .ok (.iadd, 1) := by decide +kernel
theorem dX5_standard_71 : decode cX5_standard 71 = .ok (.putfield 79, 3) := by decide +kernel
theorem dX5_standard_74 : decode cX5_standard 74 = .ok (.ireturn, 1) := by decide +kernel
theorem dX5_withdraw_0 : decode cX5_withdraw 0 = .ok (.aload_n 0, 1) := by decide +kernel
theorem dX5_withdraw_1 : decode cX5_withdraw 1 = .ok (.iload_n 1, 1) := by decide +kernel
theorem dX5_withdraw_2 : decode cX5_withdraw 2 = .ok (.invokevirtual 87, 3) := by decide +kernel
theorem dX5_withdraw_5 : decode cX5_withdraw 5 = .ok (.astore_n 3, 1) := by decide +kernel
theorem dX5_withdraw_6 : decode cX5_withdraw 6 = .ok (.iload_n 2, 1) := by decide +kernel
theorem dX5_withdraw_7 : decode cX5_withdraw 7 = .ok (.aload_n 0, 1) := by decide +kernel
theorem dX5_withdraw_8 : decode cX5_withdraw 8 = .ok (.getfield 91, 3) := by decide +kernel
theorem dX5_withdraw_11 : decode cX5_withdraw 11 = .ok (.sipush 5000, 3) := by decide +kernel
theorem dX5_withdraw_14 : decode cX5_withdraw 14 = .ok (.invokestatic 39, 3) := by decide +kernel
theorem dX5_withdraw_17 : decode cX5_withdraw 17 = .ok (.aload_n 3, 1) := by decide +kernel
theorem dX5_withdraw_18 : decode cX5_withdraw 18 = .ok (.getfield 94, 3) := by decide +kernel
theorem dX5_withdraw_21 : decode cX5_withdraw 21 = .ok (.istore 4, 2) := by decide +kernel
theorem dX5_withdraw_23 : decode cX5_withdraw 23 = .ok (.aload_n 3, 1) := by decide +kernel
theorem dX5_withdraw_24 : decode cX5_withdraw 24 = .ok (.iload_n 2, 1) := by decide +kernel
theorem dX5_withdraw_25 : decode cX5_withdraw 25 = .ok (.putfield 94, 3) := by decide +kernel
theorem dX5_withdraw_28 : decode cX5_withdraw 28 = .ok (.iload 4, 2) := by decide +kernel
theorem dX5_withdraw_30 : decode cX5_withdraw 30 = .ok (.ireturn, 1) := by decide +kernel
theorem dX5_restrict_0 : decode cX5_restrict 0 = .ok (.aload_n 0, 1) := by decide +kernel
theorem dX5_restrict_1 : decode cX5_restrict 1 = .ok (.iload_n 1, 1) := by decide +kernel
theorem dX5_restrict_2 : decode cX5_restrict 2 = .ok (.invokevirtual 87, 3) := by decide +kernel
theorem dX5_restrict_5 : decode cX5_restrict 5 = .ok (.astore_n 3, 1) := by decide +kernel
theorem dX5_restrict_6 : decode cX5_restrict 6 = .ok (.iload_n 2, 1) := by decide +kernel
theorem dX5_restrict_7 : decode cX5_restrict 7 = .ok (.iconst 1, 1) := by decide +kernel
theorem dX5_restrict_8 : decode cX5_restrict 8 = .ok (.sipush 255, 3) := by decide +kernel
theorem dX5_restrict_11 : decode cX5_restrict 11 = .ok (.invokestatic 39, 3) := by decide +kernel
theorem dX5_restrict_14 : decode cX5_restrict 14 = .ok (.aload_n 3, 1) := by decide +kernel
theorem dX5_restrict_15 : decode cX5_restrict 15 = .ok (.dup, 1) := by decide +kernel
theorem dX5_restrict_16 : decode cX5_restrict 16 = .ok (.getfield 97, 3) := by decide +kernel
theorem dX5_restrict_19 : decode cX5_restrict 19 = .ok (.iload_n 2, 1) := by decide +kernel
theorem dX5_restrict_20 : decode cX5_restrict 20 = .ok (.iconst (-1), 1) := by decide +kernel
theorem dX5_restrict_21 : decode cX5_restrict 21 = .ok (.ixor, 1) := by decide +kernel
theorem dX5_restrict_22 : decode cX5_restrict 22 = .ok (.iand, 1) := by decide +kernel
theorem dX5_restrict_23 : decode cX5_restrict 23 = .ok (.putfield 97, 3) := by decide +kernel
theorem dX5_restrict_26 : decode cX5_restrict 26 = .ok (.aload_n 3, 1) := by decide +kernel
theorem dX5_restrict_27 : decode cX5_restrict 27 = .ok (.getfield 97, 3) := by decide +kernel
theorem dX5_restrict_30 : decode cX5_restrict 30 = .ok (.ireturn, 1) := by decide +kernel
theorem dX5_product_0 : decode cX5_product 0 = .ok (.iload_n 1, 1) := by decide +kernel
theorem dX5_product_1 : decode cX5_product 1 = .ok (.iconst 1, 1) := by decide +kernel
theorem dX5_product_2 : decode cX5_product 2 = .ok (.sipush 255, 3) := by decide +kernel
theorem dX5_product_5 : decode cX5_product 5 = .ok (.invokestatic 39, 3) := by decide +kernel
theorem dX5_product_8 : decode cX5_product 8 = .ok (.aload_n 0, 1) := by decide +kernel
theorem dX5_product_9 : decode cX5_product 9 = .ok (.getfield 100, 3) := by decide +kernel
theorem dX5_product_12 : decode cX5_product 12 = .ok (.ifCond .lt 15, 3) := by decide +kernel
theorem dX5_product_15 : decode cX5_product 15 = .ok (.aload_n 0, 1) := by decide +kernel
theorem dX5_product_16 : decode cX5_product 16 = .ok (.getfield 100, 3) := by decide +kernel
theorem dX5_product_19 : decode cX5_product 19 = .ok (.aload_n 0, 1) := by decide +kernel
theorem dX5_product_20 : decode cX5_product 20 = .ok (.getfield 23, 3) := by decide +kernel
theorem dX5_product_23 : decode cX5_product 23 = .ok (.arraylength, 1) := by decide +kernel
theorem dX5_product_24 : decode cX5_product 24 = .ok (.if_icmp .lt 13, 3) := by decide +kernel
theorem dX5_product_27 : decode cX5_product 27 = .ok (.new 47, 3) := by decide +kernel
theorem dX5_product_30 : decode cX5_product 30 = .ok (.dup, 1) := by decide +kernel
theorem dX5_product_31 : decode cX5_product 31 = .ok (.ldc 103, 2) := by decide +kernel
theorem dX5_product_33 : decode cX5_product 33 = .ok (.invokespecial 51, 3) := by decide +kernel
theorem dX5_product_36 : decode cX5_product 36 = .ok (.athrow, 1) := by decide +kernel
theorem dX5_product_37 : decode cX5_product 37 = .ok (.aload_n 0, 1) := by decide +kernel
theorem dX5_product_38 : decode cX5_product 38 = .ok (.getfield 23, 3) := by decide +kernel
theorem dX5_product_41 : decode cX5_product 41 = .ok (.aload_n 0, 1) := by decide +kernel
theorem dX5_product_42 : decode cX5_product 42 = .ok (.getfield 100, 3) := by decide +kernel
theorem dX5_product_45 : decode cX5_product 45 = .ok (.new 21, 3) := by decide +kernel
theorem dX5_product_48 : decode cX5_product 48 = .ok (.dup, 1) := by decide +kernel
theorem dX5_product_49 : decode cX5_product 49 = .ok (.iload_n 1, 1) := by decide +kernel
theorem dX5_product_50 : decode cX5_product 50 = .ok (.invokespecial 105, 3) := by decide +kernel
theorem dX5_product_53 : decode cX5_product 53 = .ok (.aastore, 1) := by decide +kernel
theorem dX5_product_54 : decode cX5_product 54 = .ok (.aload_n 0, 1) := by decide +kernel
theorem dX5_product_55 : decode cX5_product 55 = .ok (.dup, 1) := by decide +kernel
theorem dX5_product_56 : decode cX5_product 56 = .ok (.getfield 100, 3) := by decide +kernel
theorem dX5_product_59 : decode cX5_product 59 = .ok (.dup_x1, 1) := by decide +kernel
theorem dX5_product_60 : decode cX5_product 60 = .ok (.iconst 1, 1) := by decide +kernel
theorem dX5_product_61 : decode cX5_product 61 = .ok (.iadd, 1) := by decide +kernel
theorem dX5_product_62 : decode cX5_product 62 = .ok (.putfield 100, 3) := by decide +kernel
theorem dX5_product_65 : decode cX5_product 65 = .ok (.ireturn, 1) := by decide +kernel
theorem dX5_change_0 : decode cX5_change 0 = .ok (.aload_n 0, 1) := by decide +kernel
theorem dX5_change_1 : decode cX5_change 1 = .ok (.iload_n 1, 1) := by decide +kernel
theorem dX5_change_2 : decode cX5_change 2 = .ok (.invokevirtual 108, 3) := by decide +kernel
theorem dX5_change_5 : decode cX5_change 5 = .ok (.astore_n 3, 1) := by decide +kernel
theorem dX5_change_6 : decode cX5_change 6 = .ok (.iload_n 2, 1) := by decide +kernel
theorem dX5_change_7 : decode cX5_change 7 = .ok (.iconst 1, 1) := by decide +kernel
theorem dX5_change_8 : decode cX5_change 8 = .ok (.sipush 255, 3) := by decide +kernel
theorem dX5_change_11 : decode cX5_change 11 = .ok (.invokestatic 39, 3) := by decide +kernel
theorem dX5_change_14 : decode cX5_change 14 = .ok (.aload_n 3, 1) := by decide +kernel
theorem dX5_change_15 : decode cX5_change 15 = .ok (.getfield 112, 3) := by decide +kernel
theorem dX5_change_18 : decode cX5_change 18 = .ok (.iload_n 2, 1) := by decide +kernel
theorem dX5_change_19 : decode cX5_change 19 = .ok (.if_icmp .eq 12, 3) := by decide +kernel
theorem dX5_change_22 : decode cX5_change 22 = .ok (.aload_n 3, 1) := by decide +kernel
theorem dX5_change_23 : decode cX5_change 23 = .ok (.iload_n 2, 1) := by decide +kernel
theorem dX5_change_24 : decode cX5_change 24 = .ok (.putfield 112, 3) := by decide +kernel
theorem dX5_change_27 : decode cX5_change 27 = .ok (.aload_n 3, 1) := by decide +kernel
theorem dX5_change_28 : decode cX5_change 28 = .ok (.invokevirtual 115, 3) := by decide +kernel
theorem dX5_change_31 : decode cX5_change 31 = .ok (.aload_n 3, 1) := by decide +kernel
theorem dX5_change_32 : decode cX5_change 32 = .ok (.getfield 118, 3) := by decide +kernel
theorem dX5_change_35 : decode cX5_change 35 = .ok (.ireturn, 1) := by decide +kernel
theorem dX5_risk_0 : decode cX5_risk 0 = .ok (.aload_n 0, 1) := by decide +kernel
theorem dX5_risk_1 : decode cX5_risk 1 = .ok (.iload_n 1, 1) := by decide +kernel
theorem dX5_risk_2 : decode cX5_risk 2 = .ok (.invokevirtual 108, 3) := by decide +kernel
theorem dX5_risk_5 : decode cX5_risk 5 = .ok (.astore 5, 2) := by decide +kernel
theorem dX5_risk_7 : decode cX5_risk 7 = .ok (.iload_n 2, 1) := by decide +kernel
theorem dX5_risk_8 : decode cX5_risk 8 = .ok (.invokestatic 121, 3) := by decide +kernel
theorem dX5_risk_11 : decode cX5_risk 11 = .ok (.iload_n 3, 1) := by decide +kernel
theorem dX5_risk_12 : decode cX5_risk 12 = .ok (.iconst 0, 1) := by decide +kernel
theorem dX5_risk_13 : decode cX5_risk 13 = .ok (.bipush 9, 2) := by decide +kernel
theorem dX5_risk_15 : decode cX5_risk 15 = .ok (.invokestatic 39, 3) := by decide +kernel
theorem dX5_risk_18 : decode cX5_risk 18 = .ok (.iload 4, 2) := by decide +kernel
theorem dX5_risk_20 : decode cX5_risk 20 = .ok (.iconst 0, 1) := by decide +kernel
theorem dX5_risk_21 : decode cX5_risk 21 = .ok (.iload_n 3, 1) := by decide +kernel
theorem dX5_risk_22 : decode cX5_risk 22 = .ok (.invokestatic 39, 3) := by decide +kernel
theorem dX5_risk_25 : decode cX5_risk 25 = .ok (.iload_n 3, 1) := by decide +kernel
theorem dX5_risk_26 : decode cX5_risk 26 = .ok (.aload 5, 2) := by decide +kernel
theorem dX5_risk_28 : decode cX5_risk 28 = .ok (.getfield 124, 3) := by decide +kernel
theorem dX5_risk_31 : decode cX5_risk 31 = .ok (.iload_n 2, 1) := by decide +kernel
theorem dX5_risk_32 : decode cX5_risk 32 = .ok (.iaload, 1) := by decide +kernel
theorem dX5_risk_33 : decode cX5_risk 33 = .ok (.if_icmp .gt 15, 3) := by decide +kernel
theorem dX5_risk_36 : decode cX5_risk 36 = .ok (.iload 4, 2) := by decide +kernel
theorem dX5_risk_38 : decode cX5_risk 38 = .ok (.aload 5, 2) := by decide +kernel
theorem dX5_risk_40 : decode cX5_risk 40 = .ok (.getfield 128, 3) := by decide +kernel
theorem dX5_risk_43 : decode cX5_risk 43 = .ok (.iload_n 2, 1) := by decide +kernel
theorem dX5_risk_44 : decode cX5_risk 44 = .ok (.iaload, 1) := by decide +kernel
theorem dX5_risk_45 : decode cX5_risk 45 = .ok (.if_icmp .le 7, 3) := by decide +kernel
theorem dX5_risk_48 : decode cX5_risk 48 = .ok (.iconst 1, 1) := by decide +kernel
theorem dX5_risk_49 : decode cX5_risk 49 = .ok (.goto 4, 3) := by decide +kernel
theorem dX5_risk_52 : decode cX5_risk 52 = .ok (.iconst 0, 1) := by decide +kernel
theorem dX5_risk_53 : decode cX5_risk 53 = .ok (.istore 6, 2) := by decide +kernel
theorem dX5_risk_55 : decode cX5_risk 55 = .ok (.aload 5, 2) := by decide +kernel
theorem dX5_risk_57 : decode cX5_risk 57 = .ok (.getfield 124, 3) := by decide +kernel
theorem dX5_risk_60 : decode cX5_risk 60 = .ok (.iload_n 2, 1) := by decide +kernel
theorem dX5_risk_61 : decode cX5_risk 61 = .ok (.iload_n 3, 1) := by decide +kernel
theorem dX5_risk_62 : decode cX5_risk 62 = .ok (.iastore, 1) := by decide +kernel
theorem dX5_risk_63 : decode cX5_risk 63 = .ok (.aload 5, 2) := by decide +kernel
theorem dX5_risk_65 : decode cX5_risk 65 = .ok (.getfield 128, 3) := by decide +kernel
theorem dX5_risk_68 : decode cX5_risk 68 = .ok (.iload_n 2, 1) := by decide +kernel
theorem dX5_risk_69 : decode cX5_risk 69 = .ok (.iload 4, 2) := by decide +kernel
theorem dX5_risk_71 : decode cX5_risk 71 = .ok (.iastore, 1) := by decide +kernel
theorem dX5_risk_72 : decode cX5_risk 72 = .ok (.iload 6, 2) := by decide +kernel
theorem dX5_risk_74 : decode cX5_risk 74 = .ok (.ifCond .eq 8, 3) := by decide +kernel
theorem dX5_risk_77 : decode cX5_risk 77 = .ok (.aload 5, 2) := by decide +kernel
theorem dX5_risk_79 : decode cX5_risk 79 = .ok (.invokevirtual 115, 3) := by decide +kernel
theorem dX5_risk_82 : decode cX5_risk 82 = .ok (.aload 5, 2) := by decide +kernel
theorem dX5_risk_84 : decode cX5_risk 84 = .ok (.getfield 118, 3) := by decide +kernel
theorem dX5_risk_87 : decode cX5_risk 87 = .ok (.ireturn, 1) := by decide +kernel
theorem dX5_follow_0 : decode cX5_follow 0 = .ok (.aload_n 0, 1) := by decide +kernel
theorem dX5_follow_1 : decode cX5_follow 1 = .ok (.iload_n 1, 1) := by decide +kernel
theorem dX5_follow_2 : decode cX5_follow 2 = .ok (.invokevirtual 108, 3) := by decide +kernel
theorem dX5_follow_5 : decode cX5_follow 5 = .ok (.astore 4, 2) := by decide +kernel
theorem dX5_follow_7 : decode cX5_follow 7 = .ok (.aload_n 0, 1) := by decide +kernel
theorem dX5_follow_8 : decode cX5_follow 8 = .ok (.iload_n 2, 1) := by decide +kernel
theorem dX5_follow_9 : decode cX5_follow 9 = .ok (.invokevirtual 87, 3) := by decide +kernel
theorem dX5_follow_12 : decode cX5_follow 12 = .ok (.pop, 1) := by decide +kernel
theorem dX5_follow_13 : decode cX5_follow 13 = .ok (.iload_n 3, 1) := by decide +kernel
theorem dX5_follow_14 : decode cX5_follow 14 = .ok (.iconst 0, 1) := by decide +kernel
theorem dX5_follow_15 : decode cX5_follow 15 = .ok (.sipush 255, 3) := by decide +kernel
theorem dX5_follow_18 : decode cX5_follow 18 = .ok (.invokestatic 39, 3) := by decide +kernel
theorem dX5_follow_21 : decode cX5_follow 21 = .ok (.aload 4, 2) := by decide +kernel
theorem dX5_follow_23 : decode cX5_follow 23 = .ok (.getfield 131, 3) := by decide +kernel
theorem dX5_follow_26 : decode cX5_follow 26 = .ok (.iload_n 2, 1) := by decide +kernel
theorem dX5_follow_27 : decode cX5_follow 27 = .ok (.iaload, 1) := by decide +kernel
theorem dX5_follow_28 : decode cX5_follow 28 = .ok (.istore 5, 2) := by decide +kernel
theorem dX5_follow_30 : decode cX5_follow 30 = .ok (.aload 4, 2) := by decide +kernel
theorem dX5_follow_32 : decode cX5_follow 32 = .ok (.getfield 131, 3) := by decide +kernel
theorem dX5_follow_35 : decode cX5_follow 35 = .ok (.iload_n 2, 1) := by decide +kernel
theorem dX5_follow_36 : decode cX5_follow 36 = .ok (.iload_n 3, 1) := by decide +kernel
theorem dX5_follow_37 : decode cX5_follow 37 = .ok (.iastore, 1) := by decide +kernel
theorem dX5_follow_38 : decode cX5_follow 38 = .ok (.iload 5, 2) := by decide +kernel
theorem dX5_follow_40 : decode cX5_follow 40 = .ok (.ireturn, 1) := by decide +kernel
theorem dX5_prove_0 : decode cX5_prove 0 = .ok (.aload_n 0, 1) := by decide +kernel
theorem dX5_prove_1 : decode cX5_prove 1 = .ok (.iload_n 1, 1) := by decide +kernel
theorem dX5_prove_2 : decode cX5_prove 2 = .ok (.invokevirtual 108, 3) := by decide +kernel
theorem dX5_prove_5 : decode cX5_prove 5 = .ok (.astore_n 3, 1) := by decide +kernel
theorem dX5_prove_6 : decode cX5_prove 6 = .ok (.iload_n 2, 1) := by decide +kernel
theorem dX5_prove_7 : decode cX5_prove 7 = .ok (.iconst 1, 1) := by decide +kernel
theorem dX5_prove_8 : decode cX5_prove 8 = .ok (.sipush 255, 3) := by decide +kernel
theorem dX5_prove_11 : decode cX5_prove 11 = .ok (.invokestatic 39, 3) := by decide +kernel
theorem dX5_prove_14 : decode cX5_prove 14 = .ok (.aload_n 3, 1) := by decide +kernel
theorem dX5_prove_15 : decode cX5_prove 15 = .ok (.dup, 1) := by decide +kernel
theorem dX5_prove_16 : decode cX5_prove 16 = .ok (.getfield 134, 3) := by decide +kernel
theorem dX5_prove_19 : decode cX5_prove 19 = .ok (.iload_n 2, 1) := by decide +kernel
theorem dX5_prove_20 : decode cX5_prove 20 = .ok (.ior, 1) := by decide +kernel
theorem dX5_prove_21 : decode cX5_prove 21 = .ok (.putfield 134, 3) := by decide +kernel
theorem dX5_prove_24 : decode cX5_prove 24 = .ok (.aload_n 3, 1) := by decide +kernel
theorem dX5_prove_25 : decode cX5_prove 25 = .ok (.getfield 134, 3) := by decide +kernel
theorem dX5_prove_28 : decode cX5_prove 28 = .ok (.ireturn, 1) := by decide +kernel
theorem dX5_declare_0 : decode cX5_declare 0 = .ok (.aload_n 0, 1) := by decide +kernel
theorem dX5_declare_1 : decode cX5_declare 1 = .ok (.iload_n 1, 1) := by decide +kernel
theorem dX5_declare_2 : decode cX5_declare 2 = .ok (.invokevirtual 108, 3) := by decide +kernel
theorem dX5_declare_5 : decode cX5_declare 5 = .ok (.astore_n 2, 1) := by decide +kernel
theorem dX5_declare_6 : decode cX5_declare 6 = .ok (.aload_n 0, 1) := by decide +kernel
theorem dX5_declare_7 : decode cX5_declare 7 = .ok (.aload_n 2, 1) := by decide +kernel
theorem dX5_declare_8 : decode cX5_declare 8 = .ok (.invokevirtual 137, 3) := by decide +kernel
theorem dX5_declare_11 : decode cX5_declare 11 = .ok (.istore_n 3, 1) := by decide +kernel
theorem dX5_declare_12 : decode cX5_declare 12 = .ok (.iload_n 3, 1) := by decide +kernel
theorem dX5_declare_13 : decode cX5_declare 13 = .ok (.ifCond .eq 19, 3) := by decide +kernel
theorem dX5_declare_16 : decode cX5_declare 16 = .ok (.iload_n 3, 1) := by decide +kernel
theorem dX5_declare_17 : decode cX5_declare 17 = .ok (.bipush 6, 2) := by decide +kernel
theorem dX5_declare_19 : decode cX5_declare 19 = .ok (.if_icmp .eq 13, 3) := by decide +kernel
theorem dX5_declare_22 : decode cX5_declare 22 = .ok (.new 47, 3) := by decide +kernel
theorem dX5_declare_25 : decode cX5_declare 25 = .ok (.dup, 1) := by decide +kernel
theorem dX5_declare_26 : decode cX5_declare 26 = .ok (.ldc 141, 2) := by decide +kernel
theorem dX5_declare_28 : decode cX5_declare 28 = .ok (.invokespecial 51, 3) := by decide +kernel
theorem dX5_declare_31 : decode cX5_declare 31 = .ok (.athrow, 1) := by decide +kernel
theorem dX5_declare_32 : decode cX5_declare 32 = .ok (.aload_n 2, 1) := by decide +kernel
theorem dX5_declare_33 : decode cX5_declare 33 = .ok (.aload_n 0, 1) := by decide +kernel
theorem dX5_declare_34 : decode cX5_declare 34 = .ok (.getfield 91, 3) := by decide +kernel
theorem dX5_declare_37 : decode cX5_declare 37 = .ok (.putfield 143, 3) := by decide +kernel
theorem dX5_declare_40 : decode cX5_declare 40 = .ok (.aload_n 0, 1) := by decide +kernel
theorem dX5_declare_41 : decode cX5_declare 41 = .ok (.getfield 91, 3) := by decide +kernel
theorem dX5_declare_44 : decode cX5_declare 44 = .ok (.ireturn, 1) := by decide +kernel
theorem dX5_body_0 : decode cX5_body 0 = .ok (.iload_n 1, 1) := by decide +kernel
theorem dX5_body_1 : decode cX5_body 1 = .ok (.iconst 1, 1) := by decide +kernel
theorem dX5_body_2 : decode cX5_body 2 = .ok (.bipush 63, 2) := by decide +kernel
theorem dX5_body_4 : decode cX5_body 4 = .ok (.invokestatic 39, 3) := by decide +kernel
theorem dX5_body_7 : decode cX5_body 7 = .ok (.aload_n 0, 1) := by decide +kernel
theorem dX5_body_8 : decode cX5_body 8 = .ok (.getfield 146, 3) := by decide +kernel
theorem dX5_body_11 : decode cX5_body 11 = .ok (.ifCond .lt 15, 3) := by decide +kernel
theorem dX5_body_14 : decode cX5_body 14 = .ok (.aload_n 0, 1) := by decide +kernel
theorem dX5_body_15 : decode cX5_body 15 = .ok (.getfield 146, 3) := by decide +kernel
theorem dX5_body_18 : decode cX5_body 18 = .ok (.aload_n 0, 1) := by decide +kernel
theorem dX5_body_19 : decode cX5_body 19 = .ok (.getfield 29, 3) := by decide +kernel
theorem dX5_body_22 : decode cX5_body 22 = .ok (.arraylength, 1) := by decide +kernel
theorem dX5_body_23 : decode cX5_body 23 = .ok (.if_icmp .lt 13, 3) := by decide +kernel
theorem dX5_body_26 : decode cX5_body 26 = .ok (.new 47, 3) := by decide +kernel
theorem dX5_body_29 : decode cX5_body 29 = .ok (.dup, 1) := by decide +kernel
theorem dX5_body_30 : decode cX5_body 30 = .ok (.ldc 149, 2) := by decide +kernel
theorem dX5_body_32 : decode cX5_body 32 = .ok (.invokespecial 51, 3) := by decide +kernel
theorem dX5_body_35 : decode cX5_body 35 = .ok (.athrow, 1) := by decide +kernel
theorem dX5_body_36 : decode cX5_body 36 = .ok (.aload_n 0, 1) := by decide +kernel
theorem dX5_body_37 : decode cX5_body 37 = .ok (.getfield 29, 3) := by decide +kernel
theorem dX5_body_40 : decode cX5_body 40 = .ok (.aload_n 0, 1) := by decide +kernel
theorem dX5_body_41 : decode cX5_body 41 = .ok (.getfield 146, 3) := by decide +kernel
theorem dX5_body_44 : decode cX5_body 44 = .ok (.new 27, 3) := by decide +kernel
theorem dX5_body_47 : decode cX5_body 47 = .ok (.dup, 1) := by decide +kernel
theorem dX5_body_48 : decode cX5_body 48 = .ok (.aload_n 0, 1) := by decide +kernel
theorem dX5_body_49 : decode cX5_body 49 = .ok (.getfield 146, 3) := by decide +kernel
theorem dX5_body_52 : decode cX5_body 52 = .ok (.iload_n 1, 1) := by decide +kernel
theorem dX5_body_53 : decode cX5_body 53 = .ok (.invokespecial 151, 3) := by decide +kernel
theorem dX5_body_56 : decode cX5_body 56 = .ok (.aastore, 1) := by decide +kernel
theorem dX5_body_57 : decode cX5_body 57 = .ok (.aload_n 0, 1) := by decide +kernel
theorem dX5_body_58 : decode cX5_body 58 = .ok (.dup, 1) := by decide +kernel
theorem dX5_body_59 : decode cX5_body 59 = .ok (.getfield 146, 3) := by decide +kernel
theorem dX5_body_62 : decode cX5_body 62 = .ok (.dup_x1, 1) := by decide +kernel
theorem dX5_body_63 : decode cX5_body 63 = .ok (.iconst 1, 1) := by decide +kernel
theorem dX5_body_64 : decode cX5_body 64 = .ok (.iadd, 1) := by decide +kernel
theorem dX5_body_65 : decode cX5_body 65 = .ok (.putfield 146, 3) := by decide +kernel
theorem dX5_body_68 : decode cX5_body 68 = .ok (.ireturn, 1) := by decide +kernel
theorem dX5_suspend_0 : decode cX5_suspend 0 = .ok (.aload_n 0, 1) := by decide +kernel
theorem dX5_suspend_1 : decode cX5_suspend 1 = .ok (.iload_n 1, 1) := by decide +kernel
theorem dX5_suspend_2 : decode cX5_suspend 2 = .ok (.invokevirtual 152, 3) := by decide +kernel
theorem dX5_suspend_5 : decode cX5_suspend 5 = .ok (.astore_n 3, 1) := by decide +kernel
theorem dX5_suspend_6 : decode cX5_suspend 6 = .ok (.aload_n 3, 1) := by decide +kernel
theorem dX5_suspend_7 : decode cX5_suspend 7 = .ok (.invokevirtual 156, 3) := by decide +kernel
theorem dX5_suspend_10 : decode cX5_suspend 10 = .ok (.istore 4, 2) := by decide +kernel
theorem dX5_suspend_12 : decode cX5_suspend 12 = .ok (.iload_n 2, 1) := by decide +kernel
theorem dX5_suspend_13 : decode cX5_suspend 13 = .ok (.ifCond .ne 11, 3) := by decide +kernel
theorem dX5_suspend_16 : decode cX5_suspend 16 = .ok (.aload_n 3, 1) := by decide +kernel
theorem dX5_suspend_17 : decode cX5_suspend 17 = .ok (.iconst (-1), 1) := by decide +kernel
theorem dX5_suspend_18 : decode cX5_suspend 18 = .ok (.putfield 160, 3) := by decide +kernel
theorem dX5_suspend_21 : decode cX5_suspend 21 = .ok (.goto 16, 3) := by decide +kernel
theorem dX5_suspend_24 : decode cX5_suspend 24 = .ok (.iload 4, 2) := by decide +kernel
theorem dX5_suspend_26 : decode cX5_suspend 26 = .ok (.ifCond .ne 11, 3) := by decide +kernel
theorem dX5_suspend_29 : decode cX5_suspend 29 = .ok (.aload_n 3, 1) := by decide +kernel
theorem dX5_suspend_30 : decode cX5_suspend 30 = .ok (.aload_n 0, 1) := by decide +kernel
theorem dX5_suspend_31 : decode cX5_suspend 31 = .ok (.getfield 91, 3) := by decide +kernel
theorem dX5_suspend_34 : decode cX5_suspend 34 = .ok (.putfield 160, 3) := by decide +kernel
theorem dX5_suspend_37 : decode cX5_suspend 37 = .ok (.iload 4, 2) := by decide +kernel
theorem dX5_suspend_39 : decode cX5_suspend 39 = .ok (.ireturn, 1) := by decide +kernel
theorem dX5_certify_0 : decode cX5_certify 0 = .ok (.aload_n 0, 1) := by decide +kernel
theorem dX5_certify_1 : decode cX5_certify 1 = .ok (.iload_n 1, 1) := by decide +kernel
theorem dX5_certify_2 : decode cX5_certify 2 = .ok (.invokevirtual 152, 3) := by decide +kernel
theorem dX5_certify_5 : decode cX5_certify 5 = .ok (.astore 4, 2) := by decide +kernel
theorem dX5_certify_7 : decode cX5_certify 7 = .ok (.aload_n 0, 1) := by decide +kernel
theorem dX5_certify_8 : decode cX5_certify 8 = .ok (.iload_n 2, 1) := by decide +kernel
theorem dX5_certify_9 : decode cX5_certify 9 = .ok (.invokevirtual 108, 3) := by decide +kernel
theorem dX5_certify_12 : decode cX5_certify 12 = .ok (.astore 5, 2) := by decide +kernel
theorem dX5_certify_14 : decode cX5_certify 14 = .ok (.iload_n 3, 1) := by decide +kernel
theorem dX5_certify_15 : decode cX5_certify 15 = .ok (.iconst 1, 1) := by decide +kernel
theorem dX5_certify_16 : decode cX5_certify 16 = .ok (.sipush 1000, 3) := by decide +kernel
theorem dX5_certify_19 : decode cX5_certify 19 = .ok (.invokestatic 39, 3) := by decide +kernel
theorem dX5_certify_22 : decode cX5_certify 22 = .ok (.aload_n 0, 1) := by decide +kernel
theorem dX5_certify_23 : decode cX5_certify 23 = .ok (.aload 4, 2) := by decide +kernel
theorem dX5_certify_25 : decode cX5_certify 25 = .ok (.aload 5, 2) := by decide +kernel
theorem dX5_certify_27 : decode cX5_certify 27 = .ok (.invokevirtual 163, 3) := by decide +kernel
theorem dX5_certify_30 : decode cX5_certify 30 = .ok (.aload_n 0, 1) := by decide +kernel
theorem dX5_certify_31 : decode cX5_certify 31 = .ok (.aload 5, 2) := by decide +kernel
theorem dX5_certify_33 : decode cX5_certify 33 = .ok (.invokevirtual 137, 3) := by decide +kernel
theorem dX5_certify_36 : decode cX5_certify 36 = .ok (.istore 6, 2) := by decide +kernel
theorem dX5_certify_38 : decode cX5_certify 38 = .ok (.iload 6, 2) := by decide +kernel
theorem dX5_certify_40 : decode cX5_certify 40 = .ok (.iconst 1, 1) := by decide +kernel
theorem dX5_certify_41 : decode cX5_certify 41 = .ok (.if_icmp .eq 15, 3) := by decide +kernel
theorem dX5_certify_44 : decode cX5_certify 44 = .ok (.iload 6, 2) := by decide +kernel
theorem dX5_certify_46 : decode cX5_certify 46 = .ok (.iconst 2, 1) := by decide +kernel
theorem dX5_certify_47 : decode cX5_certify 47 = .ok (.if_icmp .eq 9, 3) := by decide +kernel
theorem dX5_certify_50 : decode cX5_certify 50 = .ok (.iload 6, 2) := by decide +kernel
theorem dX5_certify_52 : decode cX5_certify 52 = .ok (.iconst 3, 1) := by decide +kernel
theorem dX5_certify_53 : decode cX5_certify 53 = .ok (.if_icmp .ne 13, 3) := by decide +kernel
theorem dX5_certify_56 : decode cX5_certify 56 = .ok (.new 47, 3) := by decide +kernel
theorem dX5_certify_59 : decode cX5_certify 59 = .ok (.dup, 1) := by decide +kernel
theorem dX5_certify_60 : decode cX5_certify 60 = .ok (.ldc 167, 2) := by decide +kernel
theorem dX5_certify_62 : decode cX5_certify 62 = .ok (.invokespecial 51, 3) := by decide +kernel
theorem dX5_certify_65 : decode cX5_certify 65 = .ok (.athrow, 1) := by decide +kernel
theorem dX5_certify_66 : decode cX5_certify 66 = .ok (.aload 5, 2) := by decide +kernel
theorem dX5_certify_68 : decode cX5_certify 68 = .ok (.aload 4, 2) := by decide +kernel
theorem dX5_certify_70 : decode cX5_certify 70 = .ok (.putfield 169, 3) := by decide +kernel
theorem dX5_certify_73 : decode cX5_certify 73 = .ok (.aload 5, 2) := by decide +kernel
theorem dX5_certify_75 : decode cX5_certify 75 = .ok (.aload_n 0, 1) := by decide +kernel
theorem dX5_certify_76 : decode cX5_certify 76 = .ok (.getfield 91, 3) := by decide +kernel
theorem dX5_certify_79 : decode cX5_certify 79 = .ok (.iload_n 3, 1) := by decide +kernel
theorem dX5_certify_80 : decode cX5_certify 80 = .ok (.iadd, 1) := by decide +kernel
theorem dX5_certify_81 : decode cX5_certify 81 = .ok (.putfield 173, 3) := by decide +kernel
theorem dX5_certify_84 : decode cX5_certify 84 = .ok (.aload 5, 2) := by decide +kernel
theorem dX5_certify_86 : decode cX5_certify 86 = .ok (.getfield 173, 3) := by decide +kernel
theorem dX5_certify_89 : decode cX5_certify 89 = .ok (.ireturn, 1) := by decide +kernel
theorem dX5_transfer_0 : decode cX5_transfer 0 = .ok (.aload_n 0, 1) := by decide +kernel
theorem dX5_transfer_1 : decode cX5_transfer 1 = .ok (.iload_n 1, 1) := by decide +kernel
theorem dX5_transfer_2 : decode cX5_transfer 2 = .ok (.invokevirtual 108, 3) := by decide +kernel
theorem dX5_transfer_5 : decode cX5_transfer 5 = .ok (.astore_n 3, 1) := by decide +kernel
theorem dX5_transfer_6 : decode cX5_transfer 6 = .ok (.aload_n 0, 1) := by decide +kernel
theorem dX5_transfer_7 : decode cX5_transfer 7 = .ok (.iload_n 2, 1) := by decide +kernel
theorem dX5_transfer_8 : decode cX5_transfer 8 = .ok (.invokevirtual 152, 3) := by decide +kernel
theorem dX5_transfer_11 : decode cX5_transfer 11 = .ok (.astore 4, 2) := by decide +kernel
theorem dX5_transfer_13 : decode cX5_transfer 13 = .ok (.aload_n 3, 1) := by decide +kernel
theorem dX5_transfer_14 : decode cX5_transfer 14 = .ok (.getfield 169, 3) := by decide +kernel
theorem dX5_transfer_17 : decode cX5_transfer 17 = .ok (.astore 5, 2) := by decide +kernel
theorem dX5_transfer_19 : decode cX5_transfer 19 = .ok (.aload 5, 2) := by decide +kernel
theorem dX5_transfer_21 : decode cX5_transfer 21 = .ok (.ifnull 10, 3) := by decide +kernel
theorem dX5_transfer_24 : decode cX5_transfer 24 = .ok (.aload 5, 2) := by decide +kernel
theorem dX5_transfer_26 : decode cX5_transfer 26 = .ok (.aload 4, 2) := by decide +kernel
theorem dX5_transfer_28 : decode cX5_transfer 28 = .ok (.if_acmp .ne 13, 3) := by decide +kernel
theorem dX5_transfer_31 : decode cX5_transfer 31 = .ok (.new 47, 3) := by decide +kernel
theorem dX5_transfer_34 : decode cX5_transfer 34 = .ok (.dup, 1) := by decide +kernel
theorem dX5_transfer_35 : decode cX5_transfer 35 = .ok (.ldc 176, 2) := by decide +kernel
theorem dX5_transfer_37 : decode cX5_transfer 37 = .ok (.invokespecial 51, 3) := by decide +kernel
theorem dX5_transfer_40 : decode cX5_transfer 40 = .ok (.athrow, 1) := by decide +kernel
theorem dX5_transfer_41 : decode cX5_transfer 41 = .ok (.aload_n 0, 1) := by decide +kernel
theorem dX5_transfer_42 : decode cX5_transfer 42 = .ok (.aload 4, 2) := by decide +kernel
theorem dX5_transfer_44 : decode cX5_transfer 44 = .ok (.aload_n 3, 1) := by decide +kernel
theorem dX5_transfer_45 : decode cX5_transfer 45 = .ok (.invokevirtual 163, 3) := by decide +kernel
theorem dX5_transfer_48 : decode cX5_transfer 48 = .ok (.aload_n 3, 1) := by decide +kernel
theorem dX5_transfer_49 : decode cX5_transfer 49 = .ok (.aload 4, 2) := by decide +kernel
theorem dX5_transfer_51 : decode cX5_transfer 51 = .ok (.putfield 169, 3) := by decide +kernel
theorem dX5_transfer_54 : decode cX5_transfer 54 = .ok (.aload 5, 2) := by decide +kernel
theorem dX5_transfer_56 : decode cX5_transfer 56 = .ok (.getfield 178, 3) := by decide +kernel
theorem dX5_transfer_59 : decode cX5_transfer 59 = .ok (.ireturn, 1) := by decide +kernel
theorem dX5_visit_0 : decode cX5_visit 0 = .ok (.aload_n 0, 1) := by decide +kernel
theorem dX5_visit_1 : decode cX5_visit 1 = .ok (.iload_n 1, 1) := by decide +kernel
theorem dX5_visit_2 : decode cX5_visit 2 = .ok (.invokevirtual 108, 3) := by decide +kernel
theorem dX5_visit_5 : decode cX5_visit 5 = .ok (.astore_n 3, 1) := by decide +kernel
theorem dX5_visit_6 : decode cX5_visit 6 = .ok (.iload_n 2, 1) := by decide +kernel
theorem dX5_visit_7 : decode cX5_visit 7 = .ok (.ifCond .eq 13, 3) := by decide +kernel
theorem dX5_visit_10 : decode cX5_visit 10 = .ok (.aload_n 3, 1) := by decide +kernel
theorem dX5_visit_11 : decode cX5_visit 11 = .ok (.aload_n 0, 1) := by decide +kernel
theorem dX5_visit_12 : decode cX5_visit 12 = .ok (.getfield 91, 3) := by decide +kernel
theorem dX5_visit_15 : decode cX5_visit 15 = .ok (.putfield 181, 3) := by decide +kernel
theorem dX5_visit_18 : decode cX5_visit 18 = .ok (.iconst 0, 1) := by decide +kernel
theorem dX5_visit_19 : decode cX5_visit 19 = .ok (.ireturn, 1) := by decide +kernel
theorem dX5_visit_20 : decode cX5_visit 20 = .ok (.aload_n 3, 1) := by decide +kernel
theorem dX5_visit_21 : decode cX5_visit 21 = .ok (.getfield 169, 3) := by decide +kernel
theorem dX5_visit_24 : decode cX5_visit 24 = .ok (.ifnull 7, 3) := by decide +kernel
theorem dX5_visit_27 : decode cX5_visit 27 = .ok (.iconst 1, 1) := by decide +kernel
theorem dX5_visit_28 : decode cX5_visit 28 = .ok (.goto 4, 3) := by decide +kernel
theorem dX5_visit_31 : decode cX5_visit 31 = .ok (.iconst 0, 1) := by decide +kernel
theorem dX5_visit_32 : decode cX5_visit 32 = .ok (.istore 4, 2) := by decide +kernel
theorem dX5_visit_34 : decode cX5_visit 34 = .ok (.aload_n 3, 1) := by decide +kernel
theorem dX5_visit_35 : decode cX5_visit 35 = .ok (.invokevirtual 184, 3) := by decide +kernel
theorem dX5_visit_38 : decode cX5_visit 38 = .ok (.iload 4, 2) := by decide +kernel
theorem dX5_visit_40 : decode cX5_visit 40 = .ok (.ireturn, 1) := by decide +kernel
theorem dX5_place_0 : decode cX5_place 0 = .ok (.aload_n 0, 1) := by decide +kernel
theorem dX5_place_1 : decode cX5_place 1 = .ok (.iload_n 1, 1) := by decide +kernel
theorem dX5_place_2 : decode cX5_place 2 = .ok (.invokevirtual 108, 3) := by decide +kernel
theorem dX5_place_5 : decode cX5_place 5 = .ok (.astore_n 3, 1) := by decide +kernel
theorem dX5_place_6 : decode cX5_place 6 = .ok (.iload_n 2, 1) := by decide +kernel
theorem dX5_place_7 : decode cX5_place 7 = .ok (.iconst 1, 1) := by decide +kernel
theorem dX5_place_8 : decode cX5_place 8 = .ok (.sipush 10000, 3) := by decide +kernel
theorem dX5_place_11 : decode cX5_place 11 = .ok (.invokestatic 39, 3) := by decide +kernel
theorem dX5_place_14 : decode cX5_place 14 = .ok (.aload_n 0, 1) := by decide +kernel
theorem dX5_place_15 : decode cX5_place 15 = .ok (.aload_n 3, 1) := by decide +kernel
theorem dX5_place_16 : decode cX5_place 16 = .ok (.invokevirtual 137, 3) := by decide +kernel
theorem dX5_place_19 : decode cX5_place 19 = .ok (.ifCond .eq 13, 3) := by decide +kernel
theorem dX5_place_22 : decode cX5_place 22 = .ok (.new 47, 3) := by decide +kernel
theorem dX5_place_25 : decode cX5_place 25 = .ok (.dup, 1) := by decide +kernel
theorem dX5_place_26 : decode cX5_place 26 = .ok (.ldc 187, 2) := by decide +kernel
theorem dX5_place_28 : decode cX5_place 28 = .ok (.invokespecial 51, 3) := by decide +kernel
theorem dX5_place_31 : decode cX5_place 31 = .ok (.athrow, 1) := by decide +kernel
theorem dX5_place_32 : decode cX5_place 32 = .ok (.aload_n 0, 1) := by decide +kernel
theorem dX5_place_33 : decode cX5_place 33 = .ok (.iload_n 1, 1) := by decide +kernel
theorem dX5_place_34 : decode cX5_place 34 = .ok (.aload_n 3, 1) := by decide +kernel
theorem dX5_place_35 : decode cX5_place 35 = .ok (.iload_n 2, 1) := by decide +kernel
theorem dX5_place_36 : decode cX5_place 36 = .ok (.invokevirtual 189, 3) := by decide +kernel
theorem dX5_place_39 : decode cX5_place 39 = .ok (.ireturn, 1) := by decide +kernel
theorem dX5_post_0 : decode cX5_post 0 = .ok (.aload_n 0, 1) := by decide +kernel
theorem dX5_post_1 : decode cX5_post 1 = .ok (.iload_n 1, 1) := by decide +kernel
theorem dX5_post_2 : decode cX5_post 2 = .ok (.invokevirtual 108, 3) := by decide +kernel
theorem dX5_post_5 : decode cX5_post 5 = .ok (.astore_n 3, 1) := by decide +kernel
theorem dX5_post_6 : decode cX5_post 6 = .ok (.iload_n 2, 1) := by decide +kernel
theorem dX5_post_7 : decode cX5_post 7 = .ok (.iconst 1, 1) := by decide +kernel
theorem dX5_post_8 : decode cX5_post 8 = .ok (.sipush 10000, 3) := by decide +kernel
theorem dX5_post_11 : decode cX5_post 11 = .ok (.invokestatic 39, 3) := by decide +kernel
theorem dX5_post_14 : decode cX5_post 14 = .ok (.aload_n 0, 1) := by decide +kernel
theorem dX5_post_15 : decode cX5_post 15 = .ok (.iload_n 1, 1) := by decide +kernel
theorem dX5_post_16 : decode cX5_post 16 = .ok (.aload_n 3, 1) := by decide +kernel
theorem dX5_post_17 : decode cX5_post 17 = .ok (.iload_n 2, 1) := by decide +kernel
theorem dX5_post_18 : decode cX5_post 18 = .ok (.invokevirtual 189, 3) := by decide +kernel
theorem dX5_post_21 : decode cX5_post 21 = .ok (.ireturn, 1) := by decide +kernel
theorem dX5_sample_0 : decode cX5_sample 0 = .ok (.aload_n 0, 1) := by decide +kernel
theorem dX5_sample_1 : decode cX5_sample 1 = .ok (.iload_n 1, 1) := by decide +kernel
theorem dX5_sample_2 : decode cX5_sample 2 = .ok (.invokevirtual 193, 3) := by decide +kernel
theorem dX5_sample_5 : decode cX5_sample 5 = .ok (.astore 5, 2) := by decide +kernel
theorem dX5_sample_7 : decode cX5_sample 7 = .ok (.iload_n 2, 1) := by decide +kernel
theorem dX5_sample_8 : decode cX5_sample 8 = .ok (.iconst 0, 1) := by decide +kernel
theorem dX5_sample_9 : decode cX5_sample 9 = .ok (.ldc 197, 2) := by decide +kernel
theorem dX5_sample_11 : decode cX5_sample 11 = .ok (.invokestatic 39, 3) := by decide +kernel
theorem dX5_sample_14 : decode cX5_sample 14 = .ok (.iload_n 3, 1) := by decide +kernel
theorem dX5_sample_15 : decode cX5_sample 15 = .ok (.iconst 0, 1) := by decide +kernel
theorem dX5_sample_16 : decode cX5_sample 16 = .ok (.ldc 197, 2) := by decide +kernel
theorem dX5_sample_18 : decode cX5_sample 18 = .ok (.invokestatic 39, 3) := by decide +kernel
theorem dX5_sample_21 : decode cX5_sample 21 = .ok (.iload 4, 2) := by decide +kernel
theorem dX5_sample_23 : decode cX5_sample 23 = .ok (.iconst 0, 1) := by decide +kernel
theorem dX5_sample_24 : decode cX5_sample 24 = .ok (.sipush 10000, 3) := by decide +kernel
theorem dX5_sample_27 : decode cX5_sample 27 = .ok (.invokestatic 39, 3) := by decide +kernel
theorem dX5_sample_30 : decode cX5_sample 30 = .ok (.iload_n 2, 1) := by decide +kernel
theorem dX5_sample_31 : decode cX5_sample 31 = .ok (.iload 4, 2) := by decide +kernel
theorem dX5_sample_33 : decode cX5_sample 33 = .ok (.isub, 1) := by decide +kernel
theorem dX5_sample_34 : decode cX5_sample 34 = .ok (.iload_n 3, 1) := by decide +kernel
theorem dX5_sample_35 : decode cX5_sample 35 = .ok (.if_icmp .le 12, 3) := by decide +kernel
theorem dX5_sample_38 : decode cX5_sample 38 = .ok (.aload 5, 2) := by decide +kernel
theorem dX5_sample_40 : decode cX5_sample 40 = .ok (.iconst 2, 1) := by decide +kernel
theorem dX5_sample_41 : decode cX5_sample 41 = .ok (.putfield 198, 3) := by decide +kernel
theorem dX5_sample_44 : decode cX5_sample 44 = .ok (.goto 26, 3) := by decide +kernel
theorem dX5_sample_47 : decode cX5_sample 47 = .ok (.iload_n 2, 1) := by decide +kernel
theorem dX5_sample_48 : decode cX5_sample 48 = .ok (.iload 4, 2) := by decide +kernel
theorem dX5_sample_50 : decode cX5_sample 50 = .ok (.iadd, 1) := by decide +kernel
theorem dX5_sample_51 : decode cX5_sample 51 = .ok (.iload_n 3, 1) := by decide +kernel
theorem dX5_sample_52 : decode cX5_sample 52 = .ok (.if_icmp .gt 12, 3) := by decide +kernel
theorem dX5_sample_55 : decode cX5_sample 55 = .ok (.aload 5, 2) := by decide +kernel
theorem dX5_sample_57 : decode cX5_sample 57 = .ok (.iconst 0, 1) := by decide +kernel
theorem dX5_sample_58 : decode cX5_sample 58 = .ok (.putfield 198, 3) := by decide +kernel
theorem dX5_sample_61 : decode cX5_sample 61 = .ok (.goto 9, 3) := by decide +kernel
theorem dX5_sample_64 : decode cX5_sample 64 = .ok (.aload 5, 2) := by decide +kernel
theorem dX5_sample_66 : decode cX5_sample 66 = .ok (.iconst 1, 1) := by decide +kernel
theorem dX5_sample_67 : decode cX5_sample 67 = .ok (.putfield 198, 3) := by decide +kernel
theorem dX5_sample_70 : decode cX5_sample 70 = .ok (.aload 5, 2) := by decide +kernel
theorem dX5_sample_72 : decode cX5_sample 72 = .ok (.getfield 198, 3) := by decide +kernel
theorem dX5_sample_75 : decode cX5_sample 75 = .ok (.ireturn, 1) := by decide +kernel
theorem dX5_event_0 : decode cX5_event 0 = .ok (.aload_n 0, 1) := by decide +kernel
theorem dX5_event_1 : decode cX5_event 1 = .ok (.iload_n 1, 1) := by decide +kernel
theorem dX5_event_2 : decode cX5_event 2 = .ok (.invokevirtual 193, 3) := by decide +kernel
theorem dX5_event_5 : decode cX5_event 5 = .ok (.astore 4, 2) := by decide +kernel
theorem dX5_event_7 : decode cX5_event 7 = .ok (.iload_n 2, 1) := by decide +kernel
theorem dX5_event_8 : decode cX5_event 8 = .ok (.iconst 0, 1) := by decide +kernel
theorem dX5_event_9 : decode cX5_event 9 = .ok (.iconst 3, 1) := by decide +kernel
theorem dX5_event_10 : decode cX5_event 10 = .ok (.invokestatic 39, 3) := by decide +kernel
theorem dX5_event_13 : decode cX5_event 13 = .ok (.iload_n 3, 1) := by decide +kernel
theorem dX5_event_14 : decode cX5_event 14 = .ok (.iconst 1, 1) := by decide +kernel
theorem dX5_event_15 : decode cX5_event 15 = .ok (.sipush 1000, 3) := by decide +kernel
theorem dX5_event_18 : decode cX5_event 18 = .ok (.invokestatic 39, 3) := by decide +kernel
theorem dX5_event_21 : decode cX5_event 21 = .ok (.aload 4, 2) := by decide +kernel
theorem dX5_event_23 : decode cX5_event 23 = .ok (.aload 4, 2) := by decide +kernel
theorem dX5_event_25 : decode cX5_event 25 = .ok (.getfield 201, 3) := by decide +kernel
theorem dX5_event_28 : decode cX5_event 28 = .ok (.iload_n 2, 1) := by decide +kernel
theorem dX5_event_29 : decode cX5_event 29 = .ok (.invokestatic 204, 3) := by decide +kernel
theorem dX5_event_32 : decode cX5_event 32 = .ok (.putfield 201, 3) := by decide +kernel
theorem dX5_event_35 : decode cX5_event 35 = .ok (.aload 4, 2) := by decide +kernel
theorem dX5_event_37 : decode cX5_event 37 = .ok (.dup, 1) := by decide +kernel
theorem dX5_event_38 : decode cX5_event 38 = .ok (.getfield 210, 3) := by decide +kernel
theorem dX5_event_41 : decode cX5_event 41 = .ok (.iload_n 3, 1) := by decide +kernel
theorem dX5_event_42 : decode cX5_event 42 = .ok (.iadd, 1) := by decide +kernel
theorem dX5_event_43 : decode cX5_event 43 = .ok (.putfield 210, 3) := by decide +kernel
theorem dX5_event_46 : decode cX5_event 46 = .ok (.aload 4, 2) := by decide +kernel
theorem dX5_event_48 : decode cX5_event 48 = .ok (.invokevirtual 213, 3) := by decide +kernel
theorem dX5_event_51 : decode cX5_event 51 = .ok (.ireturn, 1) := by decide +kernel
theorem dX5_recall_0 : decode cX5_recall 0 = .ok (.aload_n 0, 1) := by decide +kernel
theorem dX5_recall_1 : decode cX5_recall 1 = .ok (.iload_n 1, 1) := by decide +kernel
theorem dX5_recall_2 : decode cX5_recall 2 = .ok (.invokevirtual 108, 3) := by decide +kernel
theorem dX5_recall_5 : decode cX5_recall 5 = .ok (.pop, 1) := by decide +kernel
theorem dX5_recall_6 : decode cX5_recall 6 = .ok (.aload_n 0, 1) := by decide +kernel
theorem dX5_recall_7 : decode cX5_recall 7 = .ok (.iload_n 2, 1) := by decide +kernel
theorem dX5_recall_8 : decode cX5_recall 8 = .ok (.invokevirtual 193, 3) := by decide +kernel
theorem dX5_recall_11 : decode cX5_recall 11 = .ok (.pop, 1) := by decide +kernel
theorem dX5_recall_12 : decode cX5_recall 12 = .ok (.aload_n 0, 1) := by decide +kernel
theorem dX5_recall_13 : decode cX5_recall 13 = .ok (.iload_n 3, 1) := by decide +kernel
theorem dX5_recall_14 : decode cX5_recall 14 = .ok (.invokevirtual 193, 3) := by decide +kernel
theorem dX5_recall_17 : decode cX5_recall 17 = .ok (.pop, 1) := by decide +kernel
theorem dX5_recall_18 : decode cX5_recall 18 = .ok (.iload_n 3, 1) := by decide +kernel
theorem dX5_recall_19 : decode cX5_recall 19 = .ok (.iload_n 2, 1) := by decide +kernel
theorem dX5_recall_20 : decode cX5_recall 20 = .ok (.if_icmp .ge 13, 3) := by decide +kernel
theorem dX5_recall_23 : decode cX5_recall 23 = .ok (.new 61, 3) := by decide +kernel
theorem dX5_recall_26 : decode cX5_recall 26 = .ok (.dup, 1) := by decide +kernel
theorem dX5_recall_27 : decode cX5_recall 27 = .ok (.ldc 217, 2) := by decide +kernel
theorem dX5_recall_29 : decode cX5_recall 29 = .ok (.invokespecial 65, 3) := by decide +kernel
theorem dX5_recall_32 : decode cX5_recall 32 = .ok (.athrow, 1) := by decide +kernel
theorem dX5_recall_33 : decode cX5_recall 33 = .ok (.iconst 0, 1) := by decide +kernel
theorem dX5_recall_34 : decode cX5_recall 34 = .ok (.istore 4, 2) := by decide +kernel
theorem dX5_recall_36 : decode cX5_recall 36 = .ok (.iload_n 2, 1) := by decide +kernel
theorem dX5_recall_37 : decode cX5_recall 37 = .ok (.istore 5, 2) := by decide +kernel
theorem dX5_recall_39 : decode cX5_recall 39 = .ok (.iload 5, 2) := by decide +kernel
theorem dX5_recall_41 : decode cX5_recall 41 = .ok (.iload_n 3, 1) := by decide +kernel
theorem dX5_recall_42 : decode cX5_recall 42 = .ok (.if_icmp .gt 42, 3) := by decide +kernel
theorem dX5_recall_45 : decode cX5_recall 45 = .ok (.aload_n 0, 1) := by decide +kernel
theorem dX5_recall_46 : decode cX5_recall 46 = .ok (.iload 5, 2) := by decide +kernel
theorem dX5_recall_48 : decode cX5_recall 48 = .ok (.invokevirtual 193, 3) := by decide +kernel
theorem dX5_recall_51 : decode cX5_recall 51 = .ok (.astore 6, 2) := by decide +kernel
theorem dX5_recall_53 : decode cX5_recall 53 = .ok (.aload 6, 2) := by decide +kernel
theorem dX5_recall_55 : decode cX5_recall 55 = .ok (.iload_n 1, 1) := by decide +kernel
theorem dX5_recall_56 : decode cX5_recall 56 = .ok (.invokevirtual 219, 3) := by decide +kernel
theorem dX5_recall_59 : decode cX5_recall 59 = .ok (.ifCond .eq 19, 3) := by decide +kernel
theorem dX5_recall_62 : decode cX5_recall 62 = .ok (.aload 6, 2) := by decide +kernel
theorem dX5_recall_64 : decode cX5_recall 64 = .ok (.iconst 1, 1) := by decide +kernel
theorem dX5_recall_65 : decode cX5_recall 65 = .ok (.putfield 223, 3) := by decide +kernel
theorem dX5_recall_68 : decode cX5_recall 68 = .ok (.iload 4, 2) := by decide +kernel
theorem dX5_recall_70 : decode cX5_recall 70 = .ok (.aload 6, 2) := by decide +kernel
theorem dX5_recall_72 : decode cX5_recall 72 = .ok (.getfield 226, 3) := by decide +kernel
theorem dX5_recall_75 : decode cX5_recall 75 = .ok (.iadd, 1) := by decide +kernel
theorem dX5_recall_76 : decode cX5_recall 76 = .ok (.istore 4, 2) := by decide +kernel
theorem dX5_recall_78 : decode cX5_recall 78 = .ok (.iinc 5 1, 3) := by decide +kernel
theorem dX5_recall_81 : decode cX5_recall 81 = .ok (.goto (-42), 3) := by decide +kernel
theorem dX5_recall_84 : decode cX5_recall 84 = .ok (.iload 4, 2) := by decide +kernel
theorem dX5_recall_86 : decode cX5_recall 86 = .ok (.ireturn, 1) := by decide +kernel
theorem dX5_ban_0 : decode cX5_ban 0 = .ok (.iload_n 1, 1) := by decide +kernel
theorem dX5_ban_1 : decode cX5_ban 1 = .ok (.ifCond .lt 8, 3) := by decide +kernel
theorem dX5_ban_4 : decode cX5_ban 4 = .ok (.iload_n 1, 1) := by decide +kernel
theorem dX5_ban_5 : decode cX5_ban 5 = .ok (.iconst 5, 1) := by decide +kernel
theorem dX5_ban_6 : decode cX5_ban 6 = .ok (.if_icmp .lt 13, 3) := by decide +kernel
theorem dX5_ban_9 : decode cX5_ban 9 = .ok (.new 229, 3) := by decide +kernel
theorem dX5_ban_12 : decode cX5_ban 12 = .ok (.dup, 1) := by decide +kernel
theorem dX5_ban_13 : decode cX5_ban 13 = .ok (.ldc 231, 2) := by decide +kernel
theorem dX5_ban_15 : decode cX5_ban 15 = .ok (.invokespecial 233, 3) := by decide +kernel
theorem dX5_ban_18 : decode cX5_ban 18 = .ok (.athrow, 1) := by decide +kernel
theorem dX5_ban_19 : decode cX5_ban 19 = .ok (.aload_n 0, 1) := by decide +kernel
theorem dX5_ban_20 : decode cX5_ban 20 = .ok (.iload_n 2, 1) := by decide +kernel
theorem dX5_ban_21 : decode cX5_ban 21 = .ok (.invokevirtual 108, 3) := by decide +kernel
theorem dX5_ban_24 : decode cX5_ban 24 = .ok (.astore 4, 2) := by decide +kernel
theorem dX5_ban_26 : decode cX5_ban 26 = .ok (.iload_n 3, 1) := by decide +kernel
theorem dX5_ban_27 : decode cX5_ban 27 = .ok (.ifCond .eq 19, 3) := by decide +kernel
theorem dX5_ban_30 : decode cX5_ban 30 = .ok (.aload 4, 2) := by decide +kernel
theorem dX5_ban_32 : decode cX5_ban 32 = .ok (.dup, 1) := by decide +kernel
theorem dX5_ban_33 : decode cX5_ban 33 = .ok (.getfield 234, 3) := by decide +kernel
theorem dX5_ban_36 : decode cX5_ban 36 = .ok (.iconst 1, 1) := by decide +kernel
theorem dX5_ban_37 : decode cX5_ban 37 = .ok (.iload_n 1, 1) := by decide +kernel
theorem dX5_ban_38 : decode cX5_ban 38 = .ok (.ishl, 1) := by decide +kernel
theorem dX5_ban_39 : decode cX5_ban 39 = .ok (.ior, 1) := by decide +kernel
theorem dX5_ban_40 : decode cX5_ban 40 = .ok (.putfield 234, 3) := by decide +kernel
theorem dX5_ban_43 : decode cX5_ban 43 = .ok (.goto 18, 3) := by decide +kernel
theorem dX5_ban_46 : decode cX5_ban 46 = .ok (.aload 4, 2) := by decide +kernel
theorem dX5_ban_48 : decode cX5_ban 48 = .ok (.dup, 1) := by decide +kernel
theorem dX5_ban_49 : decode cX5_ban 49 = .ok (.getfield 234, 3) := by decide +kernel
theorem dX5_ban_52 : decode cX5_ban 52 = .ok (.iconst 1, 1) := by decide +kernel
theorem dX5_ban_53 : decode cX5_ban 53 = .ok (.iload_n 1, 1) := by decide +kernel
theorem dX5_ban_54 : decode cX5_ban 54 = .ok (.ishl, 1) := by decide +kernel
theorem dX5_ban_55 : decode cX5_ban 55 = .ok (.iconst (-1), 1) := by decide +kernel
theorem dX5_ban_56 : decode cX5_ban 56 = .ok (.ixor, 1) := by decide +kernel
theorem dX5_ban_57 : decode cX5_ban 57 = .ok (.iand, 1) := by decide +kernel
theorem dX5_ban_58 : decode cX5_ban 58 = .ok (.putfield 234, 3) := by decide +kernel
theorem dX5_ban_61 : decode cX5_ban 61 = .ok (.aload 4, 2) := by decide +kernel
theorem dX5_ban_63 : decode cX5_ban 63 = .ok (.getfield 234, 3) := by decide +kernel
theorem dX5_ban_66 : decode cX5_ban 66 = .ok (.invokestatic 237, 3) := by decide +kernel
theorem dX5_ban_69 : decode cX5_ban 69 = .ok (.ireturn, 1) := by decide +kernel
theorem dX5_pass_0 : decode cX5_pass 0 = .ok (.iload_n 1, 1) := by decide +kernel
theorem dX5_pass_1 : decode cX5_pass 1 = .ok (.iconst 1, 1) := by decide +kernel
theorem dX5_pass_2 : decode cX5_pass 2 = .ok (.sipush 500, 3) := by decide +kernel
theorem dX5_pass_5 : decode cX5_pass 5 = .ok (.invokestatic 39, 3) := by decide +kernel
theorem dX5_pass_8 : decode cX5_pass 8 = .ok (.aload_n 0, 1) := by decide +kernel
theorem dX5_pass_9 : decode cX5_pass 9 = .ok (.getfield 91, 3) := by decide +kernel
theorem dX5_pass_12 : decode cX5_pass 12 = .ok (.iload_n 1, 1) := by decide +kernel
theorem dX5_pass_13 : decode cX5_pass 13 = .ok (.iadd, 1) := by decide +kernel
theorem dX5_pass_14 : decode cX5_pass 14 = .ok (.sipush 5000, 3) := by decide +kernel
theorem dX5_pass_17 : decode cX5_pass 17 = .ok (.if_icmp .le 13, 3) := by decide +kernel
theorem dX5_pass_20 : decode cX5_pass 20 = .ok (.new 47, 3) := by decide +kernel
theorem dX5_pass_23 : decode cX5_pass 23 = .ok (.dup, 1) := by decide +kernel
theorem dX5_pass_24 : decode cX5_pass 24 = .ok (.ldc 243, 2) := by decide +kernel
theorem dX5_pass_26 : decode cX5_pass 26 = .ok (.invokespecial 51, 3) := by decide +kernel
theorem dX5_pass_29 : decode cX5_pass 29 = .ok (.athrow, 1) := by decide +kernel
theorem dX5_pass_30 : decode cX5_pass 30 = .ok (.aload_n 0, 1) := by decide +kernel
theorem dX5_pass_31 : decode cX5_pass 31 = .ok (.dup, 1) := by decide +kernel
theorem dX5_pass_32 : decode cX5_pass 32 = .ok (.getfield 91, 3) := by decide +kernel
theorem dX5_pass_35 : decode cX5_pass 35 = .ok (.iload_n 1, 1) := by decide +kernel
theorem dX5_pass_36 : decode cX5_pass 36 = .ok (.iadd, 1) := by decide +kernel
theorem dX5_pass_37 : decode cX5_pass 37 = .ok (.putfield 91, 3) := by decide +kernel
theorem dX5_pass_40 : decode cX5_pass 40 = .ok (.aload_n 0, 1) := by decide +kernel
theorem dX5_pass_41 : decode cX5_pass 41 = .ok (.getfield 91, 3) := by decide +kernel
theorem dX5_pass_44 : decode cX5_pass 44 = .ok (.ireturn, 1) := by decide +kernel
theorem dX5_day_0 : decode cX5_day 0 = .ok (.aload_n 0, 1) := by decide +kernel
theorem dX5_day_1 : decode cX5_day 1 = .ok (.getfield 91, 3) := by decide +kernel
theorem dX5_day_4 : decode cX5_day 4 = .ok (.ireturn, 1) := by decide +kernel
theorem dX5_applies_0 : decode cX5_applies 0 = .ok (.aload_n 0, 1) := by decide +kernel
theorem dX5_applies_1 : decode cX5_applies 1 = .ok (.iload_n 1, 1) := by decide +kernel
theorem dX5_applies_2 : decode cX5_applies 2 = .ok (.invokevirtual 57, 3) := by decide +kernel
theorem dX5_applies_5 : decode cX5_applies 5 = .ok (.pop, 1) := by decide +kernel
theorem dX5_applies_6 : decode cX5_applies 6 = .ok (.aload_n 0, 1) := by decide +kernel
theorem dX5_applies_7 : decode cX5_applies 7 = .ok (.aload_n 0, 1) := by decide +kernel
theorem dX5_applies_8 : decode cX5_applies 8 = .ok (.iload_n 2, 1) := by decide +kernel
theorem dX5_applies_9 : decode cX5_applies 9 = .ok (.invokevirtual 108, 3) := by decide +kernel
theorem dX5_applies_12 : decode cX5_applies 12 = .ok (.invokevirtual 245, 3) := by decide +kernel
theorem dX5_applies_15 : decode cX5_applies 15 = .ok (.iload_n 1, 1) := by decide +kernel
theorem dX5_applies_16 : decode cX5_applies 16 = .ok (.invokestatic 70, 3) := by decide +kernel
theorem dX5_applies_19 : decode cX5_applies 19 = .ok (.ireturn, 1) := by decide +kernel
theorem dX5_demands_0 : decode cX5_demands 0 = .ok (.aload_n 0, 1) := by decide +kernel
theorem dX5_demands_1 : decode cX5_demands 1 = .ok (.iload_n 1, 1) := by decide +kernel
theorem dX5_demands_2 : decode cX5_demands 2 = .ok (.invokevirtual 108, 3) := by decide +kernel
theorem dX5_demands_5 : decode cX5_demands 5 = .ok (.astore_n 3, 1) := by decide +kernel
theorem dX5_demands_6 : decode cX5_demands 6 = .ok (.aload_n 0, 1) := by decide +kernel
theorem dX5_demands_7 : decode cX5_demands 7 = .ok (.aload_n 3, 1) := by decide +kernel
theorem dX5_demands_8 : decode cX5_demands 8 = .ok (.invokevirtual 248, 3) := by decide +kernel
theorem dX5_demands_11 : decode cX5_demands 11 = .ok (.istore 4, 2) := by decide +kernel
theorem dX5_demands_13 : decode cX5_demands 13 = .ok (.iload_n 2, 1) := by decide +kernel
theorem dX5_demands_14 : decode cX5_demands 14 = .ok (.ifCond .eq 13, 3) := by decide +kernel
theorem dX5_demands_17 : decode cX5_demands 17 = .ok (.aload_n 0, 1) := by decide +kernel
theorem dX5_demands_18 : decode cX5_demands 18 = .ok (.aload_n 3, 1) := by decide +kernel
theorem dX5_demands_19 : decode cX5_demands 19 = .ok (.iload 4, 2) := by decide +kernel
theorem dX5_demands_21 : decode cX5_demands 21 = .ok (.invokevirtual 251, 3) := by decide +kernel
theorem dX5_demands_24 : decode cX5_demands 24 = .ok (.goto 5, 3) := by decide +kernel
theorem dX5_demands_27 : decode cX5_demands 27 = .ok (.iload 4, 2) := by decide +kernel
theorem dX5_demands_29 : decode cX5_demands 29 = .ok (.ireturn, 1) := by decide +kernel
theorem dX5_way_0 : decode cX5_way 0 = .ok (.aload_n 0, 1) := by decide +kernel
theorem dX5_way_1 : decode cX5_way 1 = .ok (.iload_n 1, 1) := by decide +kernel
theorem dX5_way_2 : decode cX5_way 2 = .ok (.invokevirtual 108, 3) := by decide +kernel
theorem dX5_way_5 : decode cX5_way 5 = .ok (.astore_n 2, 1) := by decide +kernel
theorem dX5_way_6 : decode cX5_way 6 = .ok (.aload_n 0, 1) := by decide +kernel
theorem dX5_way_7 : decode cX5_way 7 = .ok (.aload_n 2, 1) := by decide +kernel
theorem dX5_way_8 : decode cX5_way 8 = .ok (.aload_n 0, 1) := by decide +kernel
theorem dX5_way_9 : decode cX5_way 9 = .ok (.aload_n 2, 1) := by decide +kernel
theorem dX5_way_10 : decode cX5_way 10 = .ok (.invokevirtual 248, 3) := by decide +kernel
theorem dX5_way_13 : decode cX5_way 13 = .ok (.invokevirtual 255, 3) := by decide +kernel
theorem dX5_way_16 : decode cX5_way 16 = .ok (.ireturn, 1) := by decide +kernel
theorem dX5_wanting_0 : decode cX5_wanting 0 = .ok (.aload_n 0, 1) := by decide +kernel
theorem dX5_wanting_1 : decode cX5_wanting 1 = .ok (.aload_n 0, 1) := by decide +kernel
theorem dX5_wanting_2 : decode cX5_wanting 2 = .ok (.iload_n 1, 1) := by decide +kernel
theorem dX5_wanting_3 : decode cX5_wanting 3 = .ok (.invokevirtual 108, 3) := by decide +kernel
theorem dX5_wanting_6 : decode cX5_wanting 6 = .ok (.invokevirtual 137, 3) := by decide +kernel
theorem dX5_wanting_9 : decode cX5_wanting 9 = .ok (.ireturn, 1) := by decide +kernel
theorem dX5_productOf_0 : decode cX5_productOf 0 = .ok (.aload_n 0, 1) := by decide +kernel
theorem dX5_productOf_1 : decode cX5_productOf 1 = .ok (.iload_n 1, 1) := by decide +kernel
theorem dX5_productOf_2 : decode cX5_productOf 2 = .ok (.invokevirtual 108, 3) := by decide +kernel
theorem dX5_productOf_5 : decode cX5_productOf 5 = .ok (.astore_n 3, 1) := by decide +kernel
theorem dX5_productOf_6 : decode cX5_productOf 6 = .ok (.iload_n 2, 1) := by decide +kernel
theorem dX5_productOf_7 : decode cX5_productOf 7 = .ok (.tableswitch 91 0 6 #[41, 46, 51, 70, 75, 80, 85], 41) := by decide +kernel
theorem dX5_productOf_48 : decode cX5_productOf 48 = .ok (.aload_n 3, 1) := by decide +kernel
theorem dX5_productOf_49 : decode cX5_productOf 49 = .ok (.getfield 112, 3) := by decide +kernel
theorem dX5_productOf_52 : decode cX5_productOf 52 = .ok (.ireturn, 1) := by decide +kernel
theorem dX5_productOf_53 : decode cX5_productOf 53 = .ok (.aload_n 3, 1) := by decide +kernel
theorem dX5_productOf_54 : decode cX5_productOf 54 = .ok (.getfield 118, 3) := by decide +kernel
theorem dX5_productOf_57 : decode cX5_productOf 57 = .ok (.ireturn, 1) := by decide +kernel
theorem dX5_productOf_58 : decode cX5_productOf 58 = .ok (.aload_n 3, 1) := by decide +kernel
theorem dX5_productOf_59 : decode cX5_productOf 59 = .ok (.getfield 169, 3) := by decide +kernel
theorem dX5_productOf_62 : decode cX5_productOf 62 = .ok (.ifnonnull 7, 3) := by decide +kernel
theorem dX5_productOf_65 : decode cX5_productOf 65 = .ok (.iconst (-1), 1) := by decide +kernel
theorem dX5_productOf_66 : decode cX5_productOf 66 = .ok (.goto 10, 3) := by decide +kernel
theorem dX5_productOf_69 : decode cX5_productOf 69 = .ok (.aload_n 3, 1) := by decide +kernel
theorem dX5_productOf_70 : decode cX5_productOf 70 = .ok (.getfield 169, 3) := by decide +kernel
theorem dX5_productOf_73 : decode cX5_productOf 73 = .ok (.getfield 178, 3) := by decide +kernel
theorem dX5_productOf_76 : decode cX5_productOf 76 = .ok (.ireturn, 1) := by decide +kernel
theorem dX5_productOf_77 : decode cX5_productOf 77 = .ok (.aload_n 3, 1) := by decide +kernel
theorem dX5_productOf_78 : decode cX5_productOf 78 = .ok (.getfield 173, 3) := by decide +kernel
theorem dX5_productOf_81 : decode cX5_productOf 81 = .ok (.ireturn, 1) := by decide +kernel
theorem dX5_productOf_82 : decode cX5_productOf 82 = .ok (.aload_n 3, 1) := by decide +kernel
theorem dX5_productOf_83 : decode cX5_productOf 83 = .ok (.getfield 181, 3) := by decide +kernel
theorem dX5_productOf_86 : decode cX5_productOf 86 = .ok (.ireturn, 1) := by decide +kernel
theorem dX5_productOf_87 : decode cX5_productOf 87 = .ok (.aload_n 3, 1) := by decide +kernel
theorem dX5_productOf_88 : decode cX5_productOf 88 = .ok (.getfield 143, 3) := by decide +kernel
theorem dX5_productOf_91 : decode cX5_productOf 91 = .ok (.ireturn, 1) := by decide +kernel
theorem dX5_productOf_92 : decode cX5_productOf 92 = .ok (.aload_n 0, 1) := by decide +kernel
theorem dX5_productOf_93 : decode cX5_productOf 93 = .ok (.iload_n 1, 1) := by decide +kernel
theorem dX5_productOf_94 : decode cX5_productOf 94 = .ok (.invokevirtual 258, 3) := by decide +kernel
theorem dX5_productOf_97 : decode cX5_productOf 97 = .ok (.ireturn, 1) := by decide +kernel
theorem dX5_productOf_98 : decode cX5_productOf 98 = .ok (.new 61, 3) := by decide +kernel
theorem dX5_productOf_101 : decode cX5_productOf 101 = .ok (.dup, 1) := by decide +kernel
theorem dX5_productOf_102 : decode cX5_productOf 102 = .ok (.ldc_w 261, 3) := by decide +kernel
theorem dX5_productOf_105 : decode cX5_productOf 105 = .ok (.invokespecial 65, 3) := by decide +kernel
theorem dX5_productOf_108 : decode cX5_productOf 108 = .ok (.athrow, 1) := by decide +kernel
theorem dX5_riskOf_0 : decode cX5_riskOf 0 = .ok (.aload_n 0, 1) := by decide +kernel
theorem dX5_riskOf_1 : decode cX5_riskOf 1 = .ok (.iload_n 1, 1) := by decide +kernel
theorem dX5_riskOf_2 : decode cX5_riskOf 2 = .ok (.invokevirtual 108, 3) := by decide +kernel
theorem dX5_riskOf_5 : decode cX5_riskOf 5 = .ok (.astore 4, 2) := by decide +kernel
theorem dX5_riskOf_7 : decode cX5_riskOf 7 = .ok (.iload_n 2, 1) := by decide +kernel
theorem dX5_riskOf_8 : decode cX5_riskOf 8 = .ok (.invokestatic 121, 3) := by decide +kernel
theorem dX5_riskOf_11 : decode cX5_riskOf 11 = .ok (.iload_n 3, 1) := by decide +kernel
theorem dX5_riskOf_12 : decode cX5_riskOf 12 = .ok (.ifCond .eq 13, 3) := by decide +kernel
theorem dX5_riskOf_15 : decode cX5_riskOf 15 = .ok (.aload 4, 2) := by decide +kernel
theorem dX5_riskOf_17 : decode cX5_riskOf 17 = .ok (.getfield 128, 3) := by decide +kernel
theorem dX5_riskOf_20 : decode cX5_riskOf 20 = .ok (.iload_n 2, 1) := by decide +kernel
theorem dX5_riskOf_21 : decode cX5_riskOf 21 = .ok (.iaload, 1) := by decide +kernel
theorem dX5_riskOf_22 : decode cX5_riskOf 22 = .ok (.goto 10, 3) := by decide +kernel
theorem dX5_riskOf_25 : decode cX5_riskOf 25 = .ok (.aload 4, 2) := by decide +kernel
theorem dX5_riskOf_27 : decode cX5_riskOf 27 = .ok (.getfield 124, 3) := by decide +kernel
theorem dX5_riskOf_30 : decode cX5_riskOf 30 = .ok (.iload_n 2, 1) := by decide +kernel
theorem dX5_riskOf_31 : decode cX5_riskOf 31 = .ok (.iaload, 1) := by decide +kernel
theorem dX5_riskOf_32 : decode cX5_riskOf 32 = .ok (.ireturn, 1) := by decide +kernel
theorem dX5_batchOf_0 : decode cX5_batchOf 0 = .ok (.aload_n 0, 1) := by decide +kernel
theorem dX5_batchOf_1 : decode cX5_batchOf 1 = .ok (.iload_n 1, 1) := by decide +kernel
theorem dX5_batchOf_2 : decode cX5_batchOf 2 = .ok (.invokevirtual 193, 3) := by decide +kernel
theorem dX5_batchOf_5 : decode cX5_batchOf 5 = .ok (.astore_n 3, 1) := by decide +kernel
theorem dX5_batchOf_6 : decode cX5_batchOf 6 = .ok (.iload_n 2, 1) := by decide +kernel
theorem dX5_batchOf_7 : decode cX5_batchOf 7 = .ok (.tableswitch 94 0 8 #[49, 54, 59, 64, 69, 74, 79, 84, 89], 49) := by decide +kernel
theorem dX5_batchOf_56 : decode cX5_batchOf 56 = .ok (.aload_n 3, 1) := by decide +kernel
theorem dX5_batchOf_57 : decode cX5_batchOf 57 = .ok (.getfield 263, 3) := by decide +kernel
theorem dX5_batchOf_60 : decode cX5_batchOf 60 = .ok (.ireturn, 1) := by decide +kernel
theorem dX5_batchOf_61 : decode cX5_batchOf 61 = .ok (.aload_n 3, 1) := by decide +kernel
theorem dX5_batchOf_62 : decode cX5_batchOf 62 = .ok (.getfield 226, 3) := by decide +kernel
theorem dX5_batchOf_65 : decode cX5_batchOf 65 = .ok (.ireturn, 1) := by decide +kernel
theorem dX5_batchOf_66 : decode cX5_batchOf 66 = .ok (.aload_n 3, 1) := by decide +kernel
theorem dX5_batchOf_67 : decode cX5_batchOf 67 = .ok (.getfield 266, 3) := by decide +kernel
theorem dX5_batchOf_70 : decode cX5_batchOf 70 = .ok (.ireturn, 1) := by decide +kernel
theorem dX5_batchOf_71 : decode cX5_batchOf 71 = .ok (.aload_n 3, 1) := by decide +kernel
theorem dX5_batchOf_72 : decode cX5_batchOf 72 = .ok (.getfield 269, 3) := by decide +kernel
theorem dX5_batchOf_75 : decode cX5_batchOf 75 = .ok (.ireturn, 1) := by decide +kernel
theorem dX5_batchOf_76 : decode cX5_batchOf 76 = .ok (.aload_n 3, 1) := by decide +kernel
theorem dX5_batchOf_77 : decode cX5_batchOf 77 = .ok (.getfield 270, 3) := by decide +kernel
theorem dX5_batchOf_80 : decode cX5_batchOf 80 = .ok (.ireturn, 1) := by decide +kernel
theorem dX5_batchOf_81 : decode cX5_batchOf 81 = .ok (.aload_n 3, 1) := by decide +kernel
theorem dX5_batchOf_82 : decode cX5_batchOf 82 = .ok (.getfield 223, 3) := by decide +kernel
theorem dX5_batchOf_85 : decode cX5_batchOf 85 = .ok (.ireturn, 1) := by decide +kernel
theorem dX5_batchOf_86 : decode cX5_batchOf 86 = .ok (.aload_n 3, 1) := by decide +kernel
theorem dX5_batchOf_87 : decode cX5_batchOf 87 = .ok (.getfield 198, 3) := by decide +kernel
theorem dX5_batchOf_90 : decode cX5_batchOf 90 = .ok (.ireturn, 1) := by decide +kernel
theorem dX5_batchOf_91 : decode cX5_batchOf 91 = .ok (.aload_n 3, 1) := by decide +kernel
theorem dX5_batchOf_92 : decode cX5_batchOf 92 = .ok (.invokevirtual 213, 3) := by decide +kernel
theorem dX5_batchOf_95 : decode cX5_batchOf 95 = .ok (.ireturn, 1) := by decide +kernel
theorem dX5_batchOf_96 : decode cX5_batchOf 96 = .ok (.aload_n 3, 1) := by decide +kernel
theorem dX5_batchOf_97 : decode cX5_batchOf 97 = .ok (.getfield 210, 3) := by decide +kernel
theorem dX5_batchOf_100 : decode cX5_batchOf 100 = .ok (.ireturn, 1) := by decide +kernel
theorem dX5_batchOf_101 : decode cX5_batchOf 101 = .ok (.new 61, 3) := by decide +kernel
theorem dX5_batchOf_104 : decode cX5_batchOf 104 = .ok (.dup, 1) := by decide +kernel
theorem dX5_batchOf_105 : decode cX5_batchOf 105 = .ok (.ldc_w 261, 3) := by decide +kernel
theorem dX5_batchOf_108 : decode cX5_batchOf 108 = .ok (.invokespecial 65, 3) := by decide +kernel
theorem dX5_batchOf_111 : decode cX5_batchOf 111 = .ok (.athrow, 1) := by decide +kernel
theorem dX5_wantingAnew_0 : decode cX5_wantingAnew 0 = .ok (.aload_n 0, 1) := by decide +kernel
theorem dX5_wantingAnew_1 : decode cX5_wantingAnew 1 = .ok (.iload_n 1, 1) := by decide +kernel
theorem dX5_wantingAnew_2 : decode cX5_wantingAnew 2 = .ok (.invokevirtual 193, 3) := by decide +kernel
theorem dX5_wantingAnew_5 : decode cX5_wantingAnew 5 = .ok (.getfield 270, 3) := by decide +kernel
theorem dX5_wantingAnew_8 : decode cX5_wantingAnew 8 = .ok (.ireturn, 1) := by decide +kernel
theorem dX5_actAt_0 : decode cX5_actAt 0 = .ok (.iload_n 1, 1) := by decide +kernel
theorem dX5_actAt_1 : decode cX5_actAt 1 = .ok (.ifCond .lt 12, 3) := by decide +kernel
theorem dX5_actAt_4 : decode cX5_actAt 4 = .ok (.iload_n 1, 1) := by decide +kernel
theorem dX5_actAt_5 : decode cX5_actAt 5 = .ok (.aload_n 0, 1) := by decide +kernel
theorem dX5_actAt_6 : decode cX5_actAt 6 = .ok (.getfield 11, 3) := by decide +kernel
theorem dX5_actAt_9 : decode cX5_actAt 9 = .ok (.arraylength, 1) := by decide +kernel
theorem dX5_actAt_10 : decode cX5_actAt 10 = .ok (.if_icmp .lt 7, 3) := by decide +kernel
theorem dX5_actAt_13 : decode cX5_actAt 13 = .ok (.aconst_null, 1) := by decide +kernel
theorem dX5_actAt_14 : decode cX5_actAt 14 = .ok (.goto 9, 3) := by decide +kernel
theorem dX5_actAt_17 : decode cX5_actAt 17 = .ok (.aload_n 0, 1) := by decide +kernel
theorem dX5_actAt_18 : decode cX5_actAt 18 = .ok (.getfield 11, 3) := by decide +kernel
theorem dX5_actAt_21 : decode cX5_actAt 21 = .ok (.iload_n 1, 1) := by decide +kernel
theorem dX5_actAt_22 : decode cX5_actAt 22 = .ok (.aaload, 1) := by decide +kernel
theorem dX5_actAt_23 : decode cX5_actAt 23 = .ok (.astore_n 2, 1) := by decide +kernel
theorem dX5_actAt_24 : decode cX5_actAt 24 = .ok (.aload_n 2, 1) := by decide +kernel
theorem dX5_actAt_25 : decode cX5_actAt 25 = .ok (.ifnonnull 14, 3) := by decide +kernel
theorem dX5_actAt_28 : decode cX5_actAt 28 = .ok (.new 229, 3) := by decide +kernel
theorem dX5_actAt_31 : decode cX5_actAt 31 = .ok (.dup, 1) := by decide +kernel
theorem dX5_actAt_32 : decode cX5_actAt 32 = .ok (.ldc_w 273, 3) := by decide +kernel
theorem dX5_actAt_35 : decode cX5_actAt 35 = .ok (.invokespecial 233, 3) := by decide +kernel
theorem dX5_actAt_38 : decode cX5_actAt 38 = .ok (.athrow, 1) := by decide +kernel
theorem dX5_actAt_39 : decode cX5_actAt 39 = .ok (.aload_n 2, 1) := by decide +kernel
theorem dX5_actAt_40 : decode cX5_actAt 40 = .ok (.areturn, 1) := by decide +kernel
theorem dX5_standardAt_0 : decode cX5_standardAt 0 = .ok (.iload_n 1, 1) := by decide +kernel
theorem dX5_standardAt_1 : decode cX5_standardAt 1 = .ok (.ifCond .lt 12, 3) := by decide +kernel
theorem dX5_standardAt_4 : decode cX5_standardAt 4 = .ok (.iload_n 1, 1) := by decide +kernel
theorem dX5_standardAt_5 : decode cX5_standardAt 5 = .ok (.aload_n 0, 1) := by decide +kernel
theorem dX5_standardAt_6 : decode cX5_standardAt 6 = .ok (.getfield 17, 3) := by decide +kernel
theorem dX5_standardAt_9 : decode cX5_standardAt 9 = .ok (.arraylength, 1) := by decide +kernel
theorem dX5_standardAt_10 : decode cX5_standardAt 10 = .ok (.if_icmp .lt 7, 3) := by decide +kernel
theorem dX5_standardAt_13 : decode cX5_standardAt 13 = .ok (.aconst_null, 1) := by decide +kernel
theorem dX5_standardAt_14 : decode cX5_standardAt 14 = .ok (.goto 9, 3) := by decide +kernel
theorem dX5_standardAt_17 : decode cX5_standardAt 17 = .ok (.aload_n 0, 1) := by decide +kernel
theorem dX5_standardAt_18 : decode cX5_standardAt 18 = .ok (.getfield 17, 3) := by decide +kernel
theorem dX5_standardAt_21 : decode cX5_standardAt 21 = .ok (.iload_n 1, 1) := by decide +kernel
theorem dX5_standardAt_22 : decode cX5_standardAt 22 = .ok (.aaload, 1) := by decide +kernel
theorem dX5_standardAt_23 : decode cX5_standardAt 23 = .ok (.astore_n 2, 1) := by decide +kernel
theorem dX5_standardAt_24 : decode cX5_standardAt 24 = .ok (.aload_n 2, 1) := by decide +kernel
theorem dX5_standardAt_25 : decode cX5_standardAt 25 = .ok (.ifnonnull 14, 3) := by decide +kernel
theorem dX5_standardAt_28 : decode cX5_standardAt 28 = .ok (.new 229, 3) := by decide +kernel
theorem dX5_standardAt_31 : decode cX5_standardAt 31 = .ok (.dup, 1) := by decide +kernel
theorem dX5_standardAt_32 : decode cX5_standardAt 32 = .ok (.ldc_w 275, 3) := by decide +kernel
theorem dX5_standardAt_35 : decode cX5_standardAt 35 = .ok (.invokespecial 233, 3) := by decide +kernel
theorem dX5_standardAt_38 : decode cX5_standardAt 38 = .ok (.athrow, 1) := by decide +kernel
theorem dX5_standardAt_39 : decode cX5_standardAt 39 = .ok (.aload_n 2, 1) := by decide +kernel
theorem dX5_standardAt_40 : decode cX5_standardAt 40 = .ok (.areturn, 1) := by decide +kernel
theorem dX5_productAt_0 : decode cX5_productAt 0 = .ok (.iload_n 1, 1) := by decide +kernel
theorem dX5_productAt_1 : decode cX5_productAt 1 = .ok (.ifCond .lt 12, 3) := by decide +kernel
theorem dX5_productAt_4 : decode cX5_productAt 4 = .ok (.iload_n 1, 1) := by decide +kernel
theorem dX5_productAt_5 : decode cX5_productAt 5 = .ok (.aload_n 0, 1) := by decide +kernel
theorem dX5_productAt_6 : decode cX5_productAt 6 = .ok (.getfield 23, 3) := by decide +kernel
theorem dX5_productAt_9 : decode cX5_productAt 9 = .ok (.arraylength, 1) := by decide +kernel
theorem dX5_productAt_10 : decode cX5_productAt 10 = .ok (.if_icmp .lt 7, 3) := by decide +kernel
theorem dX5_productAt_13 : decode cX5_productAt 13 = .ok (.aconst_null, 1) := by decide +kernel
theorem dX5_productAt_14 : decode cX5_productAt 14 = .ok (.goto 9, 3) := by decide +kernel
theorem dX5_productAt_17 : decode cX5_productAt 17 = .ok (.aload_n 0, 1) := by decide +kernel
theorem dX5_productAt_18 : decode cX5_productAt 18 = .ok (.getfield 23, 3) := by decide +kernel
theorem dX5_productAt_21 : decode cX5_productAt 21 = .ok (.iload_n 1, 1) := by decide +kernel
theorem dX5_productAt_22 : decode cX5_productAt 22 = .ok (.aaload, 1) := by decide +kernel
theorem dX5_productAt_23 : decode cX5_productAt 23 = .ok (.astore_n 2, 1) := by decide +kernel
theorem dX5_productAt_24 : decode cX5_productAt 24 = .ok (.aload_n 2, 1) := by decide +kernel
theorem dX5_productAt_25 : decode cX5_productAt 25 = .ok (.ifnonnull 14, 3) := by decide +kernel
theorem dX5_productAt_28 : decode cX5_productAt 28 = .ok (.new 229, 3) := by decide +kernel
theorem dX5_productAt_31 : decode cX5_productAt 31 = .ok (.dup, 1) := by decide +kernel
theorem dX5_productAt_32 : decode cX5_productAt 32 = .ok (.ldc_w 277, 3) := by decide +kernel
theorem dX5_productAt_35 : decode cX5_productAt 35 = .ok (.invokespecial 233, 3) := by decide +kernel
theorem dX5_productAt_38 : decode cX5_productAt 38 = .ok (.athrow, 1) := by decide +kernel
theorem dX5_productAt_39 : decode cX5_productAt 39 = .ok (.aload_n 2, 1) := by decide +kernel
theorem dX5_productAt_40 : decode cX5_productAt 40 = .ok (.areturn, 1) := by decide +kernel
theorem dX5_bodyAt_0 : decode cX5_bodyAt 0 = .ok (.iload_n 1, 1) := by decide +kernel
theorem dX5_bodyAt_1 : decode cX5_bodyAt 1 = .ok (.ifCond .lt 12, 3) := by decide +kernel
theorem dX5_bodyAt_4 : decode cX5_bodyAt 4 = .ok (.iload_n 1, 1) := by decide +kernel
theorem dX5_bodyAt_5 : decode cX5_bodyAt 5 = .ok (.aload_n 0, 1) := by decide +kernel
theorem dX5_bodyAt_6 : decode cX5_bodyAt 6 = .ok (.getfield 29, 3) := by decide +kernel
theorem dX5_bodyAt_9 : decode cX5_bodyAt 9 = .ok (.arraylength, 1) := by decide +kernel
theorem dX5_bodyAt_10 : decode cX5_bodyAt 10 = .ok (.if_icmp .lt 7, 3) := by decide +kernel
theorem dX5_bodyAt_13 : decode cX5_bodyAt 13 = .ok (.aconst_null, 1) := by decide +kernel
theorem dX5_bodyAt_14 : decode cX5_bodyAt 14 = .ok (.goto 9, 3) := by decide +kernel
theorem dX5_bodyAt_17 : decode cX5_bodyAt 17 = .ok (.aload_n 0, 1) := by decide +kernel
theorem dX5_bodyAt_18 : decode cX5_bodyAt 18 = .ok (.getfield 29, 3) := by decide +kernel
theorem dX5_bodyAt_21 : decode cX5_bodyAt 21 = .ok (.iload_n 1, 1) := by decide +kernel
theorem dX5_bodyAt_22 : decode cX5_bodyAt 22 = .ok (.aaload, 1) := by decide +kernel
theorem dX5_bodyAt_23 : decode cX5_bodyAt 23 = .ok (.astore_n 2, 1) := by decide +kernel
theorem dX5_bodyAt_24 : decode cX5_bodyAt 24 = .ok (.aload_n 2, 1) := by decide +kernel
theorem dX5_bodyAt_25 : decode cX5_bodyAt 25 = .ok (.ifnonnull 14, 3) := by decide +kernel
theorem dX5_bodyAt_28 : decode cX5_bodyAt 28 = .ok (.new 229, 3) := by decide +kernel
theorem dX5_bodyAt_31 : decode cX5_bodyAt 31 = .ok (.dup, 1) := by decide +kernel
theorem dX5_bodyAt_32 : decode cX5_bodyAt 32 = .ok (.ldc_w 279, 3) := by decide +kernel
theorem dX5_bodyAt_35 : decode cX5_bodyAt 35 = .ok (.invokespecial 233, 3) := by decide +kernel
theorem dX5_bodyAt_38 : decode cX5_bodyAt 38 = .ok (.athrow, 1) := by decide +kernel
theorem dX5_bodyAt_39 : decode cX5_bodyAt 39 = .ok (.aload_n 2, 1) := by decide +kernel
theorem dX5_bodyAt_40 : decode cX5_bodyAt 40 = .ok (.areturn, 1) := by decide +kernel
theorem dX5_batchAt_0 : decode cX5_batchAt 0 = .ok (.iload_n 1, 1) := by decide +kernel
theorem dX5_batchAt_1 : decode cX5_batchAt 1 = .ok (.ifCond .lt 12, 3) := by decide +kernel
theorem dX5_batchAt_4 : decode cX5_batchAt 4 = .ok (.iload_n 1, 1) := by decide +kernel
theorem dX5_batchAt_5 : decode cX5_batchAt 5 = .ok (.aload_n 0, 1) := by decide +kernel
theorem dX5_batchAt_6 : decode cX5_batchAt 6 = .ok (.getfield 35, 3) := by decide +kernel
theorem dX5_batchAt_9 : decode cX5_batchAt 9 = .ok (.arraylength, 1) := by decide +kernel
theorem dX5_batchAt_10 : decode cX5_batchAt 10 = .ok (.if_icmp .lt 7, 3) := by decide +kernel
theorem dX5_batchAt_13 : decode cX5_batchAt 13 = .ok (.aconst_null, 1) := by decide +kernel
theorem dX5_batchAt_14 : decode cX5_batchAt 14 = .ok (.goto 9, 3) := by decide +kernel
theorem dX5_batchAt_17 : decode cX5_batchAt 17 = .ok (.aload_n 0, 1) := by decide +kernel
theorem dX5_batchAt_18 : decode cX5_batchAt 18 = .ok (.getfield 35, 3) := by decide +kernel
theorem dX5_batchAt_21 : decode cX5_batchAt 21 = .ok (.iload_n 1, 1) := by decide +kernel
theorem dX5_batchAt_22 : decode cX5_batchAt 22 = .ok (.aaload, 1) := by decide +kernel
theorem dX5_batchAt_23 : decode cX5_batchAt 23 = .ok (.astore_n 2, 1) := by decide +kernel
theorem dX5_batchAt_24 : decode cX5_batchAt 24 = .ok (.aload_n 2, 1) := by decide +kernel
theorem dX5_batchAt_25 : decode cX5_batchAt 25 = .ok (.ifnonnull 14, 3) := by decide +kernel
theorem dX5_batchAt_28 : decode cX5_batchAt 28 = .ok (.new 229, 3) := by decide +kernel
theorem dX5_batchAt_31 : decode cX5_batchAt 31 = .ok (.dup, 1) := by decide +kernel
theorem dX5_batchAt_32 : decode cX5_batchAt 32 = .ok (.ldc_w 281, 3) := by decide +kernel
theorem dX5_batchAt_35 : decode cX5_batchAt 35 = .ok (.invokespecial 233, 3) := by decide +kernel
theorem dX5_batchAt_38 : decode cX5_batchAt 38 = .ok (.athrow, 1) := by decide +kernel
theorem dX5_batchAt_39 : decode cX5_batchAt 39 = .ok (.aload_n 2, 1) := by decide +kernel
theorem dX5_batchAt_40 : decode cX5_batchAt 40 = .ok (.areturn, 1) := by decide +kernel
theorem dX5_checkHazard_0 : decode cX5_checkHazard 0 = .ok (.iload_n 0, 1) := by decide +kernel
theorem dX5_checkHazard_1 : decode cX5_checkHazard 1 = .ok (.ifCond .lt 9, 3) := by decide +kernel
theorem dX5_checkHazard_4 : decode cX5_checkHazard 4 = .ok (.iload_n 0, 1) := by decide +kernel
theorem dX5_checkHazard_5 : decode cX5_checkHazard 5 = .ok (.bipush 8, 2) := by decide +kernel
theorem dX5_checkHazard_7 : decode cX5_checkHazard 7 = .ok (.if_icmp .lt 14, 3) := by decide +kernel
theorem dX5_checkHazard_10 : decode cX5_checkHazard 10 = .ok (.new 229, 3) := by decide +kernel
theorem dX5_checkHazard_13 : decode cX5_checkHazard 13 = .ok (.dup, 1) := by decide +kernel
theorem dX5_checkHazard_14 : decode cX5_checkHazard 14 = .ok (.ldc_w 283, 3) := by decide +kernel
theorem dX5_checkHazard_17 : decode cX5_checkHazard 17 = .ok (.invokespecial 233, 3) := by decide +kernel
theorem dX5_checkHazard_20 : decode cX5_checkHazard 20 = .ok (.athrow, 1) := by decide +kernel
theorem dX5_checkHazard_21 : decode cX5_checkHazard 21 = .ok (.return_, 1) := by decide +kernel
theorem dX5_checkRange_0 : decode cX5_checkRange 0 = .ok (.iload_n 0, 1) := by decide +kernel
theorem dX5_checkRange_1 : decode cX5_checkRange 1 = .ok (.iload_n 1, 1) := by decide +kernel
theorem dX5_checkRange_2 : decode cX5_checkRange 2 = .ok (.if_icmp .lt 8, 3) := by decide +kernel
theorem dX5_checkRange_5 : decode cX5_checkRange 5 = .ok (.iload_n 0, 1) := by decide +kernel
theorem dX5_checkRange_6 : decode cX5_checkRange 6 = .ok (.iload_n 2, 1) := by decide +kernel
theorem dX5_checkRange_7 : decode cX5_checkRange 7 = .ok (.if_icmp .le 14, 3) := by decide +kernel
theorem dX5_checkRange_10 : decode cX5_checkRange 10 = .ok (.new 61, 3) := by decide +kernel
theorem dX5_checkRange_13 : decode cX5_checkRange 13 = .ok (.dup, 1) := by decide +kernel
theorem dX5_checkRange_14 : decode cX5_checkRange 14 = .ok (.ldc_w 285, 3) := by decide +kernel
theorem dX5_checkRange_17 : decode cX5_checkRange 17 = .ok (.invokespecial 65, 3) := by decide +kernel
theorem dX5_checkRange_20 : decode cX5_checkRange 20 = .ok (.athrow, 1) := by decide +kernel
theorem dX5_checkRange_21 : decode cX5_checkRange 21 = .ok (.return_, 1) := by decide +kernel
theorem dX5_checkMayCertify_0 : decode cX5_checkMayCertify 0 = .ok (.aload_n 1, 1) := by decide +kernel
theorem dX5_checkMayCertify_1 : decode cX5_checkMayCertify 1 = .ok (.invokevirtual 156, 3) := by decide +kernel
theorem dX5_checkMayCertify_4 : decode cX5_checkMayCertify 4 = .ok (.ifCond .ne 15, 3) := by decide +kernel
theorem dX5_checkMayCertify_7 : decode cX5_checkMayCertify 7 = .ok (.aload_n 1, 1) := by decide +kernel
theorem dX5_checkMayCertify_8 : decode cX5_checkMayCertify 8 = .ok (.aload_n 0, 1) := by decide +kernel
theorem dX5_checkMayCertify_9 : decode cX5_checkMayCertify 9 = .ok (.aload_n 2, 1) := by decide +kernel
theorem dX5_checkMayCertify_10 : decode cX5_checkMayCertify 10 = .ok (.invokevirtual 245, 3) := by decide +kernel
theorem dX5_checkMayCertify_13 : decode cX5_checkMayCertify 13 = .ok (.invokevirtual 287, 3) := by decide +kernel
theorem dX5_checkMayCertify_16 : decode cX5_checkMayCertify 16 = .ok (.ifCond .ne 14, 3) := by decide +kernel
theorem dX5_checkMayCertify_19 : decode cX5_checkMayCertify 19 = .ok (.new 47, 3) := by decide +kernel
theorem dX5_checkMayCertify_22 : decode cX5_checkMayCertify 22 = .ok (.dup, 1) := by decide +kernel
theorem dX5_checkMayCertify_23 : decode cX5_checkMayCertify 23 = .ok (.ldc_w 290, 3) := by decide +kernel
theorem dX5_checkMayCertify_26 : decode cX5_checkMayCertify 26 = .ok (.invokespecial 51, 3) := by decide +kernel
theorem dX5_checkMayCertify_29 : decode cX5_checkMayCertify 29 = .ok (.athrow, 1) := by decide +kernel
theorem dX5_checkMayCertify_30 : decode cX5_checkMayCertify 30 = .ok (.return_, 1) := by decide +kernel
theorem dX5_hasBit_0 : decode cX5_hasBit 0 = .ok (.iload_n 0, 1) := by decide +kernel
theorem dX5_hasBit_1 : decode cX5_hasBit 1 = .ok (.iload_n 1, 1) := by decide +kernel
theorem dX5_hasBit_2 : decode cX5_hasBit 2 = .ok (.ishr, 1) := by decide +kernel
theorem dX5_hasBit_3 : decode cX5_hasBit 3 = .ok (.iconst 1, 1) := by decide +kernel
theorem dX5_hasBit_4 : decode cX5_hasBit 4 = .ok (.iand, 1) := by decide +kernel
theorem dX5_hasBit_5 : decode cX5_hasBit 5 = .ok (.ifCond .eq 7, 3) := by decide +kernel
theorem dX5_hasBit_8 : decode cX5_hasBit 8 = .ok (.iconst 1, 1) := by decide +kernel
theorem dX5_hasBit_9 : decode cX5_hasBit 9 = .ok (.goto 4, 3) := by decide +kernel
theorem dX5_hasBit_12 : decode cX5_hasBit 12 = .ok (.iconst 0, 1) := by decide +kernel
theorem dX5_hasBit_13 : decode cX5_hasBit 13 = .ok (.ireturn, 1) := by decide +kernel
theorem dX5_actsMoreSpecialThan_0 : decode cX5_actsMoreSpecialThan 0 = .ok (.aload_n 1, 1) := by decide +kernel
theorem dX5_actsMoreSpecialThan_1 : decode cX5_actsMoreSpecialThan 1 = .ok (.getfield 76, 3) := by decide +kernel
theorem dX5_actsMoreSpecialThan_4 : decode cX5_actsMoreSpecialThan 4 = .ok (.istore_n 2, 1) := by decide +kernel
theorem dX5_actsMoreSpecialThan_5 : decode cX5_actsMoreSpecialThan 5 = .ok (.iconst 1, 1) := by decide +kernel
theorem dX5_actsMoreSpecialThan_6 : decode cX5_actsMoreSpecialThan 6 = .ok (.istore_n 3, 1) := by decide +kernel
theorem dX5_actsMoreSpecialThan_7 : decode cX5_actsMoreSpecialThan 7 = .ok (.iload_n 3, 1) := by decide +kernel
theorem dX5_actsMoreSpecialThan_8 : decode cX5_actsMoreSpecialThan 8 = .ok (.aload_n 0, 1) := by decide +kernel
theorem dX5_actsMoreSpecialThan_9 : decode cX5_actsMoreSpecialThan 9 = .ok (.getfield 11, 3) := by decide +kernel
theorem dX5_actsMoreSpecialThan_12 : decode cX5_actsMoreSpecialThan 12 = .ok (.arraylength, 1) := by decide +kernel
theorem dX5_actsMoreSpecialThan_13 : decode cX5_actsMoreSpecialThan 13 = .ok (.if_icmp .ge 59, 3) := by decide +kernel
theorem dX5_actsMoreSpecialThan_16 : decode cX5_actsMoreSpecialThan 16 = .ok (.iconst 0, 1) := by decide +kernel
theorem dX5_actsMoreSpecialThan_17 : decode cX5_actsMoreSpecialThan 17 = .ok (.istore 4, 2) := by decide +kernel
theorem dX5_actsMoreSpecialThan_19 : decode cX5_actsMoreSpecialThan 19 = .ok (.iload 4, 2) := by decide +kernel
theorem dX5_actsMoreSpecialThan_21 : decode cX5_actsMoreSpecialThan 21 = .ok (.aload_n 0, 1) := by decide +kernel
theorem dX5_actsMoreSpecialThan_22 : decode cX5_actsMoreSpecialThan 22 = .ok (.getfield 11, 3) := by decide +kernel
theorem dX5_actsMoreSpecialThan_25 : decode cX5_actsMoreSpecialThan 25 = .ok (.arraylength, 1) := by decide +kernel
theorem dX5_actsMoreSpecialThan_26 : decode cX5_actsMoreSpecialThan 26 = .ok (.if_icmp .ge 40, 3) := by decide +kernel
theorem dX5_actsMoreSpecialThan_29 : decode cX5_actsMoreSpecialThan 29 = .ok (.aload_n 0, 1) := by decide +kernel
theorem dX5_actsMoreSpecialThan_30 : decode cX5_actsMoreSpecialThan 30 = .ok (.getfield 11, 3) := by decide +kernel
theorem dX5_actsMoreSpecialThan_33 : decode cX5_actsMoreSpecialThan 33 = .ok (.iload 4, 2) := by decide +kernel
theorem dX5_actsMoreSpecialThan_35 : decode cX5_actsMoreSpecialThan 35 = .ok (.aaload, 1) := by decide +kernel
theorem dX5_actsMoreSpecialThan_36 : decode cX5_actsMoreSpecialThan 36 = .ok (.astore 5, 2) := by decide +kernel
theorem dX5_actsMoreSpecialThan_38 : decode cX5_actsMoreSpecialThan 38 = .ok (.aload 5, 2) := by decide +kernel
theorem dX5_actsMoreSpecialThan_40 : decode cX5_actsMoreSpecialThan 40 = .ok (.ifnull 20, 3) := by decide +kernel
theorem dX5_actsMoreSpecialThan_43 : decode cX5_actsMoreSpecialThan 43 = .ok (.iload_n 2, 1) := by decide +kernel
theorem dX5_actsMoreSpecialThan_44 : decode cX5_actsMoreSpecialThan 44 = .ok (.iload 4, 2) := by decide +kernel
theorem dX5_actsMoreSpecialThan_46 : decode cX5_actsMoreSpecialThan 46 = .ok (.invokestatic 70, 3) := by decide +kernel
theorem dX5_actsMoreSpecialThan_49 : decode cX5_actsMoreSpecialThan 49 = .ok (.ifCond .eq 11, 3) := by decide +kernel
theorem dX5_actsMoreSpecialThan_52 : decode cX5_actsMoreSpecialThan 52 = .ok (.iload_n 2, 1) := by decide +kernel
theorem dX5_actsMoreSpecialThan_53 : decode cX5_actsMoreSpecialThan 53 = .ok (.aload 5, 2) := by decide +kernel
theorem dX5_actsMoreSpecialThan_55 : decode cX5_actsMoreSpecialThan 55 = .ok (.getfield 76, 3) := by decide +kernel
theorem dX5_actsMoreSpecialThan_58 : decode cX5_actsMoreSpecialThan 58 = .ok (.ior, 1) := by decide +kernel
theorem dX5_actsMoreSpecialThan_59 : decode cX5_actsMoreSpecialThan 59 = .ok (.istore_n 2, 1) := by decide +kernel
theorem dX5_actsMoreSpecialThan_60 : decode cX5_actsMoreSpecialThan 60 = .ok (.iinc 4 1, 3) := by decide +kernel
theorem dX5_actsMoreSpecialThan_63 : decode cX5_actsMoreSpecialThan 63 = .ok (.goto (-44), 3) := by decide +kernel
theorem dX5_actsMoreSpecialThan_66 : decode cX5_actsMoreSpecialThan 66 = .ok (.iinc 3 1, 3) := by decide +kernel
theorem dX5_actsMoreSpecialThan_69 : decode cX5_actsMoreSpecialThan 69 = .ok (.goto (-62), 3) := by decide +kernel
theorem dX5_actsMoreSpecialThan_72 : decode cX5_actsMoreSpecialThan 72 = .ok (.iload_n 2, 1) := by decide +kernel
theorem dX5_actsMoreSpecialThan_73 : decode cX5_actsMoreSpecialThan 73 = .ok (.ireturn, 1) := by decide +kernel
theorem dX5_actsForByThemselves_0 : decode cX5_actsForByThemselves 0 = .ok (.iconst 0, 1) := by decide +kernel
theorem dX5_actsForByThemselves_1 : decode cX5_actsForByThemselves 1 = .ok (.istore_n 2, 1) := by decide +kernel
theorem dX5_actsForByThemselves_2 : decode cX5_actsForByThemselves 2 = .ok (.iconst 0, 1) := by decide +kernel
theorem dX5_actsForByThemselves_3 : decode cX5_actsForByThemselves 3 = .ok (.istore_n 3, 1) := by decide +kernel
theorem dX5_actsForByThemselves_4 : decode cX5_actsForByThemselves 4 = .ok (.iload_n 3, 1) := by decide +kernel
theorem dX5_actsForByThemselves_5 : decode cX5_actsForByThemselves 5 = .ok (.aload_n 0, 1) := by decide +kernel
theorem dX5_actsForByThemselves_6 : decode cX5_actsForByThemselves 6 = .ok (.getfield 11, 3) := by decide +kernel
theorem dX5_actsForByThemselves_9 : decode cX5_actsForByThemselves 9 = .ok (.arraylength, 1) := by decide +kernel
theorem dX5_actsForByThemselves_10 : decode cX5_actsForByThemselves 10 = .ok (.if_icmp .ge 44, 3) := by decide +kernel
theorem dX5_actsForByThemselves_13 : decode cX5_actsForByThemselves 13 = .ok (.aload_n 0, 1) := by decide +kernel
theorem dX5_actsForByThemselves_14 : decode cX5_actsForByThemselves 14 = .ok (.getfield 11, 3) := by decide +kernel
theorem dX5_actsForByThemselves_17 : decode cX5_actsForByThemselves 17 = .ok (.iload_n 3, 1) := by decide +kernel
theorem dX5_actsForByThemselves_18 : decode cX5_actsForByThemselves 18 = .ok (.aaload, 1) := by decide +kernel
theorem dX5_actsForByThemselves_19 : decode cX5_actsForByThemselves 19 = .ok (.astore 4, 2) := by decide +kernel
theorem dX5_actsForByThemselves_21 : decode cX5_actsForByThemselves 21 = .ok (.aload 4, 2) := by decide +kernel
theorem dX5_actsForByThemselves_23 : decode cX5_actsForByThemselves 23 = .ok (.ifnull 25, 3) := by decide +kernel
theorem dX5_actsForByThemselves_26 : decode cX5_actsForByThemselves 26 = .ok (.aload 4, 2) := by decide +kernel
theorem dX5_actsForByThemselves_28 : decode cX5_actsForByThemselves 28 = .ok (.aload_n 1, 1) := by decide +kernel
theorem dX5_actsForByThemselves_29 : decode cX5_actsForByThemselves 29 = .ok (.getfield 112, 3) := by decide +kernel
theorem dX5_actsForByThemselves_32 : decode cX5_actsForByThemselves 32 = .ok (.aload_n 0, 1) := by decide +kernel
theorem dX5_actsForByThemselves_33 : decode cX5_actsForByThemselves 33 = .ok (.getfield 91, 3) := by decide +kernel
theorem dX5_actsForByThemselves_36 : decode cX5_actsForByThemselves 36 = .ok (.invokevirtual 292, 3) := by decide +kernel
theorem dX5_actsForByThemselves_39 : decode cX5_actsForByThemselves 39 = .ok (.ifCond .eq 9, 3) := by decide +kernel
theorem dX5_actsForByThemselves_42 : decode cX5_actsForByThemselves 42 = .ok (.iload_n 2, 1) := by decide +kernel
theorem dX5_actsForByThemselves_43 : decode cX5_actsForByThemselves 43 = .ok (.iconst 1, 1) := by decide +kernel
theorem dX5_actsForByThemselves_44 : decode cX5_actsForByThemselves 44 = .ok (.iload_n 3, 1) := by decide +kernel
theorem dX5_actsForByThemselves_45 : decode cX5_actsForByThemselves 45 = .ok (.ishl, 1) := by decide +kernel
theorem dX5_actsForByThemselves_46 : decode cX5_actsForByThemselves 46 = .ok (.ior, 1) := by decide +kernel
theorem dX5_actsForByThemselves_47 : decode cX5_actsForByThemselves 47 = .ok (.istore_n 2, 1) := by decide +kernel
theorem dX5_actsForByThemselves_48 : decode cX5_actsForByThemselves 48 = .ok (.iinc 3 1, 3) := by decide +kernel
theorem dX5_actsForByThemselves_51 : decode cX5_actsForByThemselves 51 = .ok (.goto (-47), 3) := by decide +kernel
theorem dX5_actsForByThemselves_54 : decode cX5_actsForByThemselves 54 = .ok (.iload_n 2, 1) := by decide +kernel
theorem dX5_actsForByThemselves_55 : decode cX5_actsForByThemselves 55 = .ok (.ireturn, 1) := by decide +kernel
theorem dX5_actsApplyingTo_0 : decode cX5_actsApplyingTo 0 = .ok (.aload_n 0, 1) := by decide +kernel
theorem dX5_actsApplyingTo_1 : decode cX5_actsApplyingTo 1 = .ok (.aload_n 1, 1) := by decide +kernel
theorem dX5_actsApplyingTo_2 : decode cX5_actsApplyingTo 2 = .ok (.invokevirtual 295, 3) := by decide +kernel
theorem dX5_actsApplyingTo_5 : decode cX5_actsApplyingTo 5 = .ok (.istore_n 2, 1) := by decide +kernel
theorem dX5_actsApplyingTo_6 : decode cX5_actsApplyingTo 6 = .ok (.iconst 0, 1) := by decide +kernel
theorem dX5_actsApplyingTo_7 : decode cX5_actsApplyingTo 7 = .ok (.istore_n 3, 1) := by decide +kernel
theorem dX5_actsApplyingTo_8 : decode cX5_actsApplyingTo 8 = .ok (.iconst 0, 1) := by decide +kernel
theorem dX5_actsApplyingTo_9 : decode cX5_actsApplyingTo 9 = .ok (.istore 4, 2) := by decide +kernel
theorem dX5_actsApplyingTo_11 : decode cX5_actsApplyingTo 11 = .ok (.iload 4, 2) := by decide +kernel
theorem dX5_actsApplyingTo_13 : decode cX5_actsApplyingTo 13 = .ok (.aload_n 0, 1) := by decide +kernel
theorem dX5_actsApplyingTo_14 : decode cX5_actsApplyingTo 14 = .ok (.getfield 11, 3) := by decide +kernel
theorem dX5_actsApplyingTo_17 : decode cX5_actsApplyingTo 17 = .ok (.arraylength, 1) := by decide +kernel
theorem dX5_actsApplyingTo_18 : decode cX5_actsApplyingTo 18 = .ok (.if_icmp .ge 49, 3) := by decide +kernel
theorem dX5_actsApplyingTo_21 : decode cX5_actsApplyingTo 21 = .ok (.aload_n 0, 1) := by decide +kernel
theorem dX5_actsApplyingTo_22 : decode cX5_actsApplyingTo 22 = .ok (.getfield 11, 3) := by decide +kernel
theorem dX5_actsApplyingTo_25 : decode cX5_actsApplyingTo 25 = .ok (.iload 4, 2) := by decide +kernel
theorem dX5_actsApplyingTo_27 : decode cX5_actsApplyingTo 27 = .ok (.aaload, 1) := by decide +kernel
theorem dX5_actsApplyingTo_28 : decode cX5_actsApplyingTo 28 = .ok (.astore 5, 2) := by decide +kernel
theorem dX5_actsApplyingTo_30 : decode cX5_actsApplyingTo 30 = .ok (.aload 5, 2) := by decide +kernel
theorem dX5_actsApplyingTo_32 : decode cX5_actsApplyingTo 32 = .ok (.ifnull 29, 3) := by decide +kernel
theorem dX5_actsApplyingTo_35 : decode cX5_actsApplyingTo 35 = .ok (.iload_n 2, 1) := by decide +kernel
theorem dX5_actsApplyingTo_36 : decode cX5_actsApplyingTo 36 = .ok (.iload 4, 2) := by decide +kernel
theorem dX5_actsApplyingTo_38 : decode cX5_actsApplyingTo 38 = .ok (.invokestatic 70, 3) := by decide +kernel
theorem dX5_actsApplyingTo_41 : decode cX5_actsApplyingTo 41 = .ok (.ifCond .eq 20, 3) := by decide +kernel
theorem dX5_actsApplyingTo_44 : decode cX5_actsApplyingTo 44 = .ok (.aload 5, 2) := by decide +kernel
theorem dX5_actsApplyingTo_46 : decode cX5_actsApplyingTo 46 = .ok (.getfield 76, 3) := by decide +kernel
theorem dX5_actsApplyingTo_49 : decode cX5_actsApplyingTo 49 = .ok (.iload_n 2, 1) := by decide +kernel
theorem dX5_actsApplyingTo_50 : decode cX5_actsApplyingTo 50 = .ok (.iand, 1) := by decide +kernel
theorem dX5_actsApplyingTo_51 : decode cX5_actsApplyingTo 51 = .ok (.ifCond .ne 10, 3) := by decide +kernel
theorem dX5_actsApplyingTo_54 : decode cX5_actsApplyingTo 54 = .ok (.iload_n 3, 1) := by decide +kernel
theorem dX5_actsApplyingTo_55 : decode cX5_actsApplyingTo 55 = .ok (.iconst 1, 1) := by decide +kernel
theorem dX5_actsApplyingTo_56 : decode cX5_actsApplyingTo 56 = .ok (.iload 4, 2) := by decide +kernel
theorem dX5_actsApplyingTo_58 : decode cX5_actsApplyingTo 58 = .ok (.ishl, 1) := by decide +kernel
theorem dX5_actsApplyingTo_59 : decode cX5_actsApplyingTo 59 = .ok (.ior, 1) := by decide +kernel
theorem dX5_actsApplyingTo_60 : decode cX5_actsApplyingTo 60 = .ok (.istore_n 3, 1) := by decide +kernel
theorem dX5_actsApplyingTo_61 : decode cX5_actsApplyingTo 61 = .ok (.iinc 4 1, 3) := by decide +kernel
theorem dX5_actsApplyingTo_64 : decode cX5_actsApplyingTo 64 = .ok (.goto (-53), 3) := by decide +kernel
theorem dX5_actsApplyingTo_67 : decode cX5_actsApplyingTo 67 = .ok (.iload_n 3, 1) := by decide +kernel
theorem dX5_actsApplyingTo_68 : decode cX5_actsApplyingTo 68 = .ok (.ireturn, 1) := by decide +kernel
theorem dX5_hazardsDemanded_0 : decode cX5_hazardsDemanded 0 = .ok (.aload_n 0, 1) := by decide +kernel
theorem dX5_hazardsDemanded_1 : decode cX5_hazardsDemanded 1 = .ok (.aload_n 1, 1) := by decide +kernel
theorem dX5_hazardsDemanded_2 : decode cX5_hazardsDemanded 2 = .ok (.invokevirtual 245, 3) := by decide +kernel
theorem dX5_hazardsDemanded_5 : decode cX5_hazardsDemanded 5 = .ok (.istore_n 2, 1) := by decide +kernel
theorem dX5_hazardsDemanded_6 : decode cX5_hazardsDemanded 6 = .ok (.iconst 0, 1) := by decide +kernel
theorem dX5_hazardsDemanded_7 : decode cX5_hazardsDemanded 7 = .ok (.istore_n 3, 1) := by decide +kernel
theorem dX5_hazardsDemanded_8 : decode cX5_hazardsDemanded 8 = .ok (.iconst 0, 1) := by decide +kernel
theorem dX5_hazardsDemanded_9 : decode cX5_hazardsDemanded 9 = .ok (.istore 4, 2) := by decide +kernel
theorem dX5_hazardsDemanded_11 : decode cX5_hazardsDemanded 11 = .ok (.iload 4, 2) := by decide +kernel
theorem dX5_hazardsDemanded_13 : decode cX5_hazardsDemanded 13 = .ok (.aload_n 0, 1) := by decide +kernel
theorem dX5_hazardsDemanded_14 : decode cX5_hazardsDemanded 14 = .ok (.getfield 11, 3) := by decide +kernel
theorem dX5_hazardsDemanded_17 : decode cX5_hazardsDemanded 17 = .ok (.arraylength, 1) := by decide +kernel
theorem dX5_hazardsDemanded_18 : decode cX5_hazardsDemanded 18 = .ok (.if_icmp .ge 40, 3) := by decide +kernel
theorem dX5_hazardsDemanded_21 : decode cX5_hazardsDemanded 21 = .ok (.aload_n 0, 1) := by decide +kernel
theorem dX5_hazardsDemanded_22 : decode cX5_hazardsDemanded 22 = .ok (.getfield 11, 3) := by decide +kernel
theorem dX5_hazardsDemanded_25 : decode cX5_hazardsDemanded 25 = .ok (.iload 4, 2) := by decide +kernel
theorem dX5_hazardsDemanded_27 : decode cX5_hazardsDemanded 27 = .ok (.aaload, 1) := by decide +kernel
theorem dX5_hazardsDemanded_28 : decode cX5_hazardsDemanded 28 = .ok (.astore 5, 2) := by decide +kernel
theorem dX5_hazardsDemanded_30 : decode cX5_hazardsDemanded 30 = .ok (.aload 5, 2) := by decide +kernel
theorem dX5_hazardsDemanded_32 : decode cX5_hazardsDemanded 32 = .ok (.ifnull 20, 3) := by decide +kernel
theorem dX5_hazardsDemanded_35 : decode cX5_hazardsDemanded 35 = .ok (.iload_n 2, 1) := by decide +kernel
theorem dX5_hazardsDemanded_36 : decode cX5_hazardsDemanded 36 = .ok (.iload 4, 2) := by decide +kernel
theorem dX5_hazardsDemanded_38 : decode cX5_hazardsDemanded 38 = .ok (.invokestatic 70, 3) := by decide +kernel
theorem dX5_hazardsDemanded_41 : decode cX5_hazardsDemanded 41 = .ok (.ifCond .eq 11, 3) := by decide +kernel
theorem dX5_hazardsDemanded_44 : decode cX5_hazardsDemanded 44 = .ok (.iload_n 3, 1) := by decide +kernel
theorem dX5_hazardsDemanded_45 : decode cX5_hazardsDemanded 45 = .ok (.aload 5, 2) := by decide +kernel
theorem dX5_hazardsDemanded_47 : decode cX5_hazardsDemanded 47 = .ok (.getfield 298, 3) := by decide +kernel
theorem dX5_hazardsDemanded_50 : decode cX5_hazardsDemanded 50 = .ok (.ior, 1) := by decide +kernel
theorem dX5_hazardsDemanded_51 : decode cX5_hazardsDemanded 51 = .ok (.istore_n 3, 1) := by decide +kernel
theorem dX5_hazardsDemanded_52 : decode cX5_hazardsDemanded 52 = .ok (.iinc 4 1, 3) := by decide +kernel
theorem dX5_hazardsDemanded_55 : decode cX5_hazardsDemanded 55 = .ok (.goto (-44), 3) := by decide +kernel
theorem dX5_hazardsDemanded_58 : decode cX5_hazardsDemanded 58 = .ok (.iload_n 3, 1) := by decide +kernel
theorem dX5_hazardsDemanded_59 : decode cX5_hazardsDemanded 59 = .ok (.aload_n 1, 1) := by decide +kernel
theorem dX5_hazardsDemanded_60 : decode cX5_hazardsDemanded 60 = .ok (.iconst 0, 1) := by decide +kernel
theorem dX5_hazardsDemanded_61 : decode cX5_hazardsDemanded 61 = .ok (.invokevirtual 301, 3) := by decide +kernel
theorem dX5_hazardsDemanded_64 : decode cX5_hazardsDemanded 64 = .ok (.iand, 1) := by decide +kernel
theorem dX5_hazardsDemanded_65 : decode cX5_hazardsDemanded 65 = .ok (.ireturn, 1) := by decide +kernel
theorem dX5_hazardsKept_0 : decode cX5_hazardsKept 0 = .ok (.aload_n 1, 1) := by decide +kernel
theorem dX5_hazardsKept_1 : decode cX5_hazardsKept 1 = .ok (.getfield 134, 3) := by decide +kernel
theorem dX5_hazardsKept_4 : decode cX5_hazardsKept 4 = .ok (.istore_n 3, 1) := by decide +kernel
theorem dX5_hazardsKept_5 : decode cX5_hazardsKept 5 = .ok (.iconst 0, 1) := by decide +kernel
theorem dX5_hazardsKept_6 : decode cX5_hazardsKept 6 = .ok (.istore 4, 2) := by decide +kernel
theorem dX5_hazardsKept_8 : decode cX5_hazardsKept 8 = .ok (.iload 4, 2) := by decide +kernel
theorem dX5_hazardsKept_10 : decode cX5_hazardsKept 10 = .ok (.aload_n 0, 1) := by decide +kernel
theorem dX5_hazardsKept_11 : decode cX5_hazardsKept 11 = .ok (.getfield 17, 3) := by decide +kernel
theorem dX5_hazardsKept_14 : decode cX5_hazardsKept 14 = .ok (.arraylength, 1) := by decide +kernel
theorem dX5_hazardsKept_15 : decode cX5_hazardsKept 15 = .ok (.if_icmp .ge 61, 3) := by decide +kernel
theorem dX5_hazardsKept_18 : decode cX5_hazardsKept 18 = .ok (.iload 4, 2) := by decide +kernel
theorem dX5_hazardsKept_20 : decode cX5_hazardsKept 20 = .ok (.aload_n 1, 1) := by decide +kernel
theorem dX5_hazardsKept_21 : decode cX5_hazardsKept 21 = .ok (.getfield 131, 3) := by decide +kernel
theorem dX5_hazardsKept_24 : decode cX5_hazardsKept 24 = .ok (.arraylength, 1) := by decide +kernel
theorem dX5_hazardsKept_25 : decode cX5_hazardsKept 25 = .ok (.if_icmp .ge 51, 3) := by decide +kernel
theorem dX5_hazardsKept_28 : decode cX5_hazardsKept 28 = .ok (.aload_n 0, 1) := by decide +kernel
theorem dX5_hazardsKept_29 : decode cX5_hazardsKept 29 = .ok (.getfield 17, 3) := by decide +kernel
theorem dX5_hazardsKept_32 : decode cX5_hazardsKept 32 = .ok (.iload 4, 2) := by decide +kernel
theorem dX5_hazardsKept_34 : decode cX5_hazardsKept 34 = .ok (.aaload, 1) := by decide +kernel
theorem dX5_hazardsKept_35 : decode cX5_hazardsKept 35 = .ok (.astore 5, 2) := by decide +kernel
theorem dX5_hazardsKept_37 : decode cX5_hazardsKept 37 = .ok (.aload 5, 2) := by decide +kernel
theorem dX5_hazardsKept_39 : decode cX5_hazardsKept 39 = .ok (.ifnull 31, 3) := by decide +kernel
theorem dX5_hazardsKept_42 : decode cX5_hazardsKept 42 = .ok (.aload 5, 2) := by decide +kernel
theorem dX5_hazardsKept_44 : decode cX5_hazardsKept 44 = .ok (.aload_n 0, 1) := by decide +kernel
theorem dX5_hazardsKept_45 : decode cX5_hazardsKept 45 = .ok (.getfield 91, 3) := by decide +kernel
theorem dX5_hazardsKept_48 : decode cX5_hazardsKept 48 = .ok (.invokevirtual 304, 3) := by decide +kernel
theorem dX5_hazardsKept_51 : decode cX5_hazardsKept 51 = .ok (.ifCond .eq 19, 3) := by decide +kernel
theorem dX5_hazardsKept_54 : decode cX5_hazardsKept 54 = .ok (.iload_n 3, 1) := by decide +kernel
theorem dX5_hazardsKept_55 : decode cX5_hazardsKept 55 = .ok (.aload_n 1, 1) := by decide +kernel
theorem dX5_hazardsKept_56 : decode cX5_hazardsKept 56 = .ok (.getfield 131, 3) := by decide +kernel
theorem dX5_hazardsKept_59 : decode cX5_hazardsKept 59 = .ok (.iload 4, 2) := by decide +kernel
theorem dX5_hazardsKept_61 : decode cX5_hazardsKept 61 = .ok (.iaload, 1) := by decide +kernel
theorem dX5_hazardsKept_62 : decode cX5_hazardsKept 62 = .ok (.aload 5, 2) := by decide +kernel
theorem dX5_hazardsKept_64 : decode cX5_hazardsKept 64 = .ok (.getfield 97, 3) := by decide +kernel
theorem dX5_hazardsKept_67 : decode cX5_hazardsKept 67 = .ok (.iand, 1) := by decide +kernel
theorem dX5_hazardsKept_68 : decode cX5_hazardsKept 68 = .ok (.ior, 1) := by decide +kernel
theorem dX5_hazardsKept_69 : decode cX5_hazardsKept 69 = .ok (.istore_n 3, 1) := by decide +kernel
theorem dX5_hazardsKept_70 : decode cX5_hazardsKept 70 = .ok (.iinc 4 1, 3) := by decide +kernel
theorem dX5_hazardsKept_73 : decode cX5_hazardsKept 73 = .ok (.goto (-65), 3) := by decide +kernel
theorem dX5_hazardsKept_76 : decode cX5_hazardsKept 76 = .ok (.iload_n 2, 1) := by decide +kernel
theorem dX5_hazardsKept_77 : decode cX5_hazardsKept 77 = .ok (.iload_n 3, 1) := by decide +kernel
theorem dX5_hazardsKept_78 : decode cX5_hazardsKept 78 = .ok (.iand, 1) := by decide +kernel
theorem dX5_hazardsKept_79 : decode cX5_hazardsKept 79 = .ok (.aload_n 1, 1) := by decide +kernel
theorem dX5_hazardsKept_80 : decode cX5_hazardsKept 80 = .ok (.iconst 4, 1) := by decide +kernel
theorem dX5_hazardsKept_81 : decode cX5_hazardsKept 81 = .ok (.invokevirtual 307, 3) := by decide +kernel
theorem dX5_hazardsKept_84 : decode cX5_hazardsKept 84 = .ok (.iconst (-1), 1) := by decide +kernel
theorem dX5_hazardsKept_85 : decode cX5_hazardsKept 85 = .ok (.ixor, 1) := by decide +kernel
theorem dX5_hazardsKept_86 : decode cX5_hazardsKept 86 = .ok (.iand, 1) := by decide +kernel
theorem dX5_hazardsKept_87 : decode cX5_hazardsKept 87 = .ok (.ireturn, 1) := by decide +kernel
theorem dX5_wayOf_0 : decode cX5_wayOf 0 = .ok (.iload_n 2, 1) := by decide +kernel
theorem dX5_wayOf_1 : decode cX5_wayOf 1 = .ok (.aload_n 1, 1) := by decide +kernel
theorem dX5_wayOf_2 : decode cX5_wayOf 2 = .ok (.bipush 6, 2) := by decide +kernel
theorem dX5_wayOf_4 : decode cX5_wayOf 4 = .ok (.invokevirtual 301, 3) := by decide +kernel
theorem dX5_wayOf_7 : decode cX5_wayOf 7 = .ok (.iand, 1) := by decide +kernel
theorem dX5_wayOf_8 : decode cX5_wayOf 8 = .ok (.ifCond .eq 5, 3) := by decide +kernel
theorem dX5_wayOf_11 : decode cX5_wayOf 11 = .ok (.iconst 2, 1) := by decide +kernel
theorem dX5_wayOf_12 : decode cX5_wayOf 12 = .ok (.ireturn, 1) := by decide +kernel
theorem dX5_wayOf_13 : decode cX5_wayOf 13 = .ok (.iload_n 2, 1) := by decide +kernel
theorem dX5_wayOf_14 : decode cX5_wayOf 14 = .ok (.aload_n 1, 1) := by decide +kernel
theorem dX5_wayOf_15 : decode cX5_wayOf 15 = .ok (.iconst 3, 1) := by decide +kernel
theorem dX5_wayOf_16 : decode cX5_wayOf 16 = .ok (.invokevirtual 301, 3) := by decide +kernel
theorem dX5_wayOf_19 : decode cX5_wayOf 19 = .ok (.iand, 1) := by decide +kernel
theorem dX5_wayOf_20 : decode cX5_wayOf 20 = .ok (.ifCond .eq 7, 3) := by decide +kernel
theorem dX5_wayOf_23 : decode cX5_wayOf 23 = .ok (.iconst 1, 1) := by decide +kernel
theorem dX5_wayOf_24 : decode cX5_wayOf 24 = .ok (.goto 4, 3) := by decide +kernel
theorem dX5_wayOf_27 : decode cX5_wayOf 27 = .ok (.iconst 0, 1) := by decide +kernel
theorem dX5_wayOf_28 : decode cX5_wayOf 28 = .ok (.ireturn, 1) := by decide +kernel
theorem dX5_firstLack_0 : decode cX5_firstLack 0 = .ok (.aload_n 0, 1) := by decide +kernel
theorem dX5_firstLack_1 : decode cX5_firstLack 1 = .ok (.aload_n 1, 1) := by decide +kernel
theorem dX5_firstLack_2 : decode cX5_firstLack 2 = .ok (.invokevirtual 248, 3) := by decide +kernel
theorem dX5_firstLack_5 : decode cX5_firstLack 5 = .ok (.istore_n 2, 1) := by decide +kernel
theorem dX5_firstLack_6 : decode cX5_firstLack 6 = .ok (.aload_n 0, 1) := by decide +kernel
theorem dX5_firstLack_7 : decode cX5_firstLack 7 = .ok (.aload_n 1, 1) := by decide +kernel
theorem dX5_firstLack_8 : decode cX5_firstLack 8 = .ok (.iload_n 2, 1) := by decide +kernel
theorem dX5_firstLack_9 : decode cX5_firstLack 9 = .ok (.invokevirtual 255, 3) := by decide +kernel
theorem dX5_firstLack_12 : decode cX5_firstLack 12 = .ok (.istore_n 3, 1) := by decide +kernel
theorem dX5_firstLack_13 : decode cX5_firstLack 13 = .ok (.aload_n 1, 1) := by decide +kernel
theorem dX5_firstLack_14 : decode cX5_firstLack 14 = .ok (.getfield 234, 3) := by decide +kernel
theorem dX5_firstLack_17 : decode cX5_firstLack 17 = .ok (.invokestatic 237, 3) := by decide +kernel
theorem dX5_firstLack_20 : decode cX5_firstLack 20 = .ok (.iconst 3, 1) := by decide +kernel
theorem dX5_firstLack_21 : decode cX5_firstLack 21 = .ok (.if_icmp .lt 5, 3) := by decide +kernel
theorem dX5_firstLack_24 : decode cX5_firstLack 24 = .ok (.iconst 1, 1) := by decide +kernel
theorem dX5_firstLack_25 : decode cX5_firstLack 25 = .ok (.ireturn, 1) := by decide +kernel
theorem dX5_firstLack_26 : decode cX5_firstLack 26 = .ok (.iload_n 2, 1) := by decide +kernel
theorem dX5_firstLack_27 : decode cX5_firstLack 27 = .ok (.aload_n 1, 1) := by decide +kernel
theorem dX5_firstLack_28 : decode cX5_firstLack 28 = .ok (.iconst 4, 1) := by decide +kernel
theorem dX5_firstLack_29 : decode cX5_firstLack 29 = .ok (.invokevirtual 307, 3) := by decide +kernel
theorem dX5_firstLack_32 : decode cX5_firstLack 32 = .ok (.iand, 1) := by decide +kernel
theorem dX5_firstLack_33 : decode cX5_firstLack 33 = .ok (.ifCond .eq 5, 3) := by decide +kernel
theorem dX5_firstLack_36 : decode cX5_firstLack 36 = .ok (.iconst 2, 1) := by decide +kernel
theorem dX5_firstLack_37 : decode cX5_firstLack 37 = .ok (.ireturn, 1) := by decide +kernel
theorem dX5_firstLack_38 : decode cX5_firstLack 38 = .ok (.aload_n 0, 1) := by decide +kernel
theorem dX5_firstLack_39 : decode cX5_firstLack 39 = .ok (.aload_n 1, 1) := by decide +kernel
theorem dX5_firstLack_40 : decode cX5_firstLack 40 = .ok (.iload_n 2, 1) := by decide +kernel
theorem dX5_firstLack_41 : decode cX5_firstLack 41 = .ok (.invokevirtual 251, 3) := by decide +kernel
theorem dX5_firstLack_44 : decode cX5_firstLack 44 = .ok (.iload_n 2, 1) := by decide +kernel
theorem dX5_firstLack_45 : decode cX5_firstLack 45 = .ok (.if_icmp .eq 5, 3) := by decide +kernel
theorem dX5_firstLack_48 : decode cX5_firstLack 48 = .ok (.iconst 3, 1) := by decide +kernel
theorem dX5_firstLack_49 : decode cX5_firstLack 49 = .ok (.ireturn, 1) := by decide +kernel
theorem dX5_firstLack_50 : decode cX5_firstLack 50 = .ok (.iload_n 3, 1) := by decide +kernel
theorem dX5_firstLack_51 : decode cX5_firstLack 51 = .ok (.ifCond .eq 13, 3) := by decide +kernel
theorem dX5_firstLack_54 : decode cX5_firstLack 54 = .ok (.aload_n 0, 1) := by decide +kernel
theorem dX5_firstLack_55 : decode cX5_firstLack 55 = .ok (.aload_n 1, 1) := by decide +kernel
theorem dX5_firstLack_56 : decode cX5_firstLack 56 = .ok (.invokevirtual 310, 3) := by decide +kernel
theorem dX5_firstLack_59 : decode cX5_firstLack 59 = .ok (.ifCond .ne 5, 3) := by decide +kernel
theorem dX5_firstLack_62 : decode cX5_firstLack 62 = .ok (.iconst 4, 1) := by decide +kernel
theorem dX5_firstLack_63 : decode cX5_firstLack 63 = .ok (.ireturn, 1) := by decide +kernel
theorem dX5_firstLack_64 : decode cX5_firstLack 64 = .ok (.iload_n 3, 1) := by decide +kernel
theorem dX5_firstLack_65 : decode cX5_firstLack 65 = .ok (.iconst 2, 1) := by decide +kernel
theorem dX5_firstLack_66 : decode cX5_firstLack 66 = .ok (.if_icmp .ne 16, 3) := by decide +kernel
theorem dX5_firstLack_69 : decode cX5_firstLack 69 = .ok (.aload_n 1, 1) := by decide +kernel
theorem dX5_firstLack_70 : decode cX5_firstLack 70 = .ok (.aload_n 0, 1) := by decide +kernel
theorem dX5_firstLack_71 : decode cX5_firstLack 71 = .ok (.getfield 91, 3) := by decide +kernel
theorem dX5_firstLack_74 : decode cX5_firstLack 74 = .ok (.invokevirtual 314, 3) := by decide +kernel
theorem dX5_firstLack_77 : decode cX5_firstLack 77 = .ok (.ifCond .ne 5, 3) := by decide +kernel
theorem dX5_firstLack_80 : decode cX5_firstLack 80 = .ok (.iconst 5, 1) := by decide +kernel
theorem dX5_firstLack_81 : decode cX5_firstLack 81 = .ok (.ireturn, 1) := by decide +kernel
theorem dX5_firstLack_82 : decode cX5_firstLack 82 = .ok (.iload_n 2, 1) := by decide +kernel
theorem dX5_firstLack_83 : decode cX5_firstLack 83 = .ok (.ifCond .eq 16, 3) := by decide +kernel
theorem dX5_firstLack_86 : decode cX5_firstLack 86 = .ok (.aload_n 1, 1) := by decide +kernel
theorem dX5_firstLack_87 : decode cX5_firstLack 87 = .ok (.getfield 143, 3) := by decide +kernel
theorem dX5_firstLack_90 : decode cX5_firstLack 90 = .ok (.iconst (-1), 1) := by decide +kernel
theorem dX5_firstLack_91 : decode cX5_firstLack 91 = .ok (.if_icmp .ne 8, 3) := by decide +kernel
theorem dX5_firstLack_94 : decode cX5_firstLack 94 = .ok (.bipush 6, 2) := by decide +kernel
theorem dX5_firstLack_96 : decode cX5_firstLack 96 = .ok (.goto 4, 3) := by decide +kernel
theorem dX5_firstLack_99 : decode cX5_firstLack 99 = .ok (.iconst 0, 1) := by decide +kernel
theorem dX5_firstLack_100 : decode cX5_firstLack 100 = .ok (.ireturn, 1) := by decide +kernel
theorem dX5_holdsCertificate_0 : decode cX5_holdsCertificate 0 = .ok (.aload_n 1, 1) := by decide +kernel
theorem dX5_holdsCertificate_1 : decode cX5_holdsCertificate 1 = .ok (.getfield 169, 3) := by decide +kernel
theorem dX5_holdsCertificate_4 : decode cX5_holdsCertificate 4 = .ok (.astore_n 2, 1) := by decide +kernel
theorem dX5_holdsCertificate_5 : decode cX5_holdsCertificate 5 = .ok (.aload_n 2, 1) := by decide +kernel
theorem dX5_holdsCertificate_6 : decode cX5_holdsCertificate 6 = .ok (.ifnull 41, 3) := by decide +kernel
theorem dX5_holdsCertificate_9 : decode cX5_holdsCertificate 9 = .ok (.aload_n 0, 1) := by decide +kernel
theorem dX5_holdsCertificate_10 : decode cX5_holdsCertificate 10 = .ok (.getfield 91, 3) := by decide +kernel
theorem dX5_holdsCertificate_13 : decode cX5_holdsCertificate 13 = .ok (.aload_n 1, 1) := by decide +kernel
theorem dX5_holdsCertificate_14 : decode cX5_holdsCertificate 14 = .ok (.getfield 173, 3) := by decide +kernel
theorem dX5_holdsCertificate_17 : decode cX5_holdsCertificate 17 = .ok (.if_icmp .gt 30, 3) := by decide +kernel
theorem dX5_holdsCertificate_20 : decode cX5_holdsCertificate 20 = .ok (.aload_n 2, 1) := by decide +kernel
theorem dX5_holdsCertificate_21 : decode cX5_holdsCertificate 21 = .ok (.aload_n 0, 1) := by decide +kernel
theorem dX5_holdsCertificate_22 : decode cX5_holdsCertificate 22 = .ok (.aload_n 1, 1) := by decide +kernel
theorem dX5_holdsCertificate_23 : decode cX5_holdsCertificate 23 = .ok (.invokevirtual 245, 3) := by decide +kernel
theorem dX5_holdsCertificate_26 : decode cX5_holdsCertificate 26 = .ok (.invokevirtual 287, 3) := by decide +kernel
theorem dX5_holdsCertificate_29 : decode cX5_holdsCertificate 29 = .ok (.ifCond .eq 18, 3) := by decide +kernel
theorem dX5_holdsCertificate_32 : decode cX5_holdsCertificate 32 = .ok (.aload_n 2, 1) := by decide +kernel
theorem dX5_holdsCertificate_33 : decode cX5_holdsCertificate 33 = .ok (.aload_n 0, 1) := by decide +kernel
theorem dX5_holdsCertificate_34 : decode cX5_holdsCertificate 34 = .ok (.getfield 91, 3) := by decide +kernel
theorem dX5_holdsCertificate_37 : decode cX5_holdsCertificate 37 = .ok (.invokevirtual 317, 3) := by decide +kernel
theorem dX5_holdsCertificate_40 : decode cX5_holdsCertificate 40 = .ok (.ifCond .eq 7, 3) := by decide +kernel
theorem dX5_holdsCertificate_43 : decode cX5_holdsCertificate 43 = .ok (.iconst 1, 1) := by decide +kernel
theorem dX5_holdsCertificate_44 : decode cX5_holdsCertificate 44 = .ok (.goto 4, 3) := by decide +kernel
theorem dX5_holdsCertificate_47 : decode cX5_holdsCertificate 47 = .ok (.iconst 0, 1) := by decide +kernel
theorem dX5_holdsCertificate_48 : decode cX5_holdsCertificate 48 = .ok (.ireturn, 1) := by decide +kernel
theorem dX5_addBatch_0 : decode cX5_addBatch 0 = .ok (.aload_n 0, 1) := by decide +kernel
theorem dX5_addBatch_1 : decode cX5_addBatch 1 = .ok (.getfield 320, 3) := by decide +kernel
theorem dX5_addBatch_4 : decode cX5_addBatch 4 = .ok (.ifCond .lt 15, 3) := by decide +kernel
theorem dX5_addBatch_7 : decode cX5_addBatch 7 = .ok (.aload_n 0, 1) := by decide +kernel
theorem dX5_addBatch_8 : decode cX5_addBatch 8 = .ok (.getfield 320, 3) := by decide +kernel
theorem dX5_addBatch_11 : decode cX5_addBatch 11 = .ok (.aload_n 0, 1) := by decide +kernel
theorem dX5_addBatch_12 : decode cX5_addBatch 12 = .ok (.getfield 35, 3) := by decide +kernel
theorem dX5_addBatch_15 : decode cX5_addBatch 15 = .ok (.arraylength, 1) := by decide +kernel
theorem dX5_addBatch_16 : decode cX5_addBatch 16 = .ok (.if_icmp .lt 14, 3) := by decide +kernel
theorem dX5_addBatch_19 : decode cX5_addBatch 19 = .ok (.new 47, 3) := by decide +kernel
theorem dX5_addBatch_22 : decode cX5_addBatch 22 = .ok (.dup, 1) := by decide +kernel
theorem dX5_addBatch_23 : decode cX5_addBatch 23 = .ok (.ldc_w 323, 3) := by decide +kernel
theorem dX5_addBatch_26 : decode cX5_addBatch 26 = .ok (.invokespecial 51, 3) := by decide +kernel
theorem dX5_addBatch_29 : decode cX5_addBatch 29 = .ok (.athrow, 1) := by decide +kernel
theorem dX5_addBatch_30 : decode cX5_addBatch 30 = .ok (.aload_n 0, 1) := by decide +kernel
theorem dX5_addBatch_31 : decode cX5_addBatch 31 = .ok (.getfield 35, 3) := by decide +kernel
theorem dX5_addBatch_34 : decode cX5_addBatch 34 = .ok (.aload_n 0, 1) := by decide +kernel
theorem dX5_addBatch_35 : decode cX5_addBatch 35 = .ok (.getfield 320, 3) := by decide +kernel
theorem dX5_addBatch_38 : decode cX5_addBatch 38 = .ok (.new 33, 3) := by decide +kernel
theorem dX5_addBatch_41 : decode cX5_addBatch 41 = .ok (.dup, 1) := by decide +kernel
theorem dX5_addBatch_42 : decode cX5_addBatch 42 = .ok (.iload_n 1, 1) := by decide +kernel
theorem dX5_addBatch_43 : decode cX5_addBatch 43 = .ok (.iload_n 3, 1) := by decide +kernel
theorem dX5_addBatch_44 : decode cX5_addBatch 44 = .ok (.aload_n 0, 1) := by decide +kernel
theorem dX5_addBatch_45 : decode cX5_addBatch 45 = .ok (.getfield 91, 3) := by decide +kernel
theorem dX5_addBatch_48 : decode cX5_addBatch 48 = .ok (.aload_n 2, 1) := by decide +kernel
theorem dX5_addBatch_49 : decode cX5_addBatch 49 = .ok (.getfield 118, 3) := by decide +kernel
theorem dX5_addBatch_52 : decode cX5_addBatch 52 = .ok (.aload_n 0, 1) := by decide +kernel
theorem dX5_addBatch_53 : decode cX5_addBatch 53 = .ok (.aload_n 2, 1) := by decide +kernel
theorem dX5_addBatch_54 : decode cX5_addBatch 54 = .ok (.invokevirtual 137, 3) := by decide +kernel
theorem dX5_addBatch_57 : decode cX5_addBatch 57 = .ok (.invokespecial 325, 3) := by decide +kernel
theorem dX5_addBatch_60 : decode cX5_addBatch 60 = .ok (.aastore, 1) := by decide +kernel
theorem dX5_addBatch_61 : decode cX5_addBatch 61 = .ok (.aload_n 0, 1) := by decide +kernel
theorem dX5_addBatch_62 : decode cX5_addBatch 62 = .ok (.dup, 1) := by decide +kernel
theorem dX5_addBatch_63 : decode cX5_addBatch 63 = .ok (.getfield 320, 3) := by decide +kernel
theorem dX5_addBatch_66 : decode cX5_addBatch 66 = .ok (.dup_x1, 1) := by decide +kernel
theorem dX5_addBatch_67 : decode cX5_addBatch 67 = .ok (.iconst 1, 1) := by decide +kernel
theorem dX5_addBatch_68 : decode cX5_addBatch 68 = .ok (.iadd, 1) := by decide +kernel
theorem dX5_addBatch_69 : decode cX5_addBatch 69 = .ok (.putfield 320, 3) := by decide +kernel
theorem dX5_addBatch_72 : decode cX5_addBatch 72 = .ok (.ireturn, 1) := by decide +kernel
theorem dX5_unitsOnMarket_0 : decode cX5_unitsOnMarket 0 = .ok (.iconst 0, 1) := by decide +kernel
theorem dX5_unitsOnMarket_1 : decode cX5_unitsOnMarket 1 = .ok (.istore_n 2, 1) := by decide +kernel
theorem dX5_unitsOnMarket_2 : decode cX5_unitsOnMarket 2 = .ok (.aload_n 0, 1) := by decide +kernel
theorem dX5_unitsOnMarket_3 : decode cX5_unitsOnMarket 3 = .ok (.getfield 35, 3) := by decide +kernel
theorem dX5_unitsOnMarket_6 : decode cX5_unitsOnMarket 6 = .ok (.astore_n 3, 1) := by decide +kernel
theorem dX5_unitsOnMarket_7 : decode cX5_unitsOnMarket 7 = .ok (.aload_n 3, 1) := by decide +kernel
theorem dX5_unitsOnMarket_8 : decode cX5_unitsOnMarket 8 = .ok (.arraylength, 1) := by decide +kernel
theorem dX5_unitsOnMarket_9 : decode cX5_unitsOnMarket 9 = .ok (.istore 4, 2) := by decide +kernel
theorem dX5_unitsOnMarket_11 : decode cX5_unitsOnMarket 11 = .ok (.iconst 0, 1) := by decide +kernel
theorem dX5_unitsOnMarket_12 : decode cX5_unitsOnMarket 12 = .ok (.istore 5, 2) := by decide +kernel
theorem dX5_unitsOnMarket_14 : decode cX5_unitsOnMarket 14 = .ok (.iload 5, 2) := by decide +kernel
theorem dX5_unitsOnMarket_16 : decode cX5_unitsOnMarket 16 = .ok (.iload 4, 2) := by decide +kernel
theorem dX5_unitsOnMarket_18 : decode cX5_unitsOnMarket 18 = .ok (.if_icmp .ge 37, 3) := by decide +kernel
theorem dX5_unitsOnMarket_21 : decode cX5_unitsOnMarket 21 = .ok (.aload_n 3, 1) := by decide +kernel
theorem dX5_unitsOnMarket_22 : decode cX5_unitsOnMarket 22 = .ok (.iload 5, 2) := by decide +kernel
theorem dX5_unitsOnMarket_24 : decode cX5_unitsOnMarket 24 = .ok (.aaload, 1) := by decide +kernel
theorem dX5_unitsOnMarket_25 : decode cX5_unitsOnMarket 25 = .ok (.astore 6, 2) := by decide +kernel
theorem dX5_unitsOnMarket_27 : decode cX5_unitsOnMarket 27 = .ok (.aload 6, 2) := by decide +kernel
theorem dX5_unitsOnMarket_29 : decode cX5_unitsOnMarket 29 = .ok (.ifnull 20, 3) := by decide +kernel
theorem dX5_unitsOnMarket_32 : decode cX5_unitsOnMarket 32 = .ok (.aload 6, 2) := by decide +kernel
theorem dX5_unitsOnMarket_34 : decode cX5_unitsOnMarket 34 = .ok (.iload_n 1, 1) := by decide +kernel
theorem dX5_unitsOnMarket_35 : decode cX5_unitsOnMarket 35 = .ok (.invokevirtual 219, 3) := by decide +kernel
theorem dX5_unitsOnMarket_38 : decode cX5_unitsOnMarket 38 = .ok (.ifCond .eq 11, 3) := by decide +kernel
theorem dX5_unitsOnMarket_41 : decode cX5_unitsOnMarket 41 = .ok (.iload_n 2, 1) := by decide +kernel
theorem dX5_unitsOnMarket_42 : decode cX5_unitsOnMarket 42 = .ok (.aload 6, 2) := by decide +kernel
theorem dX5_unitsOnMarket_44 : decode cX5_unitsOnMarket 44 = .ok (.getfield 226, 3) := by decide +kernel
theorem dX5_unitsOnMarket_47 : decode cX5_unitsOnMarket 47 = .ok (.iadd, 1) := by decide +kernel
theorem dX5_unitsOnMarket_48 : decode cX5_unitsOnMarket 48 = .ok (.istore_n 2, 1) := by decide +kernel
theorem dX5_unitsOnMarket_49 : decode cX5_unitsOnMarket 49 = .ok (.iinc 5 1, 3) := by decide +kernel
theorem dX5_unitsOnMarket_52 : decode cX5_unitsOnMarket 52 = .ok (.goto (-38), 3) := by decide +kernel
theorem dX5_unitsOnMarket_55 : decode cX5_unitsOnMarket 55 = .ok (.iload_n 2, 1) := by decide +kernel
theorem dX5_unitsOnMarket_56 : decode cX5_unitsOnMarket 56 = .ok (.ireturn, 1) := by decide +kernel
theorem dX6_init_0 : decode cX6_init 0 = .ok (.aload_n 0, 1) := by decide +kernel
theorem dX6_init_1 : decode cX6_init 1 = .ok (.invokespecial 1, 3) := by decide +kernel
theorem dX6_init_4 : decode cX6_init 4 = .ok (.aload_n 0, 1) := by decide +kernel
theorem dX6_init_5 : decode cX6_init 5 = .ok (.bipush 6, 2) := by decide +kernel
theorem dX6_init_7 : decode cX6_init 7 = .ok (.newarray .int, 2) := by decide +kernel
theorem dX6_init_9 : decode cX6_init 9 = .ok (.putfield 7, 3) := by decide +kernel
theorem dX6_init_12 : decode cX6_init 12 = .ok (.aload_n 0, 1) := by decide +kernel
theorem dX6_init_13 : decode cX6_init 13 = .ok (.bipush 6, 2) := by decide +kernel
theorem dX6_init_15 : decode cX6_init 15 = .ok (.newarray .int, 2) := by decide +kernel
theorem dX6_init_17 : decode cX6_init 17 = .ok (.putfield 13, 3) := by decide +kernel
theorem dX6_init_20 : decode cX6_init 20 = .ok (.aload_n 0, 1) := by decide +kernel
theorem dX6_init_21 : decode cX6_init 21 = .ok (.bipush 6, 2) := by decide +kernel
theorem dX6_init_23 : decode cX6_init 23 = .ok (.newarray .int, 2) := by decide +kernel
theorem dX6_init_25 : decode cX6_init 25 = .ok (.putfield 16, 3) := by decide +kernel
theorem dX6_init_28 : decode cX6_init 28 = .ok (.aload_n 0, 1) := by decide +kernel
theorem dX6_init_29 : decode cX6_init 29 = .ok (.bipush 6, 2) := by decide +kernel
theorem dX6_init_31 : decode cX6_init 31 = .ok (.newarray .int, 2) := by decide +kernel
theorem dX6_init_33 : decode cX6_init 33 = .ok (.putfield 19, 3) := by decide +kernel
theorem dX6_init_36 : decode cX6_init 36 = .ok (.aload_n 0, 1) := by decide +kernel
theorem dX6_init_37 : decode cX6_init 37 = .ok (.bipush 36, 2) := by decide +kernel
theorem dX6_init_39 : decode cX6_init 39 = .ok (.newarray .boolean, 2) := by decide +kernel
theorem dX6_init_41 : decode cX6_init 41 = .ok (.putfield 22, 3) := by decide +kernel
theorem dX6_init_44 : decode cX6_init 44 = .ok (.aload_n 0, 1) := by decide +kernel
theorem dX6_init_45 : decode cX6_init 45 = .ok (.bipush 6, 2) := by decide +kernel
theorem dX6_init_47 : decode cX6_init 47 = .ok (.newarray .boolean, 2) := by decide +kernel
theorem dX6_init_49 : decode cX6_init 49 = .ok (.putfield 26, 3) := by decide +kernel
theorem dX6_init_52 : decode cX6_init 52 = .ok (.aload_n 0, 1) := by decide +kernel
theorem dX6_init_53 : decode cX6_init 53 = .ok (.bipush 12, 2) := by decide +kernel
theorem dX6_init_55 : decode cX6_init 55 = .ok (.newarray .int, 2) := by decide +kernel
theorem dX6_init_57 : decode cX6_init 57 = .ok (.putfield 29, 3) := by decide +kernel
theorem dX6_init_60 : decode cX6_init 60 = .ok (.aload_n 0, 1) := by decide +kernel
theorem dX6_init_61 : decode cX6_init 61 = .ok (.bipush 12, 2) := by decide +kernel
theorem dX6_init_63 : decode cX6_init 63 = .ok (.newarray .int, 2) := by decide +kernel
theorem dX6_init_65 : decode cX6_init 65 = .ok (.putfield 32, 3) := by decide +kernel
theorem dX6_init_68 : decode cX6_init 68 = .ok (.aload_n 0, 1) := by decide +kernel
theorem dX6_init_69 : decode cX6_init 69 = .ok (.bipush 12, 2) := by decide +kernel
theorem dX6_init_71 : decode cX6_init 71 = .ok (.newarray .int, 2) := by decide +kernel
theorem dX6_init_73 : decode cX6_init 73 = .ok (.putfield 35, 3) := by decide +kernel
theorem dX6_init_76 : decode cX6_init 76 = .ok (.aload_n 0, 1) := by decide +kernel
theorem dX6_init_77 : decode cX6_init 77 = .ok (.bipush 10, 2) := by decide +kernel
theorem dX6_init_79 : decode cX6_init 79 = .ok (.newarray .int, 2) := by decide +kernel
theorem dX6_init_81 : decode cX6_init 81 = .ok (.putfield 38, 3) := by decide +kernel
theorem dX6_init_84 : decode cX6_init 84 = .ok (.aload_n 0, 1) := by decide +kernel
theorem dX6_init_85 : decode cX6_init 85 = .ok (.bipush 10, 2) := by decide +kernel
theorem dX6_init_87 : decode cX6_init 87 = .ok (.newarray .int, 2) := by decide +kernel
theorem dX6_init_89 : decode cX6_init 89 = .ok (.putfield 41, 3) := by decide +kernel
theorem dX6_init_92 : decode cX6_init 92 = .ok (.aload_n 0, 1) := by decide +kernel
theorem dX6_init_93 : decode cX6_init 93 = .ok (.bipush 80, 2) := by decide +kernel
theorem dX6_init_95 : decode cX6_init 95 = .ok (.newarray .int, 2) := by decide +kernel
theorem dX6_init_97 : decode cX6_init 97 = .ok (.putfield 44, 3) := by decide +kernel
theorem dX6_init_100 : decode cX6_init 100 = .ok (.aload_n 0, 1) := by decide +kernel
theorem dX6_init_101 : decode cX6_init 101 = .ok (.bipush 80, 2) := by decide +kernel
theorem dX6_init_103 : decode cX6_init 103 = .ok (.newarray .int, 2) := by decide +kernel
theorem dX6_init_105 : decode cX6_init 105 = .ok (.putfield 47, 3) := by decide +kernel
theorem dX6_init_108 : decode cX6_init 108 = .ok (.aload_n 0, 1) := by decide +kernel
theorem dX6_init_109 : decode cX6_init 109 = .ok (.bipush 120, 2) := by decide +kernel
theorem dX6_init_111 : decode cX6_init 111 = .ok (.newarray .int, 2) := by decide +kernel
theorem dX6_init_113 : decode cX6_init 113 = .ok (.putfield 50, 3) := by decide +kernel
theorem dX6_init_116 : decode cX6_init 116 = .ok (.aload_n 0, 1) := by decide +kernel
theorem dX6_init_117 : decode cX6_init 117 = .ok (.bipush 10, 2) := by decide +kernel
theorem dX6_init_119 : decode cX6_init 119 = .ok (.newarray .int, 2) := by decide +kernel
theorem dX6_init_121 : decode cX6_init 121 = .ok (.putfield 53, 3) := by decide +kernel
theorem dX6_init_124 : decode cX6_init 124 = .ok (.aload_n 0, 1) := by decide +kernel
theorem dX6_init_125 : decode cX6_init 125 = .ok (.bipush 10, 2) := by decide +kernel
theorem dX6_init_127 : decode cX6_init 127 = .ok (.newarray .int, 2) := by decide +kernel
theorem dX6_init_129 : decode cX6_init 129 = .ok (.putfield 56, 3) := by decide +kernel
theorem dX6_init_132 : decode cX6_init 132 = .ok (.aload_n 0, 1) := by decide +kernel
theorem dX6_init_133 : decode cX6_init 133 = .ok (.bipush 10, 2) := by decide +kernel
theorem dX6_init_135 : decode cX6_init 135 = .ok (.newarray .int, 2) := by decide +kernel
theorem dX6_init_137 : decode cX6_init 137 = .ok (.putfield 59, 3) := by decide +kernel
theorem dX6_init_140 : decode cX6_init 140 = .ok (.aload_n 0, 1) := by decide +kernel
theorem dX6_init_141 : decode cX6_init 141 = .ok (.bipush 10, 2) := by decide +kernel
theorem dX6_init_143 : decode cX6_init 143 = .ok (.newarray .int, 2) := by decide +kernel
theorem dX6_init_145 : decode cX6_init 145 = .ok (.putfield 62, 3) := by decide +kernel
theorem dX6_init_148 : decode cX6_init 148 = .ok (.aload_n 0, 1) := by decide +kernel
theorem dX6_init_149 : decode cX6_init 149 = .ok (.bipush 10, 2) := by decide +kernel
theorem dX6_init_151 : decode cX6_init 151 = .ok (.newarray .int, 2) := by decide +kernel
theorem dX6_init_153 : decode cX6_init 153 = .ok (.putfield 65, 3) := by decide +kernel
theorem dX6_init_156 : decode cX6_init 156 = .ok (.aload_n 0, 1) := by decide +kernel
theorem dX6_init_157 : decode cX6_init 157 = .ok (.bipush 10, 2) := by decide +kernel
theorem dX6_init_159 : decode cX6_init 159 = .ok (.newarray .int, 2) := by decide +kernel
theorem dX6_init_161 : decode cX6_init 161 = .ok (.putfield 68, 3) := by decide +kernel
theorem dX6_init_164 : decode cX6_init 164 = .ok (.aload_n 0, 1) := by decide +kernel
theorem dX6_init_165 : decode cX6_init 165 = .ok (.iconst 5, 1) := by decide +kernel
theorem dX6_init_166 : decode cX6_init 166 = .ok (.newarray .int, 2) := by decide +kernel
theorem dX6_init_168 : decode cX6_init 168 = .ok (.putfield 71, 3) := by decide +kernel
theorem dX6_init_171 : decode cX6_init 171 = .ok (.aload_n 0, 1) := by decide +kernel
theorem dX6_init_172 : decode cX6_init 172 = .ok (.iconst 5, 1) := by decide +kernel
theorem dX6_init_173 : decode cX6_init 173 = .ok (.newarray .int, 2) := by decide +kernel
theorem dX6_init_175 : decode cX6_init 175 = .ok (.putfield 74, 3) := by decide +kernel
theorem dX6_init_178 : decode cX6_init 178 = .ok (.aload_n 0, 1) := by decide +kernel
theorem dX6_init_179 : decode cX6_init 179 = .ok (.bipush 40, 2) := by decide +kernel
theorem dX6_init_181 : decode cX6_init 181 = .ok (.newarray .int, 2) := by decide +kernel
theorem dX6_init_183 : decode cX6_init 183 = .ok (.putfield 77, 3) := by decide +kernel
theorem dX6_init_186 : decode cX6_init 186 = .ok (.aload_n 0, 1) := by decide +kernel
theorem dX6_init_187 : decode cX6_init 187 = .ok (.bipush 40, 2) := by decide +kernel
theorem dX6_init_189 : decode cX6_init 189 = .ok (.newarray .int, 2) := by decide +kernel
theorem dX6_init_191 : decode cX6_init 191 = .ok (.putfield 80, 3) := by decide +kernel
theorem dX6_init_194 : decode cX6_init 194 = .ok (.aload_n 0, 1) := by decide +kernel
theorem dX6_init_195 : decode cX6_init 195 = .ok (.bipush 40, 2) := by decide +kernel
theorem dX6_init_197 : decode cX6_init 197 = .ok (.newarray .int, 2) := by decide +kernel
theorem dX6_init_199 : decode cX6_init 199 = .ok (.putfield 83, 3) := by decide +kernel
theorem dX6_init_202 : decode cX6_init 202 = .ok (.aload_n 0, 1) := by decide +kernel
theorem dX6_init_203 : decode cX6_init 203 = .ok (.bipush 40, 2) := by decide +kernel
theorem dX6_init_205 : decode cX6_init 205 = .ok (.newarray .int, 2) := by decide +kernel
theorem dX6_init_207 : decode cX6_init 207 = .ok (.putfield 86, 3) := by decide +kernel
theorem dX6_init_210 : decode cX6_init 210 = .ok (.aload_n 0, 1) := by decide +kernel
theorem dX6_init_211 : decode cX6_init 211 = .ok (.bipush 40, 2) := by decide +kernel
theorem dX6_init_213 : decode cX6_init 213 = .ok (.newarray .int, 2) := by decide +kernel
theorem dX6_init_215 : decode cX6_init 215 = .ok (.putfield 89, 3) := by decide +kernel
theorem dX6_init_218 : decode cX6_init 218 = .ok (.aload_n 0, 1) := by decide +kernel
theorem dX6_init_219 : decode cX6_init 219 = .ok (.bipush 40, 2) := by decide +kernel
theorem dX6_init_221 : decode cX6_init 221 = .ok (.newarray .int, 2) := by decide +kernel
theorem dX6_init_223 : decode cX6_init 223 = .ok (.putfield 92, 3) := by decide +kernel
theorem dX6_init_226 : decode cX6_init 226 = .ok (.aload_n 0, 1) := by decide +kernel
theorem dX6_init_227 : decode cX6_init 227 = .ok (.bipush 40, 2) := by decide +kernel
theorem dX6_init_229 : decode cX6_init 229 = .ok (.newarray .int, 2) := by decide +kernel
theorem dX6_init_231 : decode cX6_init 231 = .ok (.putfield 95, 3) := by decide +kernel
theorem dX6_init_234 : decode cX6_init 234 = .ok (.aload_n 0, 1) := by decide +kernel
theorem dX6_init_235 : decode cX6_init 235 = .ok (.bipush 40, 2) := by decide +kernel
theorem dX6_init_237 : decode cX6_init 237 = .ok (.newarray .int, 2) := by decide +kernel
theorem dX6_init_239 : decode cX6_init 239 = .ok (.putfield 98, 3) := by decide +kernel
theorem dX6_init_242 : decode cX6_init 242 = .ok (.aload_n 0, 1) := by decide +kernel
theorem dX6_init_243 : decode cX6_init 243 = .ok (.bipush 40, 2) := by decide +kernel
theorem dX6_init_245 : decode cX6_init 245 = .ok (.newarray .int, 2) := by decide +kernel
theorem dX6_init_247 : decode cX6_init 247 = .ok (.putfield 101, 3) := by decide +kernel
theorem dX6_init_250 : decode cX6_init 250 = .ok (.return_, 1) := by decide +kernel
theorem dX6_thrown_0 : decode cX6_thrown 0 = .ok (.aload_n 0, 1) := by decide +kernel
theorem dX6_thrown_1 : decode cX6_thrown 1 = .ok (.getfield 104, 3) := by decide +kernel
theorem dX6_thrown_4 : decode cX6_thrown 4 = .ok (.ireturn, 1) := by decide +kernel
theorem dX6_in_0 : decode cX6_in 0 = .ok (.iload_n 0, 1) := by decide +kernel
theorem dX6_in_1 : decode cX6_in 1 = .ok (.iload_n 1, 1) := by decide +kernel
theorem dX6_in_2 : decode cX6_in 2 = .ok (.if_icmp .lt 12, 3) := by decide +kernel
theorem dX6_in_5 : decode cX6_in 5 = .ok (.iload_n 0, 1) := by decide +kernel
theorem dX6_in_6 : decode cX6_in 6 = .ok (.iload_n 2, 1) := by decide +kernel
theorem dX6_in_7 : decode cX6_in 7 = .ok (.if_icmp .gt 7, 3) := by decide +kernel
theorem dX6_in_10 : decode cX6_in 10 = .ok (.iconst 1, 1) := by decide +kernel
theorem dX6_in_11 : decode cX6_in 11 = .ok (.goto 4, 3) := by decide +kernel
theorem dX6_in_14 : decode cX6_in 14 = .ok (.iconst 0, 1) := by decide +kernel
theorem dX6_in_15 : decode cX6_in 15 = .ok (.ireturn, 1) := by decide +kernel
theorem dX6_refused_0 : decode cX6_refused 0 = .ok (.aload_n 0, 1) := by decide +kernel
theorem dX6_refused_1 : decode cX6_refused 1 = .ok (.iload_n 1, 1) := by decide +kernel
theorem dX6_refused_2 : decode cX6_refused 2 = .ok (.putfield 104, 3) := by decide +kernel
theorem dX6_refused_5 : decode cX6_refused 5 = .ok (.iload_n 1, 1) := by decide +kernel
theorem dX6_refused_6 : decode cX6_refused 6 = .ok (.ifCond .eq 7, 3) := by decide +kernel
theorem dX6_refused_9 : decode cX6_refused 9 = .ok (.iconst 1, 1) := by decide +kernel
theorem dX6_refused_10 : decode cX6_refused 10 = .ok (.goto 4, 3) := by decide +kernel
theorem dX6_refused_13 : decode cX6_refused 13 = .ok (.iconst 0, 1) := by decide +kernel
theorem dX6_refused_14 : decode cX6_refused 14 = .ok (.ireturn, 1) := by decide +kernel
theorem dX6_isAct_0 : decode cX6_isAct 0 = .ok (.iload_n 1, 1) := by decide +kernel
theorem dX6_isAct_1 : decode cX6_isAct 1 = .ok (.iconst 0, 1) := by decide +kernel
theorem dX6_isAct_2 : decode cX6_isAct 2 = .ok (.aload_n 0, 1) := by decide +kernel
theorem dX6_isAct_3 : decode cX6_isAct 3 = .ok (.getfield 108, 3) := by decide +kernel
theorem dX6_isAct_6 : decode cX6_isAct 6 = .ok (.iconst 1, 1) := by decide +kernel
theorem dX6_isAct_7 : decode cX6_isAct 7 = .ok (.isub, 1) := by decide +kernel
theorem dX6_isAct_8 : decode cX6_isAct 8 = .ok (.invokestatic 111, 3) := by decide +kernel
theorem dX6_isAct_11 : decode cX6_isAct 11 = .ok (.ireturn, 1) := by decide +kernel
theorem dX6_isStandard_0 : decode cX6_isStandard 0 = .ok (.iload_n 1, 1) := by decide +kernel
theorem dX6_isStandard_1 : decode cX6_isStandard 1 = .ok (.iconst 0, 1) := by decide +kernel
theorem dX6_isStandard_2 : decode cX6_isStandard 2 = .ok (.aload_n 0, 1) := by decide +kernel
theorem dX6_isStandard_3 : decode cX6_isStandard 3 = .ok (.getfield 115, 3) := by decide +kernel
theorem dX6_isStandard_6 : decode cX6_isStandard 6 = .ok (.iconst 1, 1) := by decide +kernel
theorem dX6_isStandard_7 : decode cX6_isStandard 7 = .ok (.isub, 1) := by decide +kernel
theorem dX6_isStandard_8 : decode cX6_isStandard 8 = .ok (.invokestatic 111, 3) := by decide +kernel
theorem dX6_isStandard_11 : decode cX6_isStandard 11 = .ok (.ireturn, 1) := by decide +kernel
theorem dX6_isProduct_0 : decode cX6_isProduct 0 = .ok (.iload_n 1, 1) := by decide +kernel
theorem dX6_isProduct_1 : decode cX6_isProduct 1 = .ok (.iconst 0, 1) := by decide +kernel
theorem dX6_isProduct_2 : decode cX6_isProduct 2 = .ok (.aload_n 0, 1) := by decide +kernel
theorem dX6_isProduct_3 : decode cX6_isProduct 3 = .ok (.getfield 118, 3) := by decide +kernel
theorem dX6_isProduct_6 : decode cX6_isProduct 6 = .ok (.iconst 1, 1) := by decide +kernel
theorem dX6_isProduct_7 : decode cX6_isProduct 7 = .ok (.isub, 1) := by decide +kernel
theorem dX6_isProduct_8 : decode cX6_isProduct 8 = .ok (.invokestatic 111, 3) := by decide +kernel
theorem dX6_isProduct_11 : decode cX6_isProduct 11 = .ok (.ireturn, 1) := by decide +kernel
theorem dX6_isBody_0 : decode cX6_isBody 0 = .ok (.iload_n 1, 1) := by decide +kernel
theorem dX6_isBody_1 : decode cX6_isBody 1 = .ok (.iconst 0, 1) := by decide +kernel
theorem dX6_isBody_2 : decode cX6_isBody 2 = .ok (.aload_n 0, 1) := by decide +kernel
theorem dX6_isBody_3 : decode cX6_isBody 3 = .ok (.getfield 121, 3) := by decide +kernel
theorem dX6_isBody_6 : decode cX6_isBody 6 = .ok (.iconst 1, 1) := by decide +kernel
theorem dX6_isBody_7 : decode cX6_isBody 7 = .ok (.isub, 1) := by decide +kernel
theorem dX6_isBody_8 : decode cX6_isBody 8 = .ok (.invokestatic 111, 3) := by decide +kernel
theorem dX6_isBody_11 : decode cX6_isBody 11 = .ok (.ireturn, 1) := by decide +kernel
theorem dX6_isBatch_0 : decode cX6_isBatch 0 = .ok (.iload_n 1, 1) := by decide +kernel
theorem dX6_isBatch_1 : decode cX6_isBatch 1 = .ok (.iconst 0, 1) := by decide +kernel
theorem dX6_isBatch_2 : decode cX6_isBatch 2 = .ok (.aload_n 0, 1) := by decide +kernel
theorem dX6_isBatch_3 : decode cX6_isBatch 3 = .ok (.getfield 124, 3) := by decide +kernel
theorem dX6_isBatch_6 : decode cX6_isBatch 6 = .ok (.iconst 1, 1) := by decide +kernel
theorem dX6_isBatch_7 : decode cX6_isBatch 7 = .ok (.isub, 1) := by decide +kernel
theorem dX6_isBatch_8 : decode cX6_isBatch 8 = .ok (.invokestatic 111, 3) := by decide +kernel
theorem dX6_isBatch_11 : decode cX6_isBatch 11 = .ok (.ireturn, 1) := by decide +kernel
theorem dX6_bits_0 : decode cX6_bits 0 = .ok (.iconst 0, 1) := by decide +kernel
theorem dX6_bits_1 : decode cX6_bits 1 = .ok (.istore_n 1, 1) := by decide +kernel
theorem dX6_bits_2 : decode cX6_bits 2 = .ok (.iconst 0, 1) := by decide +kernel
theorem dX6_bits_3 : decode cX6_bits 3 = .ok (.istore_n 2, 1) := by decide +kernel
theorem dX6_bits_4 : decode cX6_bits 4 = .ok (.iload_n 2, 1) := by decide +kernel
theorem dX6_bits_5 : decode cX6_bits 5 = .ok (.bipush 8, 2) := by decide +kernel
theorem dX6_bits_7 : decode cX6_bits 7 = .ok (.if_icmp .ge 17, 3) := by decide +kernel
theorem dX6_bits_10 : decode cX6_bits 10 = .ok (.iload_n 1, 1) := by decide +kernel
theorem dX6_bits_11 : decode cX6_bits 11 = .ok (.iload_n 0, 1) := by decide +kernel
theorem dX6_bits_12 : decode cX6_bits 12 = .ok (.iload_n 2, 1) := by decide +kernel
theorem dX6_bits_13 : decode cX6_bits 13 = .ok (.ishr, 1) := by decide +kernel
theorem dX6_bits_14 : decode cX6_bits 14 = .ok (.iconst 1, 1) := by decide +kernel
theorem dX6_bits_15 : decode cX6_bits 15 = .ok (.iand, 1) := by decide +kernel
theorem dX6_bits_16 : decode cX6_bits 16 = .ok (.iadd, 1) := by decide +kernel
theorem dX6_bits_17 : decode cX6_bits 17 = .ok (.istore_n 1, 1) := by decide +kernel
theorem dX6_bits_18 : decode cX6_bits 18 = .ok (.iinc 2 1, 3) := by decide +kernel
theorem dX6_bits_21 : decode cX6_bits 21 = .ok (.goto (-17), 3) := by decide +kernel
theorem dX6_bits_24 : decode cX6_bits 24 = .ok (.iload_n 1, 1) := by decide +kernel
theorem dX6_bits_25 : decode cX6_bits 25 = .ok (.ireturn, 1) := by decide +kernel
theorem dX6_act_0 : decode cX6_act 0 = .ok (.iload_n 1, 1) := by decide +kernel
theorem dX6_act_1 : decode cX6_act 1 = .ok (.iconst 1, 1) := by decide +kernel
theorem dX6_act_2 : decode cX6_act 2 = .ok (.sipush 255, 3) := by decide +kernel
theorem dX6_act_5 : decode cX6_act 5 = .ok (.invokestatic 111, 3) := by decide +kernel
theorem dX6_act_8 : decode cX6_act 8 = .ok (.ifCond .eq 41, 3) := by decide +kernel
theorem dX6_act_11 : decode cX6_act 11 = .ok (.iload_n 2, 1) := by decide +kernel
theorem dX6_act_12 : decode cX6_act 12 = .ok (.iconst 0, 1) := by decide +kernel
theorem dX6_act_13 : decode cX6_act 13 = .ok (.sipush 255, 3) := by decide +kernel
theorem dX6_act_16 : decode cX6_act 16 = .ok (.invokestatic 111, 3) := by decide +kernel
theorem dX6_act_19 : decode cX6_act 19 = .ok (.ifCond .eq 30, 3) := by decide +kernel
theorem dX6_act_22 : decode cX6_act 22 = .ok (.iload_n 3, 1) := by decide +kernel
theorem dX6_act_23 : decode cX6_act 23 = .ok (.iconst 1, 1) := by decide +kernel
theorem dX6_act_24 : decode cX6_act 24 = .ok (.sipush 255, 3) := by decide +kernel
theorem dX6_act_27 : decode cX6_act 27 = .ok (.invokestatic 111, 3) := by decide +kernel
theorem dX6_act_30 : decode cX6_act 30 = .ok (.ifCond .eq 19, 3) := by decide +kernel
theorem dX6_act_33 : decode cX6_act 33 = .ok (.iload 4, 2) := by decide +kernel
theorem dX6_act_35 : decode cX6_act 35 = .ok (.iconst 0, 1) := by decide +kernel
theorem dX6_act_36 : decode cX6_act 36 = .ok (.sipush 5000, 3) := by decide +kernel
theorem dX6_act_39 : decode cX6_act 39 = .ok (.invokestatic 111, 3) := by decide +kernel
theorem dX6_act_42 : decode cX6_act 42 = .ok (.ifCond .eq 7, 3) := by decide +kernel
theorem dX6_act_45 : decode cX6_act 45 = .ok (.iconst 1, 1) := by decide +kernel
theorem dX6_act_46 : decode cX6_act 46 = .ok (.goto 4, 3) := by decide +kernel
theorem dX6_act_49 : decode cX6_act 49 = .ok (.iconst 0, 1) := by decide +kernel
theorem dX6_act_50 : decode cX6_act 50 = .ok (.istore 5, 2) := by decide +kernel
theorem dX6_act_52 : decode cX6_act 52 = .ok (.aload_n 0, 1) := by decide +kernel
theorem dX6_act_53 : decode cX6_act 53 = .ok (.iload 5, 2) := by decide +kernel
theorem dX6_act_55 : decode cX6_act 55 = .ok (.ifCond .ne 7, 3) := by decide +kernel
theorem dX6_act_58 : decode cX6_act 58 = .ok (.iconst 1, 1) := by decide +kernel
theorem dX6_act_59 : decode cX6_act 59 = .ok (.goto 17, 3) := by decide +kernel
theorem dX6_act_62 : decode cX6_act 62 = .ok (.aload_n 0, 1) := by decide +kernel
theorem dX6_act_63 : decode cX6_act 63 = .ok (.getfield 108, 3) := by decide +kernel
theorem dX6_act_66 : decode cX6_act 66 = .ok (.bipush 6, 2) := by decide +kernel
theorem dX6_act_68 : decode cX6_act 68 = .ok (.if_icmp .ne 7, 3) := by decide +kernel
theorem dX6_act_71 : decode cX6_act 71 = .ok (.iconst 2, 1) := by decide +kernel
theorem dX6_act_72 : decode cX6_act 72 = .ok (.goto 4, 3) := by decide +kernel
theorem dX6_act_75 : decode cX6_act 75 = .ok (.iconst 0, 1) := by decide +kernel
theorem dX6_act_76 : decode cX6_act 76 = .ok (.invokevirtual 127, 3) := by decide +kernel
theorem dX6_act_79 : decode cX6_act 79 = .ok (.ifCond .eq 5, 3) := by decide +kernel
theorem dX6_act_82 : decode cX6_act 82 = .ok (.iconst 0, 1) := by decide +kernel
theorem dX6_act_83 : decode cX6_act 83 = .ok (.ireturn, 1) := by decide +kernel
theorem dX6_act_84 : decode cX6_act 84 = .ok (.aload_n 0, 1) := by decide +kernel
theorem dX6_act_85 : decode cX6_act 85 = .ok (.getfield 7, 3) := by decide +kernel
theorem dX6_act_88 : decode cX6_act 88 = .ok (.aload_n 0, 1) := by decide +kernel
theorem dX6_act_89 : decode cX6_act 89 = .ok (.getfield 108, 3) := by decide +kernel
theorem dX6_act_92 : decode cX6_act 92 = .ok (.iload_n 1, 1) := by decide +kernel
theorem dX6_act_93 : decode cX6_act 93 = .ok (.iastore, 1) := by decide +kernel
theorem dX6_act_94 : decode cX6_act 94 = .ok (.aload_n 0, 1) := by decide +kernel
theorem dX6_act_95 : decode cX6_act 95 = .ok (.getfield 13, 3) := by decide +kernel
theorem dX6_act_98 : decode cX6_act 98 = .ok (.aload_n 0, 1) := by decide +kernel
theorem dX6_act_99 : decode cX6_act 99 = .ok (.getfield 108, 3) := by decide +kernel
theorem dX6_act_102 : decode cX6_act 102 = .ok (.iload_n 2, 1) := by decide +kernel
theorem dX6_act_103 : decode cX6_act 103 = .ok (.iastore, 1) := by decide +kernel
theorem dX6_act_104 : decode cX6_act 104 = .ok (.aload_n 0, 1) := by decide +kernel
theorem dX6_act_105 : decode cX6_act 105 = .ok (.getfield 16, 3) := by decide +kernel
theorem dX6_act_108 : decode cX6_act 108 = .ok (.aload_n 0, 1) := by decide +kernel
theorem dX6_act_109 : decode cX6_act 109 = .ok (.getfield 108, 3) := by decide +kernel
theorem dX6_act_112 : decode cX6_act 112 = .ok (.iload_n 3, 1) := by decide +kernel
theorem dX6_act_113 : decode cX6_act 113 = .ok (.iastore, 1) := by decide +kernel
theorem dX6_act_114 : decode cX6_act 114 = .ok (.aload_n 0, 1) := by decide +kernel
theorem dX6_act_115 : decode cX6_act 115 = .ok (.getfield 19, 3) := by decide +kernel
theorem dX6_act_118 : decode cX6_act 118 = .ok (.aload_n 0, 1) := by decide +kernel
theorem dX6_act_119 : decode cX6_act 119 = .ok (.getfield 108, 3) := by decide +kernel
theorem dX6_act_122 : decode cX6_act 122 = .ok (.iload 4, 2) := by decide +kernel
theorem dX6_act_124 : decode cX6_act 124 = .ok (.iastore, 1) := by decide +kernel
theorem dX6_act_125 : decode cX6_act 125 = .ok (.aload_n 0, 1) := by decide +kernel
theorem dX6_act_126 : decode cX6_act 126 = .ok (.dup, 1) := by decide +kernel
theorem dX6_act_127 : decode cX6_act 127 = .ok (.getfield 108, 3) := by decide +kernel
theorem dX6_act_130 : decode cX6_act 130 = .ok (.iconst 1, 1) := by decide +kernel
theorem dX6_act_131 : decode cX6_act 131 = .ok (.iadd, 1) := by decide +kernel
theorem dX6_act_132 : decode cX6_act 132 = .ok (.putfield 108, 3) := by decide +kernel
theorem dX6_act_135 : decode cX6_act 135 = .ok (.aload_n 0, 1) := by decide +kernel
theorem dX6_act_136 : decode cX6_act 136 = .ok (.getfield 108, 3) := by decide +kernel
theorem dX6_act_139 : decode cX6_act 139 = .ok (.iconst 1, 1) := by decide +kernel
theorem dX6_act_140 : decode cX6_act 140 = .ok (.isub, 1) := by decide +kernel
theorem dX6_act_141 : decode cX6_act 141 = .ok (.ireturn, 1) := by decide +kernel
theorem dX6_isAbove_0 : decode cX6_isAbove 0 = .ok (.iconst 0, 1) := by decide +kernel
theorem dX6_isAbove_1 : decode cX6_isAbove 1 = .ok (.istore_n 3, 1) := by decide +kernel
theorem dX6_isAbove_2 : decode cX6_isAbove 2 = .ok (.iload_n 3, 1) := by decide +kernel
theorem dX6_isAbove_3 : decode cX6_isAbove 3 = .ok (.bipush 6, 2) := by decide +kernel
theorem dX6_isAbove_5 : decode cX6_isAbove 5 = .ok (.if_icmp .ge 26, 3) := by decide +kernel
theorem dX6_isAbove_8 : decode cX6_isAbove 8 = .ok (.aload_n 0, 1) := by decide +kernel
theorem dX6_isAbove_9 : decode cX6_isAbove 9 = .ok (.getfield 26, 3) := by decide +kernel
theorem dX6_isAbove_12 : decode cX6_isAbove 12 = .ok (.iload_n 3, 1) := by decide +kernel
theorem dX6_isAbove_13 : decode cX6_isAbove 13 = .ok (.aload_n 0, 1) := by decide +kernel
theorem dX6_isAbove_14 : decode cX6_isAbove 14 = .ok (.getfield 22, 3) := by decide +kernel
theorem dX6_isAbove_17 : decode cX6_isAbove 17 = .ok (.bipush 6, 2) := by decide +kernel
theorem dX6_isAbove_19 : decode cX6_isAbove 19 = .ok (.iload_n 1, 1) := by decide +kernel
theorem dX6_isAbove_20 : decode cX6_isAbove 20 = .ok (.imul, 1) := by decide +kernel
theorem dX6_isAbove_21 : decode cX6_isAbove 21 = .ok (.iload_n 3, 1) := by decide +kernel
theorem dX6_isAbove_22 : decode cX6_isAbove 22 = .ok (.iadd, 1) := by decide +kernel
theorem dX6_isAbove_23 : decode cX6_isAbove 23 = .ok (.baload, 1) := by decide +kernel
theorem dX6_isAbove_24 : decode cX6_isAbove 24 = .ok (.bastore, 1) := by decide +kernel
theorem dX6_isAbove_25 : decode cX6_isAbove 25 = .ok (.iinc 3 1, 3) := by decide +kernel
theorem dX6_isAbove_28 : decode cX6_isAbove 28 = .ok (.goto (-26), 3) := by decide +kernel
theorem dX6_isAbove_31 : decode cX6_isAbove 31 = .ok (.iconst 0, 1) := by decide +kernel
theorem dX6_isAbove_32 : decode cX6_isAbove 32 = .ok (.istore_n 3, 1) := by decide +kernel
theorem dX6_isAbove_33 : decode cX6_isAbove 33 = .ok (.iload_n 3, 1) := by decide +kernel
theorem dX6_isAbove_34 : decode cX6_isAbove 34 = .ok (.bipush 6, 2) := by decide +kernel
theorem dX6_isAbove_36 : decode cX6_isAbove 36 = .ok (.if_icmp .ge 89, 3) := by decide +kernel
theorem dX6_isAbove_39 : decode cX6_isAbove 39 = .ok (.iconst 0, 1) := by decide +kernel
theorem dX6_isAbove_40 : decode cX6_isAbove 40 = .ok (.istore 4, 2) := by decide +kernel
theorem dX6_isAbove_42 : decode cX6_isAbove 42 = .ok (.iload 4, 2) := by decide +kernel
theorem dX6_isAbove_44 : decode cX6_isAbove 44 = .ok (.bipush 6, 2) := by decide +kernel
theorem dX6_isAbove_46 : decode cX6_isAbove 46 = .ok (.if_icmp .ge 73, 3) := by decide +kernel
theorem dX6_isAbove_49 : decode cX6_isAbove 49 = .ok (.iconst 0, 1) := by decide +kernel
theorem dX6_isAbove_50 : decode cX6_isAbove 50 = .ok (.istore 5, 2) := by decide +kernel
theorem dX6_isAbove_52 : decode cX6_isAbove 52 = .ok (.iload 5, 2) := by decide +kernel
theorem dX6_isAbove_54 : decode cX6_isAbove 54 = .ok (.bipush 6, 2) := by decide +kernel
theorem dX6_isAbove_56 : decode cX6_isAbove 56 = .ok (.if_icmp .ge 57, 3) := by decide +kernel
theorem dX6_isAbove_59 : decode cX6_isAbove 59 = .ok (.aload_n 0, 1) := by decide +kernel
theorem dX6_isAbove_60 : decode cX6_isAbove 60 = .ok (.getfield 26, 3) := by decide +kernel
theorem dX6_isAbove_63 : decode cX6_isAbove 63 = .ok (.iload 5, 2) := by decide +kernel
theorem dX6_isAbove_65 : decode cX6_isAbove 65 = .ok (.aload_n 0, 1) := by decide +kernel
theorem dX6_isAbove_66 : decode cX6_isAbove 66 = .ok (.getfield 26, 3) := by decide +kernel
theorem dX6_isAbove_69 : decode cX6_isAbove 69 = .ok (.iload 5, 2) := by decide +kernel
theorem dX6_isAbove_71 : decode cX6_isAbove 71 = .ok (.baload, 1) := by decide +kernel
theorem dX6_isAbove_72 : decode cX6_isAbove 72 = .ok (.ifCond .ne 29, 3) := by decide +kernel
theorem dX6_isAbove_75 : decode cX6_isAbove 75 = .ok (.aload_n 0, 1) := by decide +kernel
theorem dX6_isAbove_76 : decode cX6_isAbove 76 = .ok (.getfield 26, 3) := by decide +kernel
theorem dX6_isAbove_79 : decode cX6_isAbove 79 = .ok (.iload 4, 2) := by decide +kernel
theorem dX6_isAbove_81 : decode cX6_isAbove 81 = .ok (.baload, 1) := by decide +kernel
theorem dX6_isAbove_82 : decode cX6_isAbove 82 = .ok (.ifCond .eq 23, 3) := by decide +kernel
theorem dX6_isAbove_85 : decode cX6_isAbove 85 = .ok (.aload_n 0, 1) := by decide +kernel
theorem dX6_isAbove_86 : decode cX6_isAbove 86 = .ok (.getfield 22, 3) := by decide +kernel
theorem dX6_isAbove_89 : decode cX6_isAbove 89 = .ok (.bipush 6, 2) := by decide +kernel
theorem dX6_isAbove_91 : decode cX6_isAbove 91 = .ok (.iload 4, 2) := by decide +kernel
theorem dX6_isAbove_93 : decode cX6_isAbove 93 = .ok (.imul, 1) := by decide +kernel
theorem dX6_isAbove_94 : decode cX6_isAbove 94 = .ok (.iload 5, 2) := by decide +kernel
theorem dX6_isAbove_96 : decode cX6_isAbove 96 = .ok (.iadd, 1) := by decide +kernel
theorem dX6_isAbove_97 : decode cX6_isAbove 97 = .ok (.baload, 1) := by decide +kernel
theorem dX6_isAbove_98 : decode cX6_isAbove 98 = .ok (.ifCond .eq 7, 3) := by decide +kernel
theorem dX6_isAbove_101 : decode cX6_isAbove 101 = .ok (.iconst 1, 1) := by decide +kernel
theorem dX6_isAbove_102 : decode cX6_isAbove 102 = .ok (.goto 4, 3) := by decide +kernel
theorem dX6_isAbove_105 : decode cX6_isAbove 105 = .ok (.iconst 0, 1) := by decide +kernel
theorem dX6_isAbove_106 : decode cX6_isAbove 106 = .ok (.bastore, 1) := by decide +kernel
theorem dX6_isAbove_107 : decode cX6_isAbove 107 = .ok (.iinc 5 1, 3) := by decide +kernel
theorem dX6_isAbove_110 : decode cX6_isAbove 110 = .ok (.goto (-58), 3) := by decide +kernel
theorem dX6_isAbove_113 : decode cX6_isAbove 113 = .ok (.iinc 4 1, 3) := by decide +kernel
theorem dX6_isAbove_116 : decode cX6_isAbove 116 = .ok (.goto (-74), 3) := by decide +kernel
theorem dX6_isAbove_119 : decode cX6_isAbove 119 = .ok (.iinc 3 1, 3) := by decide +kernel
theorem dX6_isAbove_122 : decode cX6_isAbove 122 = .ok (.goto (-89), 3) := by decide +kernel
theorem dX6_isAbove_125 : decode cX6_isAbove 125 = .ok (.aload_n 0, 1) := by decide +kernel
theorem dX6_isAbove_126 : decode cX6_isAbove 126 = .ok (.getfield 26, 3) := by decide +kernel
theorem dX6_isAbove_129 : decode cX6_isAbove 129 = .ok (.iload_n 2, 1) := by decide +kernel
theorem dX6_isAbove_130 : decode cX6_isAbove 130 = .ok (.baload, 1) := by decide +kernel
theorem dX6_isAbove_131 : decode cX6_isAbove 131 = .ok (.ireturn, 1) := by decide +kernel
theorem dX6_special_0 : decode cX6_special 0 = .ok (.aload_n 0, 1) := by decide +kernel
theorem dX6_special_1 : decode cX6_special 1 = .ok (.iload_n 1, 1) := by decide +kernel
theorem dX6_special_2 : decode cX6_special 2 = .ok (.invokevirtual 131, 3) := by decide +kernel
theorem dX6_special_5 : decode cX6_special 5 = .ok (.ifCond .eq 15, 3) := by decide +kernel
theorem dX6_special_8 : decode cX6_special 8 = .ok (.aload_n 0, 1) := by decide +kernel
theorem dX6_special_9 : decode cX6_special 9 = .ok (.iload_n 2, 1) := by decide +kernel
theorem dX6_special_10 : decode cX6_special 10 = .ok (.invokevirtual 131, 3) := by decide +kernel
theorem dX6_special_13 : decode cX6_special 13 = .ok (.ifCond .eq 7, 3) := by decide +kernel
theorem dX6_special_16 : decode cX6_special 16 = .ok (.iconst 1, 1) := by decide +kernel
theorem dX6_special_17 : decode cX6_special 17 = .ok (.goto 4, 3) := by decide +kernel
theorem dX6_special_20 : decode cX6_special 20 = .ok (.iconst 0, 1) := by decide +kernel
theorem dX6_special_21 : decode cX6_special 21 = .ok (.istore_n 3, 1) := by decide +kernel
theorem dX6_special_22 : decode cX6_special 22 = .ok (.aload_n 0, 1) := by decide +kernel
theorem dX6_special_23 : decode cX6_special 23 = .ok (.iload_n 3, 1) := by decide +kernel
theorem dX6_special_24 : decode cX6_special 24 = .ok (.ifCond .ne 7, 3) := by decide +kernel
theorem dX6_special_27 : decode cX6_special 27 = .ok (.iconst 1, 1) := by decide +kernel
theorem dX6_special_28 : decode cX6_special 28 = .ok (.goto 26, 3) := by decide +kernel
theorem dX6_special_31 : decode cX6_special 31 = .ok (.iload_n 1, 1) := by decide +kernel
theorem dX6_special_32 : decode cX6_special 32 = .ok (.iload_n 2, 1) := by decide +kernel
theorem dX6_special_33 : decode cX6_special 33 = .ok (.if_icmp .ne 7, 3) := by decide +kernel
theorem dX6_special_36 : decode cX6_special 36 = .ok (.iconst 2, 1) := by decide +kernel
theorem dX6_special_37 : decode cX6_special 37 = .ok (.goto 17, 3) := by decide +kernel
theorem dX6_special_40 : decode cX6_special 40 = .ok (.aload_n 0, 1) := by decide +kernel
theorem dX6_special_41 : decode cX6_special 41 = .ok (.iload_n 2, 1) := by decide +kernel
theorem dX6_special_42 : decode cX6_special 42 = .ok (.iload_n 1, 1) := by decide +kernel
theorem dX6_special_43 : decode cX6_special 43 = .ok (.invokevirtual 134, 3) := by decide +kernel
theorem dX6_special_46 : decode cX6_special 46 = .ok (.ifCond .eq 7, 3) := by decide +kernel
theorem dX6_special_49 : decode cX6_special 49 = .ok (.iconst 3, 1) := by decide +kernel
theorem dX6_special_50 : decode cX6_special 50 = .ok (.goto 4, 3) := by decide +kernel
theorem dX6_special_53 : decode cX6_special 53 = .ok (.iconst 0, 1) := by decide +kernel
theorem dX6_special_54 : decode cX6_special 54 = .ok (.invokevirtual 127, 3) := by decide +kernel
theorem dX6_special_57 : decode cX6_special 57 = .ok (.ifCond .eq 5, 3) := by decide +kernel
theorem dX6_special_60 : decode cX6_special 60 = .ok (.iconst 0, 1) := by decide +kernel
theorem dX6_special_61 : decode cX6_special 61 = .ok (.ireturn, 1) := by decide +kernel
theorem dX6_special_62 : decode cX6_special 62 = .ok (.aload_n 0, 1) := by decide +kernel
theorem dX6_special_63 : decode cX6_special 63 = .ok (.getfield 22, 3) := by decide +kernel
theorem dX6_special_66 : decode cX6_special 66 = .ok (.bipush 6, 2) := by decide +kernel
theorem dX6_special_68 : decode cX6_special 68 = .ok (.iload_n 1, 1) := by decide +kernel
theorem dX6_special_69 : decode cX6_special 69 = .ok (.imul, 1) := by decide +kernel
theorem dX6_special_70 : decode cX6_special 70 = .ok (.iload_n 2, 1) := by decide +kernel
theorem dX6_special_71 : decode cX6_special 71 = .ok (.iadd, 1) := by decide +kernel
theorem dX6_special_72 : decode cX6_special 72 = .ok (.baload, 1) := by decide +kernel
theorem dX6_special_73 : decode cX6_special 73 = .ok (.istore 4, 2) := by decide +kernel
theorem dX6_special_75 : decode cX6_special 75 = .ok (.aload_n 0, 1) := by decide +kernel
theorem dX6_special_76 : decode cX6_special 76 = .ok (.getfield 22, 3) := by decide +kernel
theorem dX6_special_79 : decode cX6_special 79 = .ok (.bipush 6, 2) := by decide +kernel
theorem dX6_special_81 : decode cX6_special 81 = .ok (.iload_n 1, 1) := by decide +kernel
theorem dX6_special_82 : decode cX6_special 82 = .ok (.imul, 1) := by decide +kernel
theorem dX6_special_83 : decode cX6_special 83 = .ok (.iload_n 2, 1) := by decide +kernel
theorem dX6_special_84 : decode cX6_special 84 = .ok (.iadd, 1) := by decide +kernel
theorem dX6_special_85 : decode cX6_special 85 = .ok (.iconst 1, 1) := by decide +kernel
theorem dX6_special_86 : decode cX6_special 86 = .ok (.bastore, 1) := by decide +kernel
theorem dX6_special_87 : decode cX6_special 87 = .ok (.iload 4, 2) := by decide +kernel
theorem dX6_special_89 : decode cX6_special 89 = .ok (.ifCond .ne 7, 3) := by decide +kernel
theorem dX6_special_92 : decode cX6_special 92 = .ok (.iconst 1, 1) := by decide +kernel
theorem dX6_special_93 : decode cX6_special 93 = .ok (.goto 4, 3) := by decide +kernel
theorem dX6_special_96 : decode cX6_special 96 = .ok (.iconst 0, 1) := by decide +kernel
theorem dX6_special_97 : decode cX6_special 97 = .ok (.ireturn, 1) := by decide +kernel
theorem dX6_standard_0 : decode cX6_standard 0 = .ok (.aload_n 0, 1) := by decide +kernel
theorem dX6_standard_1 : decode cX6_standard 1 = .ok (.iload_n 1, 1) := by decide +kernel
theorem dX6_standard_2 : decode cX6_standard 2 = .ok (.iconst 1, 1) := by decide +kernel
theorem dX6_standard_3 : decode cX6_standard 3 = .ok (.sipush 255, 3) := by decide +kernel
theorem dX6_standard_6 : decode cX6_standard 6 = .ok (.invokestatic 111, 3) := by decide +kernel
theorem dX6_standard_9 : decode cX6_standard 9 = .ok (.ifCond .eq 14, 3) := by decide +kernel
theorem dX6_standard_12 : decode cX6_standard 12 = .ok (.iload_n 2, 1) := by decide +kernel
theorem dX6_standard_13 : decode cX6_standard 13 = .ok (.iconst 0, 1) := by decide +kernel
theorem dX6_standard_14 : decode cX6_standard 14 = .ok (.sipush 5000, 3) := by decide +kernel
theorem dX6_standard_17 : decode cX6_standard 17 = .ok (.invokestatic 111, 3) := by decide +kernel
theorem dX6_standard_20 : decode cX6_standard 20 = .ok (.ifCond .ne 7, 3) := by decide +kernel
theorem dX6_standard_23 : decode cX6_standard 23 = .ok (.iconst 1, 1) := by decide +kernel
theorem dX6_standard_24 : decode cX6_standard 24 = .ok (.goto 17, 3) := by decide +kernel
theorem dX6_standard_27 : decode cX6_standard 27 = .ok (.aload_n 0, 1) := by decide +kernel
theorem dX6_standard_28 : decode cX6_standard 28 = .ok (.getfield 115, 3) := by decide +kernel
theorem dX6_standard_31 : decode cX6_standard 31 = .ok (.bipush 12, 2) := by decide +kernel
theorem dX6_standard_33 : decode cX6_standard 33 = .ok (.if_icmp .ne 7, 3) := by decide +kernel
theorem dX6_standard_36 : decode cX6_standard 36 = .ok (.iconst 2, 1) := by decide +kernel
theorem dX6_standard_37 : decode cX6_standard 37 = .ok (.goto 4, 3) := by decide +kernel
theorem dX6_standard_40 : decode cX6_standard 40 = .ok (.iconst 0, 1) := by decide +kernel
theorem dX6_standard_41 : decode cX6_standard 41 = .ok (.invokevirtual 127, 3) := by decide +kernel
theorem dX6_standard_44 : decode cX6_standard 44 = .ok (.ifCond .eq 5, 3) := by decide +kernel
theorem dX6_standard_47 : decode cX6_standard 47 = .ok (.iconst 0, 1) := by decide +kernel
theorem dX6_standard_48 : decode cX6_standard 48 = .ok (.ireturn, 1) := by decide +kernel
theorem dX6_standard_49 : decode cX6_standard 49 = .ok (.aload_n 0, 1) := by decide +kernel
theorem dX6_standard_50 : decode cX6_standard 50 = .ok (.getfield 29, 3) := by decide +kernel
theorem dX6_standard_53 : decode cX6_standard 53 = .ok (.aload_n 0, 1) := by decide +kernel
theorem dX6_standard_54 : decode cX6_standard 54 = .ok (.getfield 115, 3) := by decide +kernel
theorem dX6_standard_57 : decode cX6_standard 57 = .ok (.iload_n 1, 1) := by decide +kernel
theorem dX6_standard_58 : decode cX6_standard 58 = .ok (.iastore, 1) := by decide +kernel
theorem dX6_standard_59 : decode cX6_standard 59 = .ok (.aload_n 0, 1) := by decide +kernel
theorem dX6_standard_60 : decode cX6_standard 60 = .ok (.getfield 32, 3) := by decide +kernel
theorem dX6_standard_63 : decode cX6_standard 63 = .ok (.aload_n 0, 1) := by decide +kernel
theorem dX6_standard_64 : decode cX6_standard 64 = .ok (.getfield 115, 3) := by decide +kernel
theorem dX6_standard_67 : decode cX6_standard 67 = .ok (.iload_n 2, 1) := by decide +kernel
theorem dX6_standard_68 : decode cX6_standard 68 = .ok (.iastore, 1) := by decide +kernel
theorem dX6_standard_69 : decode cX6_standard 69 = .ok (.aload_n 0, 1) := by decide +kernel
theorem dX6_standard_70 : decode cX6_standard 70 = .ok (.getfield 35, 3) := by decide +kernel
theorem dX6_standard_73 : decode cX6_standard 73 = .ok (.aload_n 0, 1) := by decide +kernel
theorem dX6_standard_74 : decode cX6_standard 74 = .ok (.getfield 115, 3) := by decide +kernel
theorem dX6_standard_77 : decode cX6_standard 77 = .ok (.ldc 138, 2) := by decide +kernel
theorem dX6_standard_79 : decode cX6_standard 79 = .ok (.iastore, 1) := by decide +kernel
theorem dX6_standard_80 : decode cX6_standard 80 = .ok (.aload_n 0, 1) := by decide +kernel
theorem dX6_standard_81 : decode cX6_standard 81 = .ok (.dup, 1) := by decide +kernel
theorem dX6_standard_82 : decode cX6_standard 82 = .ok (.getfield 115, 3) := by decide +kernel
theorem dX6_standard_85 : decode cX6_standard 85 = .ok (.iconst 1, 1) := by decide +kernel
theorem dX6_standard_86 : decode cX6_standard 86 = .ok (.iadd, 1) := by decide +kernel
theorem dX6_standard_87 : decode cX6_standard 87 = .ok (.putfield 115, 3) := by decide +kernel
theorem dX6_standard_90 : decode cX6_standard 90 = .ok (.aload_n 0, 1) := by decide +kernel
theorem dX6_standard_91 : decode cX6_standard 91 = .ok (.getfield 115, 3) := by decide +kernel
theorem dX6_standard_94 : decode cX6_standard 94 = .ok (.iconst 1, 1) := by decide +kernel
theorem dX6_standard_95 : decode cX6_standard 95 = .ok (.isub, 1) := by decide +kernel
theorem dX6_standard_96 : decode cX6_standard 96 = .ok (.ireturn, 1) := by decide +kernel
theorem dX6_withdraw_0 : decode cX6_withdraw 0 = .ok (.aload_n 0, 1) := by decide +kernel
theorem dX6_withdraw_1 : decode cX6_withdraw 1 = .ok (.aload_n 0, 1) := by decide +kernel
theorem dX6_withdraw_2 : decode cX6_withdraw 2 = .ok (.iload_n 1, 1) := by decide +kernel
theorem dX6_withdraw_3 : decode cX6_withdraw 3 = .ok (.invokevirtual 139, 3) := by decide +kernel
theorem dX6_withdraw_6 : decode cX6_withdraw 6 = .ok (.ifCond .ne 7, 3) := by decide +kernel
theorem dX6_withdraw_9 : decode cX6_withdraw 9 = .ok (.iconst 1, 1) := by decide +kernel
theorem dX6_withdraw_10 : decode cX6_withdraw 10 = .ok (.goto 22, 3) := by decide +kernel
theorem dX6_withdraw_13 : decode cX6_withdraw 13 = .ok (.iload_n 2, 1) := by decide +kernel
theorem dX6_withdraw_14 : decode cX6_withdraw 14 = .ok (.aload_n 0, 1) := by decide +kernel
theorem dX6_withdraw_15 : decode cX6_withdraw 15 = .ok (.getfield 142, 3) := by decide +kernel
theorem dX6_withdraw_18 : decode cX6_withdraw 18 = .ok (.sipush 5000, 3) := by decide +kernel
theorem dX6_withdraw_21 : decode cX6_withdraw 21 = .ok (.invokestatic 111, 3) := by decide +kernel
theorem dX6_withdraw_24 : decode cX6_withdraw 24 = .ok (.ifCond .ne 7, 3) := by decide +kernel
theorem dX6_withdraw_27 : decode cX6_withdraw 27 = .ok (.iconst 2, 1) := by decide +kernel
theorem dX6_withdraw_28 : decode cX6_withdraw 28 = .ok (.goto 4, 3) := by decide +kernel
theorem dX6_withdraw_31 : decode cX6_withdraw 31 = .ok (.iconst 0, 1) := by decide +kernel
theorem dX6_withdraw_32 : decode cX6_withdraw 32 = .ok (.invokevirtual 127, 3) := by decide +kernel
theorem dX6_withdraw_35 : decode cX6_withdraw 35 = .ok (.ifCond .eq 5, 3) := by decide +kernel
theorem dX6_withdraw_38 : decode cX6_withdraw 38 = .ok (.iconst 0, 1) := by decide +kernel
theorem dX6_withdraw_39 : decode cX6_withdraw 39 = .ok (.ireturn, 1) := by decide +kernel
theorem dX6_withdraw_40 : decode cX6_withdraw 40 = .ok (.aload_n 0, 1) := by decide +kernel
theorem dX6_withdraw_41 : decode cX6_withdraw 41 = .ok (.getfield 35, 3) := by decide +kernel
theorem dX6_withdraw_44 : decode cX6_withdraw 44 = .ok (.iload_n 1, 1) := by decide +kernel
theorem dX6_withdraw_45 : decode cX6_withdraw 45 = .ok (.iaload, 1) := by decide +kernel
theorem dX6_withdraw_46 : decode cX6_withdraw 46 = .ok (.istore_n 3, 1) := by decide +kernel
theorem dX6_withdraw_47 : decode cX6_withdraw 47 = .ok (.aload_n 0, 1) := by decide +kernel
theorem dX6_withdraw_48 : decode cX6_withdraw 48 = .ok (.getfield 35, 3) := by decide +kernel
theorem dX6_withdraw_51 : decode cX6_withdraw 51 = .ok (.iload_n 1, 1) := by decide +kernel
theorem dX6_withdraw_52 : decode cX6_withdraw 52 = .ok (.iload_n 2, 1) := by decide +kernel
theorem dX6_withdraw_53 : decode cX6_withdraw 53 = .ok (.iastore, 1) := by decide +kernel
theorem dX6_withdraw_54 : decode cX6_withdraw 54 = .ok (.iload_n 3, 1) := by decide +kernel
theorem dX6_withdraw_55 : decode cX6_withdraw 55 = .ok (.ldc 138, 2) := by decide +kernel
theorem dX6_withdraw_57 : decode cX6_withdraw 57 = .ok (.if_icmp .ne 7, 3) := by decide +kernel
theorem dX6_withdraw_60 : decode cX6_withdraw 60 = .ok (.iconst (-1), 1) := by decide +kernel
theorem dX6_withdraw_61 : decode cX6_withdraw 61 = .ok (.goto 4, 3) := by decide +kernel
theorem dX6_withdraw_64 : decode cX6_withdraw 64 = .ok (.iload_n 3, 1) := by decide +kernel
theorem dX6_withdraw_65 : decode cX6_withdraw 65 = .ok (.ireturn, 1) := by decide +kernel
theorem dX6_restrict_0 : decode cX6_restrict 0 = .ok (.aload_n 0, 1) := by decide +kernel
theorem dX6_restrict_1 : decode cX6_restrict 1 = .ok (.aload_n 0, 1) := by decide +kernel
theorem dX6_restrict_2 : decode cX6_restrict 2 = .ok (.iload_n 1, 1) := by decide +kernel
theorem dX6_restrict_3 : decode cX6_restrict 3 = .ok (.invokevirtual 139, 3) := by decide +kernel
theorem dX6_restrict_6 : decode cX6_restrict 6 = .ok (.ifCond .ne 7, 3) := by decide +kernel
theorem dX6_restrict_9 : decode cX6_restrict 9 = .ok (.iconst 1, 1) := by decide +kernel
theorem dX6_restrict_10 : decode cX6_restrict 10 = .ok (.goto 19, 3) := by decide +kernel
theorem dX6_restrict_13 : decode cX6_restrict 13 = .ok (.iload_n 2, 1) := by decide +kernel
theorem dX6_restrict_14 : decode cX6_restrict 14 = .ok (.iconst 1, 1) := by decide +kernel
theorem dX6_restrict_15 : decode cX6_restrict 15 = .ok (.sipush 255, 3) := by decide +kernel
theorem dX6_restrict_18 : decode cX6_restrict 18 = .ok (.invokestatic 111, 3) := by decide +kernel
theorem dX6_restrict_21 : decode cX6_restrict 21 = .ok (.ifCond .ne 7, 3) := by decide +kernel
theorem dX6_restrict_24 : decode cX6_restrict 24 = .ok (.iconst 2, 1) := by decide +kernel
theorem dX6_restrict_25 : decode cX6_restrict 25 = .ok (.goto 4, 3) := by decide +kernel
theorem dX6_restrict_28 : decode cX6_restrict 28 = .ok (.iconst 0, 1) := by decide +kernel
theorem dX6_restrict_29 : decode cX6_restrict 29 = .ok (.invokevirtual 127, 3) := by decide +kernel
theorem dX6_restrict_32 : decode cX6_restrict 32 = .ok (.ifCond .eq 5, 3) := by decide +kernel
theorem dX6_restrict_35 : decode cX6_restrict 35 = .ok (.iconst 0, 1) := by decide +kernel
theorem dX6_restrict_36 : decode cX6_restrict 36 = .ok (.ireturn, 1) := by decide +kernel
theorem dX6_restrict_37 : decode cX6_restrict 37 = .ok (.aload_n 0, 1) := by decide +kernel
theorem dX6_restrict_38 : decode cX6_restrict 38 = .ok (.getfield 29, 3) := by decide +kernel
theorem dX6_restrict_41 : decode cX6_restrict 41 = .ok (.iload_n 1, 1) := by decide +kernel
theorem dX6_restrict_42 : decode cX6_restrict 42 = .ok (.dup2, 1) := by decide +kernel
theorem dX6_restrict_43 : decode cX6_restrict 43 = .ok (.iaload, 1) := by decide +kernel
theorem dX6_restrict_44 : decode cX6_restrict 44 = .ok (.iload_n 2, 1) := by decide +kernel
theorem dX6_restrict_45 : decode cX6_restrict 45 = .ok (.iconst (-1), 1) := by decide +kernel
theorem dX6_restrict_46 : decode cX6_restrict 46 = .ok (.ixor, 1) := by decide +kernel
theorem dX6_restrict_47 : decode cX6_restrict 47 = .ok (.iand, 1) := by decide +kernel
theorem dX6_restrict_48 : decode cX6_restrict 48 = .ok (.iastore, 1) := by decide +kernel
theorem dX6_restrict_49 : decode cX6_restrict 49 = .ok (.aload_n 0, 1) := by decide +kernel
theorem dX6_restrict_50 : decode cX6_restrict 50 = .ok (.getfield 29, 3) := by decide +kernel
theorem dX6_restrict_53 : decode cX6_restrict 53 = .ok (.iload_n 1, 1) := by decide +kernel
theorem dX6_restrict_54 : decode cX6_restrict 54 = .ok (.iaload, 1) := by decide +kernel
theorem dX6_restrict_55 : decode cX6_restrict 55 = .ok (.ireturn, 1) := by decide +kernel
theorem dX6_product_0 : decode cX6_product 0 = .ok (.aload_n 0, 1) := by decide +kernel
theorem dX6_product_1 : decode cX6_product 1 = .ok (.iload_n 1, 1) := by decide +kernel
theorem dX6_product_2 : decode cX6_product 2 = .ok (.iconst 1, 1) := by decide +kernel
theorem dX6_product_3 : decode cX6_product 3 = .ok (.sipush 255, 3) := by decide +kernel
theorem dX6_product_6 : decode cX6_product 6 = .ok (.invokestatic 111, 3) := by decide +kernel
theorem dX6_product_9 : decode cX6_product 9 = .ok (.ifCond .ne 7, 3) := by decide +kernel
theorem dX6_product_12 : decode cX6_product 12 = .ok (.iconst 1, 1) := by decide +kernel
theorem dX6_product_13 : decode cX6_product 13 = .ok (.goto 17, 3) := by decide +kernel
theorem dX6_product_16 : decode cX6_product 16 = .ok (.aload_n 0, 1) := by decide +kernel
theorem dX6_product_17 : decode cX6_product 17 = .ok (.getfield 118, 3) := by decide +kernel
theorem dX6_product_20 : decode cX6_product 20 = .ok (.bipush 10, 2) := by decide +kernel
theorem dX6_product_22 : decode cX6_product 22 = .ok (.if_icmp .ne 7, 3) := by decide +kernel
theorem dX6_product_25 : decode cX6_product 25 = .ok (.iconst 2, 1) := by decide +kernel
theorem dX6_product_26 : decode cX6_product 26 = .ok (.goto 4, 3) := by decide +kernel
theorem dX6_product_29 : decode cX6_product 29 = .ok (.iconst 0, 1) := by decide +kernel
theorem dX6_product_30 : decode cX6_product 30 = .ok (.invokevirtual 127, 3) := by decide +kernel
theorem dX6_product_33 : decode cX6_product 33 = .ok (.ifCond .eq 5, 3) := by decide +kernel
theorem dX6_product_36 : decode cX6_product 36 = .ok (.iconst 0, 1) := by decide +kernel
theorem dX6_product_37 : decode cX6_product 37 = .ok (.ireturn, 1) := by decide +kernel
theorem dX6_product_38 : decode cX6_product 38 = .ok (.aload_n 0, 1) := by decide +kernel
theorem dX6_product_39 : decode cX6_product 39 = .ok (.getfield 38, 3) := by decide +kernel
theorem dX6_product_42 : decode cX6_product 42 = .ok (.aload_n 0, 1) := by decide +kernel
theorem dX6_product_43 : decode cX6_product 43 = .ok (.getfield 118, 3) := by decide +kernel
theorem dX6_product_46 : decode cX6_product 46 = .ok (.iload_n 1, 1) := by decide +kernel
theorem dX6_product_47 : decode cX6_product 47 = .ok (.iastore, 1) := by decide +kernel
theorem dX6_product_48 : decode cX6_product 48 = .ok (.aload_n 0, 1) := by decide +kernel
theorem dX6_product_49 : decode cX6_product 49 = .ok (.getfield 56, 3) := by decide +kernel
theorem dX6_product_52 : decode cX6_product 52 = .ok (.aload_n 0, 1) := by decide +kernel
theorem dX6_product_53 : decode cX6_product 53 = .ok (.getfield 118, 3) := by decide +kernel
theorem dX6_product_56 : decode cX6_product 56 = .ok (.iconst (-1), 1) := by decide +kernel
theorem dX6_product_57 : decode cX6_product 57 = .ok (.iastore, 1) := by decide +kernel
theorem dX6_product_58 : decode cX6_product 58 = .ok (.aload_n 0, 1) := by decide +kernel
theorem dX6_product_59 : decode cX6_product 59 = .ok (.getfield 59, 3) := by decide +kernel
theorem dX6_product_62 : decode cX6_product 62 = .ok (.aload_n 0, 1) := by decide +kernel
theorem dX6_product_63 : decode cX6_product 63 = .ok (.getfield 118, 3) := by decide +kernel
theorem dX6_product_66 : decode cX6_product 66 = .ok (.iconst (-1), 1) := by decide +kernel
theorem dX6_product_67 : decode cX6_product 67 = .ok (.iastore, 1) := by decide +kernel
theorem dX6_product_68 : decode cX6_product 68 = .ok (.aload_n 0, 1) := by decide +kernel
theorem dX6_product_69 : decode cX6_product 69 = .ok (.getfield 62, 3) := by decide +kernel
theorem dX6_product_72 : decode cX6_product 72 = .ok (.aload_n 0, 1) := by decide +kernel
theorem dX6_product_73 : decode cX6_product 73 = .ok (.getfield 118, 3) := by decide +kernel
theorem dX6_product_76 : decode cX6_product 76 = .ok (.iconst (-1), 1) := by decide +kernel
theorem dX6_product_77 : decode cX6_product 77 = .ok (.iastore, 1) := by decide +kernel
theorem dX6_product_78 : decode cX6_product 78 = .ok (.aload_n 0, 1) := by decide +kernel
theorem dX6_product_79 : decode cX6_product 79 = .ok (.getfield 65, 3) := by decide +kernel
theorem dX6_product_82 : decode cX6_product 82 = .ok (.aload_n 0, 1) := by decide +kernel
theorem dX6_product_83 : decode cX6_product 83 = .ok (.getfield 118, 3) := by decide +kernel
theorem dX6_product_86 : decode cX6_product 86 = .ok (.iconst (-1), 1) := by decide +kernel
theorem dX6_product_87 : decode cX6_product 87 = .ok (.iastore, 1) := by decide +kernel
theorem dX6_product_88 : decode cX6_product 88 = .ok (.aload_n 0, 1) := by decide +kernel
theorem dX6_product_89 : decode cX6_product 89 = .ok (.dup, 1) := by decide +kernel
theorem dX6_product_90 : decode cX6_product 90 = .ok (.getfield 118, 3) := by decide +kernel
theorem dX6_product_93 : decode cX6_product 93 = .ok (.iconst 1, 1) := by decide +kernel
theorem dX6_product_94 : decode cX6_product 94 = .ok (.iadd, 1) := by decide +kernel
theorem dX6_product_95 : decode cX6_product 95 = .ok (.putfield 118, 3) := by decide +kernel
theorem dX6_product_98 : decode cX6_product 98 = .ok (.aload_n 0, 1) := by decide +kernel
theorem dX6_product_99 : decode cX6_product 99 = .ok (.getfield 118, 3) := by decide +kernel
theorem dX6_product_102 : decode cX6_product 102 = .ok (.iconst 1, 1) := by decide +kernel
theorem dX6_product_103 : decode cX6_product 103 = .ok (.isub, 1) := by decide +kernel
theorem dX6_product_104 : decode cX6_product 104 = .ok (.ireturn, 1) := by decide +kernel
theorem dX6_nextVersion_0 : decode cX6_nextVersion 0 = .ok (.aload_n 0, 1) := by decide +kernel
theorem dX6_nextVersion_1 : decode cX6_nextVersion 1 = .ok (.getfield 41, 3) := by decide +kernel
theorem dX6_nextVersion_4 : decode cX6_nextVersion 4 = .ok (.iload_n 1, 1) := by decide +kernel
theorem dX6_nextVersion_5 : decode cX6_nextVersion 5 = .ok (.dup2, 1) := by decide +kernel
theorem dX6_nextVersion_6 : decode cX6_nextVersion 6 = .ok (.iaload, 1) := by decide +kernel
theorem dX6_nextVersion_7 : decode cX6_nextVersion 7 = .ok (.iconst 1, 1) := by decide +kernel
theorem dX6_nextVersion_8 : decode cX6_nextVersion 8 = .ok (.iadd, 1) := by decide +kernel
theorem dX6_nextVersion_9 : decode cX6_nextVersion 9 = .ok (.iastore, 1) := by decide +kernel
theorem dX6_nextVersion_10 : decode cX6_nextVersion 10 = .ok (.iconst 0, 1) := by decide +kernel
theorem dX6_nextVersion_11 : decode cX6_nextVersion 11 = .ok (.istore_n 2, 1) := by decide +kernel
theorem dX6_nextVersion_12 : decode cX6_nextVersion 12 = .ok (.iload_n 2, 1) := by decide +kernel
theorem dX6_nextVersion_13 : decode cX6_nextVersion 13 = .ok (.bipush 12, 2) := by decide +kernel
theorem dX6_nextVersion_15 : decode cX6_nextVersion 15 = .ok (.if_icmp .ge 21, 3) := by decide +kernel
theorem dX6_nextVersion_18 : decode cX6_nextVersion 18 = .ok (.aload_n 0, 1) := by decide +kernel
theorem dX6_nextVersion_19 : decode cX6_nextVersion 19 = .ok (.getfield 50, 3) := by decide +kernel
theorem dX6_nextVersion_22 : decode cX6_nextVersion 22 = .ok (.bipush 12, 2) := by decide +kernel
theorem dX6_nextVersion_24 : decode cX6_nextVersion 24 = .ok (.iload_n 1, 1) := by decide +kernel
theorem dX6_nextVersion_25 : decode cX6_nextVersion 25 = .ok (.imul, 1) := by decide +kernel
theorem dX6_nextVersion_26 : decode cX6_nextVersion 26 = .ok (.iload_n 2, 1) := by decide +kernel
theorem dX6_nextVersion_27 : decode cX6_nextVersion 27 = .ok (.iadd, 1) := by decide +kernel
theorem dX6_nextVersion_28 : decode cX6_nextVersion 28 = .ok (.iconst 0, 1) := by decide +kernel
theorem dX6_nextVersion_29 : decode cX6_nextVersion 29 = .ok (.iastore, 1) := by decide +kernel
theorem dX6_nextVersion_30 : decode cX6_nextVersion 30 = .ok (.iinc 2 1, 3) := by decide +kernel
theorem dX6_nextVersion_33 : decode cX6_nextVersion 33 = .ok (.goto (-21), 3) := by decide +kernel
theorem dX6_nextVersion_36 : decode cX6_nextVersion 36 = .ok (.aload_n 0, 1) := by decide +kernel
theorem dX6_nextVersion_37 : decode cX6_nextVersion 37 = .ok (.getfield 53, 3) := by decide +kernel
theorem dX6_nextVersion_40 : decode cX6_nextVersion 40 = .ok (.iload_n 1, 1) := by decide +kernel
theorem dX6_nextVersion_41 : decode cX6_nextVersion 41 = .ok (.iconst 0, 1) := by decide +kernel
theorem dX6_nextVersion_42 : decode cX6_nextVersion 42 = .ok (.iastore, 1) := by decide +kernel
theorem dX6_nextVersion_43 : decode cX6_nextVersion 43 = .ok (.aload_n 0, 1) := by decide +kernel
theorem dX6_nextVersion_44 : decode cX6_nextVersion 44 = .ok (.getfield 56, 3) := by decide +kernel
theorem dX6_nextVersion_47 : decode cX6_nextVersion 47 = .ok (.iload_n 1, 1) := by decide +kernel
theorem dX6_nextVersion_48 : decode cX6_nextVersion 48 = .ok (.iconst (-1), 1) := by decide +kernel
theorem dX6_nextVersion_49 : decode cX6_nextVersion 49 = .ok (.iastore, 1) := by decide +kernel
theorem dX6_nextVersion_50 : decode cX6_nextVersion 50 = .ok (.aload_n 0, 1) := by decide +kernel
theorem dX6_nextVersion_51 : decode cX6_nextVersion 51 = .ok (.getfield 59, 3) := by decide +kernel
theorem dX6_nextVersion_54 : decode cX6_nextVersion 54 = .ok (.iload_n 1, 1) := by decide +kernel
theorem dX6_nextVersion_55 : decode cX6_nextVersion 55 = .ok (.iconst (-1), 1) := by decide +kernel
theorem dX6_nextVersion_56 : decode cX6_nextVersion 56 = .ok (.iastore, 1) := by decide +kernel
theorem dX6_nextVersion_57 : decode cX6_nextVersion 57 = .ok (.aload_n 0, 1) := by decide +kernel
theorem dX6_nextVersion_58 : decode cX6_nextVersion 58 = .ok (.getfield 62, 3) := by decide +kernel
theorem dX6_nextVersion_61 : decode cX6_nextVersion 61 = .ok (.iload_n 1, 1) := by decide +kernel
theorem dX6_nextVersion_62 : decode cX6_nextVersion 62 = .ok (.iconst (-1), 1) := by decide +kernel
theorem dX6_nextVersion_63 : decode cX6_nextVersion 63 = .ok (.iastore, 1) := by decide +kernel
theorem dX6_nextVersion_64 : decode cX6_nextVersion 64 = .ok (.aload_n 0, 1) := by decide +kernel
theorem dX6_nextVersion_65 : decode cX6_nextVersion 65 = .ok (.getfield 65, 3) := by decide +kernel
theorem dX6_nextVersion_68 : decode cX6_nextVersion 68 = .ok (.iload_n 1, 1) := by decide +kernel
theorem dX6_nextVersion_69 : decode cX6_nextVersion 69 = .ok (.iconst (-1), 1) := by decide +kernel
theorem dX6_nextVersion_70 : decode cX6_nextVersion 70 = .ok (.iastore, 1) := by decide +kernel
theorem dX6_nextVersion_71 : decode cX6_nextVersion 71 = .ok (.return_, 1) := by decide +kernel
theorem dX6_change_0 : decode cX6_change 0 = .ok (.aload_n 0, 1) := by decide +kernel
theorem dX6_change_1 : decode cX6_change 1 = .ok (.aload_n 0, 1) := by decide +kernel
theorem dX6_change_2 : decode cX6_change 2 = .ok (.iload_n 1, 1) := by decide +kernel
theorem dX6_change_3 : decode cX6_change 3 = .ok (.invokevirtual 145, 3) := by decide +kernel
theorem dX6_change_6 : decode cX6_change 6 = .ok (.ifCond .ne 7, 3) := by decide +kernel
theorem dX6_change_9 : decode cX6_change 9 = .ok (.iconst 1, 1) := by decide +kernel
theorem dX6_change_10 : decode cX6_change 10 = .ok (.goto 19, 3) := by decide +kernel
theorem dX6_change_13 : decode cX6_change 13 = .ok (.iload_n 2, 1) := by decide +kernel
theorem dX6_change_14 : decode cX6_change 14 = .ok (.iconst 1, 1) := by decide +kernel
theorem dX6_change_15 : decode cX6_change 15 = .ok (.sipush 255, 3) := by decide +kernel
theorem dX6_change_18 : decode cX6_change 18 = .ok (.invokestatic 111, 3) := by decide +kernel
theorem dX6_change_21 : decode cX6_change 21 = .ok (.ifCond .ne 7, 3) := by decide +kernel
theorem dX6_change_24 : decode cX6_change 24 = .ok (.iconst 2, 1) := by decide +kernel
theorem dX6_change_25 : decode cX6_change 25 = .ok (.goto 4, 3) := by decide +kernel
theorem dX6_change_28 : decode cX6_change 28 = .ok (.iconst 0, 1) := by decide +kernel
theorem dX6_change_29 : decode cX6_change 29 = .ok (.invokevirtual 127, 3) := by decide +kernel
theorem dX6_change_32 : decode cX6_change 32 = .ok (.ifCond .eq 5, 3) := by decide +kernel
theorem dX6_change_35 : decode cX6_change 35 = .ok (.iconst 0, 1) := by decide +kernel
theorem dX6_change_36 : decode cX6_change 36 = .ok (.ireturn, 1) := by decide +kernel
theorem dX6_change_37 : decode cX6_change 37 = .ok (.aload_n 0, 1) := by decide +kernel
theorem dX6_change_38 : decode cX6_change 38 = .ok (.getfield 38, 3) := by decide +kernel
theorem dX6_change_41 : decode cX6_change 41 = .ok (.iload_n 1, 1) := by decide +kernel
theorem dX6_change_42 : decode cX6_change 42 = .ok (.iaload, 1) := by decide +kernel
theorem dX6_change_43 : decode cX6_change 43 = .ok (.iload_n 2, 1) := by decide +kernel
theorem dX6_change_44 : decode cX6_change 44 = .ok (.if_icmp .eq 15, 3) := by decide +kernel
theorem dX6_change_47 : decode cX6_change 47 = .ok (.aload_n 0, 1) := by decide +kernel
theorem dX6_change_48 : decode cX6_change 48 = .ok (.getfield 38, 3) := by decide +kernel
theorem dX6_change_51 : decode cX6_change 51 = .ok (.iload_n 1, 1) := by decide +kernel
theorem dX6_change_52 : decode cX6_change 52 = .ok (.iload_n 2, 1) := by decide +kernel
theorem dX6_change_53 : decode cX6_change 53 = .ok (.iastore, 1) := by decide +kernel
theorem dX6_change_54 : decode cX6_change 54 = .ok (.aload_n 0, 1) := by decide +kernel
theorem dX6_change_55 : decode cX6_change 55 = .ok (.iload_n 1, 1) := by decide +kernel
theorem dX6_change_56 : decode cX6_change 56 = .ok (.invokevirtual 148, 3) := by decide +kernel
theorem dX6_change_59 : decode cX6_change 59 = .ok (.aload_n 0, 1) := by decide +kernel
theorem dX6_change_60 : decode cX6_change 60 = .ok (.getfield 41, 3) := by decide +kernel
theorem dX6_change_63 : decode cX6_change 63 = .ok (.iload_n 1, 1) := by decide +kernel
theorem dX6_change_64 : decode cX6_change 64 = .ok (.iaload, 1) := by decide +kernel
theorem dX6_change_65 : decode cX6_change 65 = .ok (.ireturn, 1) := by decide +kernel
theorem dX6_risk_0 : decode cX6_risk 0 = .ok (.aload_n 0, 1) := by decide +kernel
theorem dX6_risk_1 : decode cX6_risk 1 = .ok (.iload_n 1, 1) := by decide +kernel
theorem dX6_risk_2 : decode cX6_risk 2 = .ok (.invokevirtual 145, 3) := by decide +kernel
theorem dX6_risk_5 : decode cX6_risk 5 = .ok (.ifCond .eq 17, 3) := by decide +kernel
theorem dX6_risk_8 : decode cX6_risk 8 = .ok (.iload_n 2, 1) := by decide +kernel
theorem dX6_risk_9 : decode cX6_risk 9 = .ok (.iconst 0, 1) := by decide +kernel
theorem dX6_risk_10 : decode cX6_risk 10 = .ok (.bipush 7, 2) := by decide +kernel
theorem dX6_risk_12 : decode cX6_risk 12 = .ok (.invokestatic 111, 3) := by decide +kernel
theorem dX6_risk_15 : decode cX6_risk 15 = .ok (.ifCond .eq 7, 3) := by decide +kernel
theorem dX6_risk_18 : decode cX6_risk 18 = .ok (.iconst 1, 1) := by decide +kernel
theorem dX6_risk_19 : decode cX6_risk 19 = .ok (.goto 4, 3) := by decide +kernel
theorem dX6_risk_22 : decode cX6_risk 22 = .ok (.iconst 0, 1) := by decide +kernel
theorem dX6_risk_23 : decode cX6_risk 23 = .ok (.istore 5, 2) := by decide +kernel
theorem dX6_risk_25 : decode cX6_risk 25 = .ok (.aload_n 0, 1) := by decide +kernel
theorem dX6_risk_26 : decode cX6_risk 26 = .ok (.iload 5, 2) := by decide +kernel
theorem dX6_risk_28 : decode cX6_risk 28 = .ok (.ifCond .ne 7, 3) := by decide +kernel
theorem dX6_risk_31 : decode cX6_risk 31 = .ok (.iconst 1, 1) := by decide +kernel
theorem dX6_risk_32 : decode cX6_risk 32 = .ok (.goto 28, 3) := by decide +kernel
theorem dX6_risk_35 : decode cX6_risk 35 = .ok (.iload_n 3, 1) := by decide +kernel
theorem dX6_risk_36 : decode cX6_risk 36 = .ok (.iconst 0, 1) := by decide +kernel
theorem dX6_risk_37 : decode cX6_risk 37 = .ok (.bipush 9, 2) := by decide +kernel
theorem dX6_risk_39 : decode cX6_risk 39 = .ok (.invokestatic 111, 3) := by decide +kernel
theorem dX6_risk_42 : decode cX6_risk 42 = .ok (.ifCond .eq 13, 3) := by decide +kernel
theorem dX6_risk_45 : decode cX6_risk 45 = .ok (.iload 4, 2) := by decide +kernel
theorem dX6_risk_47 : decode cX6_risk 47 = .ok (.iconst 0, 1) := by decide +kernel
theorem dX6_risk_48 : decode cX6_risk 48 = .ok (.iload_n 3, 1) := by decide +kernel
theorem dX6_risk_49 : decode cX6_risk 49 = .ok (.invokestatic 111, 3) := by decide +kernel
theorem dX6_risk_52 : decode cX6_risk 52 = .ok (.ifCond .ne 7, 3) := by decide +kernel
theorem dX6_risk_55 : decode cX6_risk 55 = .ok (.iconst 2, 1) := by decide +kernel
theorem dX6_risk_56 : decode cX6_risk 56 = .ok (.goto 4, 3) := by decide +kernel
theorem dX6_risk_59 : decode cX6_risk 59 = .ok (.iconst 0, 1) := by decide +kernel
theorem dX6_risk_60 : decode cX6_risk 60 = .ok (.invokevirtual 127, 3) := by decide +kernel
theorem dX6_risk_63 : decode cX6_risk 63 = .ok (.ifCond .eq 5, 3) := by decide +kernel
theorem dX6_risk_66 : decode cX6_risk 66 = .ok (.iconst 0, 1) := by decide +kernel
theorem dX6_risk_67 : decode cX6_risk 67 = .ok (.ireturn, 1) := by decide +kernel
theorem dX6_risk_68 : decode cX6_risk 68 = .ok (.bipush 8, 2) := by decide +kernel
theorem dX6_risk_70 : decode cX6_risk 70 = .ok (.iload_n 1, 1) := by decide +kernel
theorem dX6_risk_71 : decode cX6_risk 71 = .ok (.imul, 1) := by decide +kernel
theorem dX6_risk_72 : decode cX6_risk 72 = .ok (.iload_n 2, 1) := by decide +kernel
theorem dX6_risk_73 : decode cX6_risk 73 = .ok (.iadd, 1) := by decide +kernel
theorem dX6_risk_74 : decode cX6_risk 74 = .ok (.istore 6, 2) := by decide +kernel
theorem dX6_risk_76 : decode cX6_risk 76 = .ok (.iload_n 3, 1) := by decide +kernel
theorem dX6_risk_77 : decode cX6_risk 77 = .ok (.aload_n 0, 1) := by decide +kernel
theorem dX6_risk_78 : decode cX6_risk 78 = .ok (.getfield 44, 3) := by decide +kernel
theorem dX6_risk_81 : decode cX6_risk 81 = .ok (.iload 6, 2) := by decide +kernel
theorem dX6_risk_83 : decode cX6_risk 83 = .ok (.iaload, 1) := by decide +kernel
theorem dX6_risk_84 : decode cX6_risk 84 = .ok (.if_icmp .gt 15, 3) := by decide +kernel
theorem dX6_risk_87 : decode cX6_risk 87 = .ok (.iload 4, 2) := by decide +kernel
theorem dX6_risk_89 : decode cX6_risk 89 = .ok (.aload_n 0, 1) := by decide +kernel
theorem dX6_risk_90 : decode cX6_risk 90 = .ok (.getfield 47, 3) := by decide +kernel
theorem dX6_risk_93 : decode cX6_risk 93 = .ok (.iload 6, 2) := by decide +kernel
theorem dX6_risk_95 : decode cX6_risk 95 = .ok (.iaload, 1) := by decide +kernel
theorem dX6_risk_96 : decode cX6_risk 96 = .ok (.if_icmp .le 8, 3) := by decide +kernel
theorem dX6_risk_99 : decode cX6_risk 99 = .ok (.aload_n 0, 1) := by decide +kernel
theorem dX6_risk_100 : decode cX6_risk 100 = .ok (.iload_n 1, 1) := by decide +kernel
theorem dX6_risk_101 : decode cX6_risk 101 = .ok (.invokevirtual 148, 3) := by decide +kernel
theorem dX6_risk_104 : decode cX6_risk 104 = .ok (.aload_n 0, 1) := by decide +kernel
theorem dX6_risk_105 : decode cX6_risk 105 = .ok (.getfield 44, 3) := by decide +kernel
theorem dX6_risk_108 : decode cX6_risk 108 = .ok (.iload 6, 2) := by decide +kernel
theorem dX6_risk_110 : decode cX6_risk 110 = .ok (.iload_n 3, 1) := by decide +kernel
theorem dX6_risk_111 : decode cX6_risk 111 = .ok (.iastore, 1) := by decide +kernel
theorem dX6_risk_112 : decode cX6_risk 112 = .ok (.aload_n 0, 1) := by decide +kernel
theorem dX6_risk_113 : decode cX6_risk 113 = .ok (.getfield 47, 3) := by decide +kernel
theorem dX6_risk_116 : decode cX6_risk 116 = .ok (.iload 6, 2) := by decide +kernel
theorem dX6_risk_118 : decode cX6_risk 118 = .ok (.iload 4, 2) := by decide +kernel
theorem dX6_risk_120 : decode cX6_risk 120 = .ok (.iastore, 1) := by decide +kernel
theorem dX6_risk_121 : decode cX6_risk 121 = .ok (.aload_n 0, 1) := by decide +kernel
theorem dX6_risk_122 : decode cX6_risk 122 = .ok (.getfield 41, 3) := by decide +kernel
theorem dX6_risk_125 : decode cX6_risk 125 = .ok (.iload_n 1, 1) := by decide +kernel
theorem dX6_risk_126 : decode cX6_risk 126 = .ok (.iaload, 1) := by decide +kernel
theorem dX6_risk_127 : decode cX6_risk 127 = .ok (.ireturn, 1) := by decide +kernel
theorem dX6_follow_0 : decode cX6_follow 0 = .ok (.aload_n 0, 1) := by decide +kernel
theorem dX6_follow_1 : decode cX6_follow 1 = .ok (.iload_n 1, 1) := by decide +kernel
theorem dX6_follow_2 : decode cX6_follow 2 = .ok (.invokevirtual 145, 3) := by decide +kernel
theorem dX6_follow_5 : decode cX6_follow 5 = .ok (.ifCond .eq 15, 3) := by decide +kernel
theorem dX6_follow_8 : decode cX6_follow 8 = .ok (.aload_n 0, 1) := by decide +kernel
theorem dX6_follow_9 : decode cX6_follow 9 = .ok (.iload_n 2, 1) := by decide +kernel
theorem dX6_follow_10 : decode cX6_follow 10 = .ok (.invokevirtual 139, 3) := by decide +kernel
theorem dX6_follow_13 : decode cX6_follow 13 = .ok (.ifCond .eq 7, 3) := by decide +kernel
theorem dX6_follow_16 : decode cX6_follow 16 = .ok (.iconst 1, 1) := by decide +kernel
theorem dX6_follow_17 : decode cX6_follow 17 = .ok (.goto 4, 3) := by decide +kernel
theorem dX6_follow_20 : decode cX6_follow 20 = .ok (.iconst 0, 1) := by decide +kernel
theorem dX6_follow_21 : decode cX6_follow 21 = .ok (.istore 4, 2) := by decide +kernel
theorem dX6_follow_23 : decode cX6_follow 23 = .ok (.aload_n 0, 1) := by decide +kernel
theorem dX6_follow_24 : decode cX6_follow 24 = .ok (.iload 4, 2) := by decide +kernel
theorem dX6_follow_26 : decode cX6_follow 26 = .ok (.ifCond .ne 7, 3) := by decide +kernel
theorem dX6_follow_29 : decode cX6_follow 29 = .ok (.iconst 1, 1) := by decide +kernel
theorem dX6_follow_30 : decode cX6_follow 30 = .ok (.goto 19, 3) := by decide +kernel
theorem dX6_follow_33 : decode cX6_follow 33 = .ok (.iload_n 3, 1) := by decide +kernel
theorem dX6_follow_34 : decode cX6_follow 34 = .ok (.iconst 0, 1) := by decide +kernel
theorem dX6_follow_35 : decode cX6_follow 35 = .ok (.sipush 255, 3) := by decide +kernel
theorem dX6_follow_38 : decode cX6_follow 38 = .ok (.invokestatic 111, 3) := by decide +kernel
theorem dX6_follow_41 : decode cX6_follow 41 = .ok (.ifCond .ne 7, 3) := by decide +kernel
theorem dX6_follow_44 : decode cX6_follow 44 = .ok (.iconst 2, 1) := by decide +kernel
theorem dX6_follow_45 : decode cX6_follow 45 = .ok (.goto 4, 3) := by decide +kernel
theorem dX6_follow_48 : decode cX6_follow 48 = .ok (.iconst 0, 1) := by decide +kernel
theorem dX6_follow_49 : decode cX6_follow 49 = .ok (.invokevirtual 127, 3) := by decide +kernel
theorem dX6_follow_52 : decode cX6_follow 52 = .ok (.ifCond .eq 5, 3) := by decide +kernel
theorem dX6_follow_55 : decode cX6_follow 55 = .ok (.iconst 0, 1) := by decide +kernel
theorem dX6_follow_56 : decode cX6_follow 56 = .ok (.ireturn, 1) := by decide +kernel
theorem dX6_follow_57 : decode cX6_follow 57 = .ok (.aload_n 0, 1) := by decide +kernel
theorem dX6_follow_58 : decode cX6_follow 58 = .ok (.getfield 50, 3) := by decide +kernel
theorem dX6_follow_61 : decode cX6_follow 61 = .ok (.bipush 12, 2) := by decide +kernel
theorem dX6_follow_63 : decode cX6_follow 63 = .ok (.iload_n 1, 1) := by decide +kernel
theorem dX6_follow_64 : decode cX6_follow 64 = .ok (.imul, 1) := by decide +kernel
theorem dX6_follow_65 : decode cX6_follow 65 = .ok (.iload_n 2, 1) := by decide +kernel
theorem dX6_follow_66 : decode cX6_follow 66 = .ok (.iadd, 1) := by decide +kernel
theorem dX6_follow_67 : decode cX6_follow 67 = .ok (.iaload, 1) := by decide +kernel
theorem dX6_follow_68 : decode cX6_follow 68 = .ok (.istore 5, 2) := by decide +kernel
theorem dX6_follow_70 : decode cX6_follow 70 = .ok (.aload_n 0, 1) := by decide +kernel
theorem dX6_follow_71 : decode cX6_follow 71 = .ok (.getfield 50, 3) := by decide +kernel
theorem dX6_follow_74 : decode cX6_follow 74 = .ok (.bipush 12, 2) := by decide +kernel
theorem dX6_follow_76 : decode cX6_follow 76 = .ok (.iload_n 1, 1) := by decide +kernel
theorem dX6_follow_77 : decode cX6_follow 77 = .ok (.imul, 1) := by decide +kernel
theorem dX6_follow_78 : decode cX6_follow 78 = .ok (.iload_n 2, 1) := by decide +kernel
theorem dX6_follow_79 : decode cX6_follow 79 = .ok (.iadd, 1) := by decide +kernel
theorem dX6_follow_80 : decode cX6_follow 80 = .ok (.iload_n 3, 1) := by decide +kernel
theorem dX6_follow_81 : decode cX6_follow 81 = .ok (.iastore, 1) := by decide +kernel
theorem dX6_follow_82 : decode cX6_follow 82 = .ok (.iload 5, 2) := by decide +kernel
theorem dX6_follow_84 : decode cX6_follow 84 = .ok (.ireturn, 1) := by decide +kernel
theorem dX6_prove_0 : decode cX6_prove 0 = .ok (.aload_n 0, 1) := by decide +kernel
theorem dX6_prove_1 : decode cX6_prove 1 = .ok (.aload_n 0, 1) := by decide +kernel
theorem dX6_prove_2 : decode cX6_prove 2 = .ok (.iload_n 1, 1) := by decide +kernel
theorem dX6_prove_3 : decode cX6_prove 3 = .ok (.invokevirtual 145, 3) := by decide +kernel
theorem dX6_prove_6 : decode cX6_prove 6 = .ok (.ifCond .ne 7, 3) := by decide +kernel
theorem dX6_prove_9 : decode cX6_prove 9 = .ok (.iconst 1, 1) := by decide +kernel
theorem dX6_prove_10 : decode cX6_prove 10 = .ok (.goto 19, 3) := by decide +kernel
theorem dX6_prove_13 : decode cX6_prove 13 = .ok (.iload_n 2, 1) := by decide +kernel
theorem dX6_prove_14 : decode cX6_prove 14 = .ok (.iconst 1, 1) := by decide +kernel
theorem dX6_prove_15 : decode cX6_prove 15 = .ok (.sipush 255, 3) := by decide +kernel
theorem dX6_prove_18 : decode cX6_prove 18 = .ok (.invokestatic 111, 3) := by decide +kernel
theorem dX6_prove_21 : decode cX6_prove 21 = .ok (.ifCond .ne 7, 3) := by decide +kernel
theorem dX6_prove_24 : decode cX6_prove 24 = .ok (.iconst 2, 1) := by decide +kernel
theorem dX6_prove_25 : decode cX6_prove 25 = .ok (.goto 4, 3) := by decide +kernel
theorem dX6_prove_28 : decode cX6_prove 28 = .ok (.iconst 0, 1) := by decide +kernel
theorem dX6_prove_29 : decode cX6_prove 29 = .ok (.invokevirtual 127, 3) := by decide +kernel
theorem dX6_prove_32 : decode cX6_prove 32 = .ok (.ifCond .eq 5, 3) := by decide +kernel
theorem dX6_prove_35 : decode cX6_prove 35 = .ok (.iconst 0, 1) := by decide +kernel
theorem dX6_prove_36 : decode cX6_prove 36 = .ok (.ireturn, 1) := by decide +kernel
theorem dX6_prove_37 : decode cX6_prove 37 = .ok (.aload_n 0, 1) := by decide +kernel
theorem dX6_prove_38 : decode cX6_prove 38 = .ok (.getfield 53, 3) := by decide +kernel
theorem dX6_prove_41 : decode cX6_prove 41 = .ok (.iload_n 1, 1) := by decide +kernel
theorem dX6_prove_42 : decode cX6_prove 42 = .ok (.dup2, 1) := by decide +kernel
theorem dX6_prove_43 : decode cX6_prove 43 = .ok (.iaload, 1) := by decide +kernel
theorem dX6_prove_44 : decode cX6_prove 44 = .ok (.iload_n 2, 1) := by decide +kernel
theorem dX6_prove_45 : decode cX6_prove 45 = .ok (.ior, 1) := by decide +kernel
theorem dX6_prove_46 : decode cX6_prove 46 = .ok (.iastore, 1) := by decide +kernel
theorem dX6_prove_47 : decode cX6_prove 47 = .ok (.aload_n 0, 1) := by decide +kernel
theorem dX6_prove_48 : decode cX6_prove 48 = .ok (.getfield 53, 3) := by decide +kernel
theorem dX6_prove_51 : decode cX6_prove 51 = .ok (.iload_n 1, 1) := by decide +kernel
theorem dX6_prove_52 : decode cX6_prove 52 = .ok (.iaload, 1) := by decide +kernel
theorem dX6_prove_53 : decode cX6_prove 53 = .ok (.ireturn, 1) := by decide +kernel
theorem dX6_isFor_0 : decode cX6_isFor 0 = .ok (.aload_n 0, 1) := by decide +kernel
theorem dX6_isFor_1 : decode cX6_isFor 1 = .ok (.getfield 19, 3) := by decide +kernel
theorem dX6_isFor_4 : decode cX6_isFor 4 = .ok (.iload_n 1, 1) := by decide +kernel
theorem dX6_isFor_5 : decode cX6_isFor 5 = .ok (.iaload, 1) := by decide +kernel
theorem dX6_isFor_6 : decode cX6_isFor 6 = .ok (.aload_n 0, 1) := by decide +kernel
theorem dX6_isFor_7 : decode cX6_isFor 7 = .ok (.getfield 142, 3) := by decide +kernel
theorem dX6_isFor_10 : decode cX6_isFor 10 = .ok (.if_icmp .gt 39, 3) := by decide +kernel
theorem dX6_isFor_13 : decode cX6_isFor 13 = .ok (.aload_n 0, 1) := by decide +kernel
theorem dX6_isFor_14 : decode cX6_isFor 14 = .ok (.getfield 7, 3) := by decide +kernel
theorem dX6_isFor_17 : decode cX6_isFor 17 = .ok (.iload_n 1, 1) := by decide +kernel
theorem dX6_isFor_18 : decode cX6_isFor 18 = .ok (.iaload, 1) := by decide +kernel
theorem dX6_isFor_19 : decode cX6_isFor 19 = .ok (.aload_n 0, 1) := by decide +kernel
theorem dX6_isFor_20 : decode cX6_isFor 20 = .ok (.getfield 38, 3) := by decide +kernel
theorem dX6_isFor_23 : decode cX6_isFor 23 = .ok (.iload_n 2, 1) := by decide +kernel
theorem dX6_isFor_24 : decode cX6_isFor 24 = .ok (.iaload, 1) := by decide +kernel
theorem dX6_isFor_25 : decode cX6_isFor 25 = .ok (.iand, 1) := by decide +kernel
theorem dX6_isFor_26 : decode cX6_isFor 26 = .ok (.ifCond .eq 23, 3) := by decide +kernel
theorem dX6_isFor_29 : decode cX6_isFor 29 = .ok (.aload_n 0, 1) := by decide +kernel
theorem dX6_isFor_30 : decode cX6_isFor 30 = .ok (.getfield 13, 3) := by decide +kernel
theorem dX6_isFor_33 : decode cX6_isFor 33 = .ok (.iload_n 1, 1) := by decide +kernel
theorem dX6_isFor_34 : decode cX6_isFor 34 = .ok (.iaload, 1) := by decide +kernel
theorem dX6_isFor_35 : decode cX6_isFor 35 = .ok (.aload_n 0, 1) := by decide +kernel
theorem dX6_isFor_36 : decode cX6_isFor 36 = .ok (.getfield 38, 3) := by decide +kernel
theorem dX6_isFor_39 : decode cX6_isFor 39 = .ok (.iload_n 2, 1) := by decide +kernel
theorem dX6_isFor_40 : decode cX6_isFor 40 = .ok (.iaload, 1) := by decide +kernel
theorem dX6_isFor_41 : decode cX6_isFor 41 = .ok (.iand, 1) := by decide +kernel
theorem dX6_isFor_42 : decode cX6_isFor 42 = .ok (.ifCond .ne 7, 3) := by decide +kernel
theorem dX6_isFor_45 : decode cX6_isFor 45 = .ok (.iconst 1, 1) := by decide +kernel
theorem dX6_isFor_46 : decode cX6_isFor 46 = .ok (.goto 4, 3) := by decide +kernel
theorem dX6_isFor_49 : decode cX6_isFor 49 = .ok (.iconst 0, 1) := by decide +kernel
theorem dX6_isFor_50 : decode cX6_isFor 50 = .ok (.ireturn, 1) := by decide +kernel
theorem dX6_doesApply_0 : decode cX6_doesApply 0 = .ok (.aload_n 0, 1) := by decide +kernel
theorem dX6_doesApply_1 : decode cX6_doesApply 1 = .ok (.iload_n 1, 1) := by decide +kernel
theorem dX6_doesApply_2 : decode cX6_doesApply 2 = .ok (.iload_n 2, 1) := by decide +kernel
theorem dX6_doesApply_3 : decode cX6_doesApply 3 = .ok (.invokevirtual 152, 3) := by decide +kernel
theorem dX6_doesApply_6 : decode cX6_doesApply 6 = .ok (.istore_n 3, 1) := by decide +kernel
theorem dX6_doesApply_7 : decode cX6_doesApply 7 = .ok (.iconst 0, 1) := by decide +kernel
theorem dX6_doesApply_8 : decode cX6_doesApply 8 = .ok (.istore 4, 2) := by decide +kernel
theorem dX6_doesApply_10 : decode cX6_doesApply 10 = .ok (.iload 4, 2) := by decide +kernel
theorem dX6_doesApply_12 : decode cX6_doesApply 12 = .ok (.aload_n 0, 1) := by decide +kernel
theorem dX6_doesApply_13 : decode cX6_doesApply 13 = .ok (.getfield 108, 3) := by decide +kernel
theorem dX6_doesApply_16 : decode cX6_doesApply 16 = .ok (.if_icmp .ge 44, 3) := by decide +kernel
theorem dX6_doesApply_19 : decode cX6_doesApply 19 = .ok (.iload_n 3, 1) := by decide +kernel
theorem dX6_doesApply_20 : decode cX6_doesApply 20 = .ok (.ifCond .eq 32, 3) := by decide +kernel
theorem dX6_doesApply_23 : decode cX6_doesApply 23 = .ok (.aload_n 0, 1) := by decide +kernel
theorem dX6_doesApply_24 : decode cX6_doesApply 24 = .ok (.getfield 22, 3) := by decide +kernel
theorem dX6_doesApply_27 : decode cX6_doesApply 27 = .ok (.bipush 6, 2) := by decide +kernel
theorem dX6_doesApply_29 : decode cX6_doesApply 29 = .ok (.iload 4, 2) := by decide +kernel
theorem dX6_doesApply_31 : decode cX6_doesApply 31 = .ok (.imul, 1) := by decide +kernel
theorem dX6_doesApply_32 : decode cX6_doesApply 32 = .ok (.iload_n 1, 1) := by decide +kernel
theorem dX6_doesApply_33 : decode cX6_doesApply 33 = .ok (.iadd, 1) := by decide +kernel
theorem dX6_doesApply_34 : decode cX6_doesApply 34 = .ok (.baload, 1) := by decide +kernel
theorem dX6_doesApply_35 : decode cX6_doesApply 35 = .ok (.ifCond .eq 13, 3) := by decide +kernel
theorem dX6_doesApply_38 : decode cX6_doesApply 38 = .ok (.aload_n 0, 1) := by decide +kernel
theorem dX6_doesApply_39 : decode cX6_doesApply 39 = .ok (.iload 4, 2) := by decide +kernel
theorem dX6_doesApply_41 : decode cX6_doesApply 41 = .ok (.iload_n 2, 1) := by decide +kernel
theorem dX6_doesApply_42 : decode cX6_doesApply 42 = .ok (.invokevirtual 152, 3) := by decide +kernel
theorem dX6_doesApply_45 : decode cX6_doesApply 45 = .ok (.ifCond .ne 7, 3) := by decide +kernel
theorem dX6_doesApply_48 : decode cX6_doesApply 48 = .ok (.iconst 1, 1) := by decide +kernel
theorem dX6_doesApply_49 : decode cX6_doesApply 49 = .ok (.goto 4, 3) := by decide +kernel
theorem dX6_doesApply_52 : decode cX6_doesApply 52 = .ok (.iconst 0, 1) := by decide +kernel
theorem dX6_doesApply_53 : decode cX6_doesApply 53 = .ok (.istore_n 3, 1) := by decide +kernel
theorem dX6_doesApply_54 : decode cX6_doesApply 54 = .ok (.iinc 4 1, 3) := by decide +kernel
theorem dX6_doesApply_57 : decode cX6_doesApply 57 = .ok (.goto (-47), 3) := by decide +kernel
theorem dX6_doesApply_60 : decode cX6_doesApply 60 = .ok (.iload_n 3, 1) := by decide +kernel
theorem dX6_doesApply_61 : decode cX6_doesApply 61 = .ok (.ireturn, 1) := by decide +kernel
theorem dX6_applying_0 : decode cX6_applying 0 = .ok (.iconst 0, 1) := by decide +kernel
theorem dX6_applying_1 : decode cX6_applying 1 = .ok (.istore_n 2, 1) := by decide +kernel
theorem dX6_applying_2 : decode cX6_applying 2 = .ok (.iconst 0, 1) := by decide +kernel
theorem dX6_applying_3 : decode cX6_applying 3 = .ok (.istore_n 3, 1) := by decide +kernel
theorem dX6_applying_4 : decode cX6_applying 4 = .ok (.iload_n 3, 1) := by decide +kernel
theorem dX6_applying_5 : decode cX6_applying 5 = .ok (.aload_n 0, 1) := by decide +kernel
theorem dX6_applying_6 : decode cX6_applying 6 = .ok (.getfield 108, 3) := by decide +kernel
theorem dX6_applying_9 : decode cX6_applying 9 = .ok (.if_icmp .ge 28, 3) := by decide +kernel
theorem dX6_applying_12 : decode cX6_applying 12 = .ok (.iload_n 2, 1) := by decide +kernel
theorem dX6_applying_13 : decode cX6_applying 13 = .ok (.aload_n 0, 1) := by decide +kernel
theorem dX6_applying_14 : decode cX6_applying 14 = .ok (.iload_n 3, 1) := by decide +kernel
theorem dX6_applying_15 : decode cX6_applying 15 = .ok (.iload_n 1, 1) := by decide +kernel
theorem dX6_applying_16 : decode cX6_applying 16 = .ok (.invokevirtual 155, 3) := by decide +kernel
theorem dX6_applying_19 : decode cX6_applying 19 = .ok (.ifCond .eq 9, 3) := by decide +kernel
theorem dX6_applying_22 : decode cX6_applying 22 = .ok (.iconst 1, 1) := by decide +kernel
theorem dX6_applying_23 : decode cX6_applying 23 = .ok (.iload_n 3, 1) := by decide +kernel
theorem dX6_applying_24 : decode cX6_applying 24 = .ok (.ishl, 1) := by decide +kernel
theorem dX6_applying_25 : decode cX6_applying 25 = .ok (.goto 4, 3) := by decide +kernel
theorem dX6_applying_28 : decode cX6_applying 28 = .ok (.iconst 0, 1) := by decide +kernel
theorem dX6_applying_29 : decode cX6_applying 29 = .ok (.ior, 1) := by decide +kernel
theorem dX6_applying_30 : decode cX6_applying 30 = .ok (.istore_n 2, 1) := by decide +kernel
theorem dX6_applying_31 : decode cX6_applying 31 = .ok (.iinc 3 1, 3) := by decide +kernel
theorem dX6_applying_34 : decode cX6_applying 34 = .ok (.goto (-30), 3) := by decide +kernel
theorem dX6_applying_37 : decode cX6_applying 37 = .ok (.iload_n 2, 1) := by decide +kernel
theorem dX6_applying_38 : decode cX6_applying 38 = .ok (.ireturn, 1) := by decide +kernel
theorem dX6_demandsOf_0 : decode cX6_demandsOf 0 = .ok (.iconst 0, 1) := by decide +kernel
theorem dX6_demandsOf_1 : decode cX6_demandsOf 1 = .ok (.istore_n 2, 1) := by decide +kernel
theorem dX6_demandsOf_2 : decode cX6_demandsOf 2 = .ok (.iconst 0, 1) := by decide +kernel
theorem dX6_demandsOf_3 : decode cX6_demandsOf 3 = .ok (.istore_n 3, 1) := by decide +kernel
theorem dX6_demandsOf_4 : decode cX6_demandsOf 4 = .ok (.iload_n 3, 1) := by decide +kernel
theorem dX6_demandsOf_5 : decode cX6_demandsOf 5 = .ok (.aload_n 0, 1) := by decide +kernel
theorem dX6_demandsOf_6 : decode cX6_demandsOf 6 = .ok (.getfield 108, 3) := by decide +kernel
theorem dX6_demandsOf_9 : decode cX6_demandsOf 9 = .ok (.if_icmp .ge 31, 3) := by decide +kernel
theorem dX6_demandsOf_12 : decode cX6_demandsOf 12 = .ok (.iload_n 2, 1) := by decide +kernel
theorem dX6_demandsOf_13 : decode cX6_demandsOf 13 = .ok (.aload_n 0, 1) := by decide +kernel
theorem dX6_demandsOf_14 : decode cX6_demandsOf 14 = .ok (.iload_n 3, 1) := by decide +kernel
theorem dX6_demandsOf_15 : decode cX6_demandsOf 15 = .ok (.iload_n 1, 1) := by decide +kernel
theorem dX6_demandsOf_16 : decode cX6_demandsOf 16 = .ok (.invokevirtual 155, 3) := by decide +kernel
theorem dX6_demandsOf_19 : decode cX6_demandsOf 19 = .ok (.ifCond .eq 12, 3) := by decide +kernel
theorem dX6_demandsOf_22 : decode cX6_demandsOf 22 = .ok (.aload_n 0, 1) := by decide +kernel
theorem dX6_demandsOf_23 : decode cX6_demandsOf 23 = .ok (.getfield 16, 3) := by decide +kernel
theorem dX6_demandsOf_26 : decode cX6_demandsOf 26 = .ok (.iload_n 3, 1) := by decide +kernel
theorem dX6_demandsOf_27 : decode cX6_demandsOf 27 = .ok (.iaload, 1) := by decide +kernel
theorem dX6_demandsOf_28 : decode cX6_demandsOf 28 = .ok (.goto 4, 3) := by decide +kernel
theorem dX6_demandsOf_31 : decode cX6_demandsOf 31 = .ok (.iconst 0, 1) := by decide +kernel
theorem dX6_demandsOf_32 : decode cX6_demandsOf 32 = .ok (.ior, 1) := by decide +kernel
theorem dX6_demandsOf_33 : decode cX6_demandsOf 33 = .ok (.istore_n 2, 1) := by decide +kernel
theorem dX6_demandsOf_34 : decode cX6_demandsOf 34 = .ok (.iinc 3 1, 3) := by decide +kernel
theorem dX6_demandsOf_37 : decode cX6_demandsOf 37 = .ok (.goto (-33), 3) := by decide +kernel
theorem dX6_demandsOf_40 : decode cX6_demandsOf 40 = .ok (.iconst 0, 1) := by decide +kernel
theorem dX6_demandsOf_41 : decode cX6_demandsOf 41 = .ok (.istore_n 3, 1) := by decide +kernel
theorem dX6_demandsOf_42 : decode cX6_demandsOf 42 = .ok (.iload_n 3, 1) := by decide +kernel
theorem dX6_demandsOf_43 : decode cX6_demandsOf 43 = .ok (.bipush 8, 2) := by decide +kernel
theorem dX6_demandsOf_45 : decode cX6_demandsOf 45 = .ok (.if_icmp .ge 35, 3) := by decide +kernel
theorem dX6_demandsOf_48 : decode cX6_demandsOf 48 = .ok (.iload_n 2, 1) := by decide +kernel
theorem dX6_demandsOf_49 : decode cX6_demandsOf 49 = .ok (.aload_n 0, 1) := by decide +kernel
theorem dX6_demandsOf_50 : decode cX6_demandsOf 50 = .ok (.getfield 44, 3) := by decide +kernel
theorem dX6_demandsOf_53 : decode cX6_demandsOf 53 = .ok (.bipush 8, 2) := by decide +kernel
theorem dX6_demandsOf_55 : decode cX6_demandsOf 55 = .ok (.iload_n 1, 1) := by decide +kernel
theorem dX6_demandsOf_56 : decode cX6_demandsOf 56 = .ok (.imul, 1) := by decide +kernel
theorem dX6_demandsOf_57 : decode cX6_demandsOf 57 = .ok (.iload_n 3, 1) := by decide +kernel
theorem dX6_demandsOf_58 : decode cX6_demandsOf 58 = .ok (.iadd, 1) := by decide +kernel
theorem dX6_demandsOf_59 : decode cX6_demandsOf 59 = .ok (.iaload, 1) := by decide +kernel
theorem dX6_demandsOf_60 : decode cX6_demandsOf 60 = .ok (.ifCond .ne 11, 3) := by decide +kernel
theorem dX6_demandsOf_63 : decode cX6_demandsOf 63 = .ok (.iconst 1, 1) := by decide +kernel
theorem dX6_demandsOf_64 : decode cX6_demandsOf 64 = .ok (.iload_n 3, 1) := by decide +kernel
theorem dX6_demandsOf_65 : decode cX6_demandsOf 65 = .ok (.ishl, 1) := by decide +kernel
theorem dX6_demandsOf_66 : decode cX6_demandsOf 66 = .ok (.iconst (-1), 1) := by decide +kernel
theorem dX6_demandsOf_67 : decode cX6_demandsOf 67 = .ok (.ixor, 1) := by decide +kernel
theorem dX6_demandsOf_68 : decode cX6_demandsOf 68 = .ok (.goto 4, 3) := by decide +kernel
theorem dX6_demandsOf_71 : decode cX6_demandsOf 71 = .ok (.iconst (-1), 1) := by decide +kernel
theorem dX6_demandsOf_72 : decode cX6_demandsOf 72 = .ok (.iand, 1) := by decide +kernel
theorem dX6_demandsOf_73 : decode cX6_demandsOf 73 = .ok (.istore_n 2, 1) := by decide +kernel
theorem dX6_demandsOf_74 : decode cX6_demandsOf 74 = .ok (.iinc 3 1, 3) := by decide +kernel
theorem dX6_demandsOf_77 : decode cX6_demandsOf 77 = .ok (.goto (-35), 3) := by decide +kernel
theorem dX6_demandsOf_80 : decode cX6_demandsOf 80 = .ok (.iload_n 2, 1) := by decide +kernel
theorem dX6_demandsOf_81 : decode cX6_demandsOf 81 = .ok (.ireturn, 1) := by decide +kernel
theorem dX6_shown_0 : decode cX6_shown 0 = .ok (.aload_n 0, 1) := by decide +kernel
theorem dX6_shown_1 : decode cX6_shown 1 = .ok (.getfield 53, 3) := by decide +kernel
theorem dX6_shown_4 : decode cX6_shown 4 = .ok (.iload_n 1, 1) := by decide +kernel
theorem dX6_shown_5 : decode cX6_shown 5 = .ok (.iaload, 1) := by decide +kernel
theorem dX6_shown_6 : decode cX6_shown 6 = .ok (.istore_n 2, 1) := by decide +kernel
theorem dX6_shown_7 : decode cX6_shown 7 = .ok (.iconst 0, 1) := by decide +kernel
theorem dX6_shown_8 : decode cX6_shown 8 = .ok (.istore_n 3, 1) := by decide +kernel
theorem dX6_shown_9 : decode cX6_shown 9 = .ok (.iload_n 3, 1) := by decide +kernel
theorem dX6_shown_10 : decode cX6_shown 10 = .ok (.aload_n 0, 1) := by decide +kernel
theorem dX6_shown_11 : decode cX6_shown 11 = .ok (.getfield 115, 3) := by decide +kernel
theorem dX6_shown_14 : decode cX6_shown 14 = .ok (.if_icmp .ge 56, 3) := by decide +kernel
theorem dX6_shown_17 : decode cX6_shown 17 = .ok (.iload_n 2, 1) := by decide +kernel
theorem dX6_shown_18 : decode cX6_shown 18 = .ok (.aload_n 0, 1) := by decide +kernel
theorem dX6_shown_19 : decode cX6_shown 19 = .ok (.getfield 142, 3) := by decide +kernel
theorem dX6_shown_22 : decode cX6_shown 22 = .ok (.aload_n 0, 1) := by decide +kernel
theorem dX6_shown_23 : decode cX6_shown 23 = .ok (.getfield 32, 3) := by decide +kernel
theorem dX6_shown_26 : decode cX6_shown 26 = .ok (.iload_n 3, 1) := by decide +kernel
theorem dX6_shown_27 : decode cX6_shown 27 = .ok (.iaload, 1) := by decide +kernel
theorem dX6_shown_28 : decode cX6_shown 28 = .ok (.aload_n 0, 1) := by decide +kernel
theorem dX6_shown_29 : decode cX6_shown 29 = .ok (.getfield 35, 3) := by decide +kernel
theorem dX6_shown_32 : decode cX6_shown 32 = .ok (.iload_n 3, 1) := by decide +kernel
theorem dX6_shown_33 : decode cX6_shown 33 = .ok (.iaload, 1) := by decide +kernel
theorem dX6_shown_34 : decode cX6_shown 34 = .ok (.invokestatic 111, 3) := by decide +kernel
theorem dX6_shown_37 : decode cX6_shown 37 = .ok (.ifCond .eq 24, 3) := by decide +kernel
theorem dX6_shown_40 : decode cX6_shown 40 = .ok (.aload_n 0, 1) := by decide +kernel
theorem dX6_shown_41 : decode cX6_shown 41 = .ok (.getfield 50, 3) := by decide +kernel
theorem dX6_shown_44 : decode cX6_shown 44 = .ok (.bipush 12, 2) := by decide +kernel
theorem dX6_shown_46 : decode cX6_shown 46 = .ok (.iload_n 1, 1) := by decide +kernel
theorem dX6_shown_47 : decode cX6_shown 47 = .ok (.imul, 1) := by decide +kernel
theorem dX6_shown_48 : decode cX6_shown 48 = .ok (.iload_n 3, 1) := by decide +kernel
theorem dX6_shown_49 : decode cX6_shown 49 = .ok (.iadd, 1) := by decide +kernel
theorem dX6_shown_50 : decode cX6_shown 50 = .ok (.iaload, 1) := by decide +kernel
theorem dX6_shown_51 : decode cX6_shown 51 = .ok (.aload_n 0, 1) := by decide +kernel
theorem dX6_shown_52 : decode cX6_shown 52 = .ok (.getfield 29, 3) := by decide +kernel
theorem dX6_shown_55 : decode cX6_shown 55 = .ok (.iload_n 3, 1) := by decide +kernel
theorem dX6_shown_56 : decode cX6_shown 56 = .ok (.iaload, 1) := by decide +kernel
theorem dX6_shown_57 : decode cX6_shown 57 = .ok (.iand, 1) := by decide +kernel
theorem dX6_shown_58 : decode cX6_shown 58 = .ok (.goto 4, 3) := by decide +kernel
theorem dX6_shown_61 : decode cX6_shown 61 = .ok (.iconst 0, 1) := by decide +kernel
theorem dX6_shown_62 : decode cX6_shown 62 = .ok (.ior, 1) := by decide +kernel
theorem dX6_shown_63 : decode cX6_shown 63 = .ok (.istore_n 2, 1) := by decide +kernel
theorem dX6_shown_64 : decode cX6_shown 64 = .ok (.iinc 3 1, 3) := by decide +kernel
theorem dX6_shown_67 : decode cX6_shown 67 = .ok (.goto (-58), 3) := by decide +kernel
theorem dX6_shown_70 : decode cX6_shown 70 = .ok (.iload_n 2, 1) := by decide +kernel
theorem dX6_shown_71 : decode cX6_shown 71 = .ok (.ireturn, 1) := by decide +kernel
theorem dX6_lowOf_0 : decode cX6_lowOf 0 = .ok (.aload_n 0, 1) := by decide +kernel
theorem dX6_lowOf_1 : decode cX6_lowOf 1 = .ok (.iload_n 1, 1) := by decide +kernel
theorem dX6_lowOf_2 : decode cX6_lowOf 2 = .ok (.invokevirtual 158, 3) := by decide +kernel
theorem dX6_lowOf_5 : decode cX6_lowOf 5 = .ok (.istore_n 2, 1) := by decide +kernel
theorem dX6_lowOf_6 : decode cX6_lowOf 6 = .ok (.iconst 0, 1) := by decide +kernel
theorem dX6_lowOf_7 : decode cX6_lowOf 7 = .ok (.istore_n 3, 1) := by decide +kernel
theorem dX6_lowOf_8 : decode cX6_lowOf 8 = .ok (.iload_n 3, 1) := by decide +kernel
theorem dX6_lowOf_9 : decode cX6_lowOf 9 = .ok (.bipush 8, 2) := by decide +kernel
theorem dX6_lowOf_11 : decode cX6_lowOf 11 = .ok (.if_icmp .ge 36, 3) := by decide +kernel
theorem dX6_lowOf_14 : decode cX6_lowOf 14 = .ok (.iload_n 2, 1) := by decide +kernel
theorem dX6_lowOf_15 : decode cX6_lowOf 15 = .ok (.aload_n 0, 1) := by decide +kernel
theorem dX6_lowOf_16 : decode cX6_lowOf 16 = .ok (.getfield 47, 3) := by decide +kernel
theorem dX6_lowOf_19 : decode cX6_lowOf 19 = .ok (.bipush 8, 2) := by decide +kernel
theorem dX6_lowOf_21 : decode cX6_lowOf 21 = .ok (.iload_n 1, 1) := by decide +kernel
theorem dX6_lowOf_22 : decode cX6_lowOf 22 = .ok (.imul, 1) := by decide +kernel
theorem dX6_lowOf_23 : decode cX6_lowOf 23 = .ok (.iload_n 3, 1) := by decide +kernel
theorem dX6_lowOf_24 : decode cX6_lowOf 24 = .ok (.iadd, 1) := by decide +kernel
theorem dX6_lowOf_25 : decode cX6_lowOf 25 = .ok (.iaload, 1) := by decide +kernel
theorem dX6_lowOf_26 : decode cX6_lowOf 26 = .ok (.iconst 4, 1) := by decide +kernel
theorem dX6_lowOf_27 : decode cX6_lowOf 27 = .ok (.if_icmp .le 11, 3) := by decide +kernel
theorem dX6_lowOf_30 : decode cX6_lowOf 30 = .ok (.iconst 1, 1) := by decide +kernel
theorem dX6_lowOf_31 : decode cX6_lowOf 31 = .ok (.iload_n 3, 1) := by decide +kernel
theorem dX6_lowOf_32 : decode cX6_lowOf 32 = .ok (.ishl, 1) := by decide +kernel
theorem dX6_lowOf_33 : decode cX6_lowOf 33 = .ok (.iconst (-1), 1) := by decide +kernel
theorem dX6_lowOf_34 : decode cX6_lowOf 34 = .ok (.ixor, 1) := by decide +kernel
theorem dX6_lowOf_35 : decode cX6_lowOf 35 = .ok (.goto 4, 3) := by decide +kernel
theorem dX6_lowOf_38 : decode cX6_lowOf 38 = .ok (.iconst (-1), 1) := by decide +kernel
theorem dX6_lowOf_39 : decode cX6_lowOf 39 = .ok (.iand, 1) := by decide +kernel
theorem dX6_lowOf_40 : decode cX6_lowOf 40 = .ok (.istore_n 2, 1) := by decide +kernel
theorem dX6_lowOf_41 : decode cX6_lowOf 41 = .ok (.iinc 3 1, 3) := by decide +kernel
theorem dX6_lowOf_44 : decode cX6_lowOf 44 = .ok (.goto (-36), 3) := by decide +kernel
theorem dX6_lowOf_47 : decode cX6_lowOf 47 = .ok (.iload_n 2, 1) := by decide +kernel
theorem dX6_lowOf_48 : decode cX6_lowOf 48 = .ok (.ireturn, 1) := by decide +kernel
theorem dX6_keptOf_0 : decode cX6_keptOf 0 = .ok (.aload_n 0, 1) := by decide +kernel
theorem dX6_keptOf_1 : decode cX6_keptOf 1 = .ok (.iload_n 1, 1) := by decide +kernel
theorem dX6_keptOf_2 : decode cX6_keptOf 2 = .ok (.invokevirtual 162, 3) := by decide +kernel
theorem dX6_keptOf_5 : decode cX6_keptOf 5 = .ok (.aload_n 0, 1) := by decide +kernel
theorem dX6_keptOf_6 : decode cX6_keptOf 6 = .ok (.iload_n 1, 1) := by decide +kernel
theorem dX6_keptOf_7 : decode cX6_keptOf 7 = .ok (.invokevirtual 165, 3) := by decide +kernel
theorem dX6_keptOf_10 : decode cX6_keptOf 10 = .ok (.iand, 1) := by decide +kernel
theorem dX6_keptOf_11 : decode cX6_keptOf 11 = .ok (.ireturn, 1) := by decide +kernel
theorem dX6_wayOf_0 : decode cX6_wayOf 0 = .ok (.aload_n 0, 1) := by decide +kernel
theorem dX6_wayOf_1 : decode cX6_wayOf 1 = .ok (.iload_n 1, 1) := by decide +kernel
theorem dX6_wayOf_2 : decode cX6_wayOf 2 = .ok (.invokevirtual 158, 3) := by decide +kernel
theorem dX6_wayOf_5 : decode cX6_wayOf 5 = .ok (.istore_n 2, 1) := by decide +kernel
theorem dX6_wayOf_6 : decode cX6_wayOf 6 = .ok (.iconst 0, 1) := by decide +kernel
theorem dX6_wayOf_7 : decode cX6_wayOf 7 = .ok (.istore_n 3, 1) := by decide +kernel
theorem dX6_wayOf_8 : decode cX6_wayOf 8 = .ok (.iconst 0, 1) := by decide +kernel
theorem dX6_wayOf_9 : decode cX6_wayOf 9 = .ok (.istore 4, 2) := by decide +kernel
theorem dX6_wayOf_11 : decode cX6_wayOf 11 = .ok (.iload 4, 2) := by decide +kernel
theorem dX6_wayOf_13 : decode cX6_wayOf 13 = .ok (.bipush 8, 2) := by decide +kernel
theorem dX6_wayOf_15 : decode cX6_wayOf 15 = .ok (.if_icmp .ge 50, 3) := by decide +kernel
theorem dX6_wayOf_18 : decode cX6_wayOf 18 = .ok (.iload_n 2, 1) := by decide +kernel
theorem dX6_wayOf_19 : decode cX6_wayOf 19 = .ok (.iload 4, 2) := by decide +kernel
theorem dX6_wayOf_21 : decode cX6_wayOf 21 = .ok (.ishr, 1) := by decide +kernel
theorem dX6_wayOf_22 : decode cX6_wayOf 22 = .ok (.iconst 1, 1) := by decide +kernel
theorem dX6_wayOf_23 : decode cX6_wayOf 23 = .ok (.iand, 1) := by decide +kernel
theorem dX6_wayOf_24 : decode cX6_wayOf 24 = .ok (.iconst 1, 1) := by decide +kernel
theorem dX6_wayOf_25 : decode cX6_wayOf 25 = .ok (.if_icmp .ne 18, 3) := by decide +kernel
theorem dX6_wayOf_28 : decode cX6_wayOf 28 = .ok (.aload_n 0, 1) := by decide +kernel
theorem dX6_wayOf_29 : decode cX6_wayOf 29 = .ok (.getfield 44, 3) := by decide +kernel
theorem dX6_wayOf_32 : decode cX6_wayOf 32 = .ok (.bipush 8, 2) := by decide +kernel
theorem dX6_wayOf_34 : decode cX6_wayOf 34 = .ok (.iload_n 1, 1) := by decide +kernel
theorem dX6_wayOf_35 : decode cX6_wayOf 35 = .ok (.imul, 1) := by decide +kernel
theorem dX6_wayOf_36 : decode cX6_wayOf 36 = .ok (.iload 4, 2) := by decide +kernel
theorem dX6_wayOf_38 : decode cX6_wayOf 38 = .ok (.iadd, 1) := by decide +kernel
theorem dX6_wayOf_39 : decode cX6_wayOf 39 = .ok (.iaload, 1) := by decide +kernel
theorem dX6_wayOf_40 : decode cX6_wayOf 40 = .ok (.goto 4, 3) := by decide +kernel
theorem dX6_wayOf_43 : decode cX6_wayOf 43 = .ok (.iconst 0, 1) := by decide +kernel
theorem dX6_wayOf_44 : decode cX6_wayOf 44 = .ok (.istore 5, 2) := by decide +kernel
theorem dX6_wayOf_46 : decode cX6_wayOf 46 = .ok (.iload 5, 2) := by decide +kernel
theorem dX6_wayOf_48 : decode cX6_wayOf 48 = .ok (.iload_n 3, 1) := by decide +kernel
theorem dX6_wayOf_49 : decode cX6_wayOf 49 = .ok (.if_icmp .le 8, 3) := by decide +kernel
theorem dX6_wayOf_52 : decode cX6_wayOf 52 = .ok (.iload 5, 2) := by decide +kernel
theorem dX6_wayOf_54 : decode cX6_wayOf 54 = .ok (.goto 4, 3) := by decide +kernel
theorem dX6_wayOf_57 : decode cX6_wayOf 57 = .ok (.iload_n 3, 1) := by decide +kernel
theorem dX6_wayOf_58 : decode cX6_wayOf 58 = .ok (.istore_n 3, 1) := by decide +kernel
theorem dX6_wayOf_59 : decode cX6_wayOf 59 = .ok (.iinc 4 1, 3) := by decide +kernel
theorem dX6_wayOf_62 : decode cX6_wayOf 62 = .ok (.goto (-51), 3) := by decide +kernel
theorem dX6_wayOf_65 : decode cX6_wayOf 65 = .ok (.iload_n 3, 1) := by decide +kernel
theorem dX6_wayOf_66 : decode cX6_wayOf 66 = .ok (.bipush 6, 2) := by decide +kernel
theorem dX6_wayOf_68 : decode cX6_wayOf 68 = .ok (.if_icmp .le 7, 3) := by decide +kernel
theorem dX6_wayOf_71 : decode cX6_wayOf 71 = .ok (.iconst 2, 1) := by decide +kernel
theorem dX6_wayOf_72 : decode cX6_wayOf 72 = .ok (.goto 13, 3) := by decide +kernel
theorem dX6_wayOf_75 : decode cX6_wayOf 75 = .ok (.iload_n 3, 1) := by decide +kernel
theorem dX6_wayOf_76 : decode cX6_wayOf 76 = .ok (.iconst 3, 1) := by decide +kernel
theorem dX6_wayOf_77 : decode cX6_wayOf 77 = .ok (.if_icmp .le 7, 3) := by decide +kernel
theorem dX6_wayOf_80 : decode cX6_wayOf 80 = .ok (.iconst 1, 1) := by decide +kernel
theorem dX6_wayOf_81 : decode cX6_wayOf 81 = .ok (.goto 4, 3) := by decide +kernel
theorem dX6_wayOf_84 : decode cX6_wayOf 84 = .ok (.iconst 0, 1) := by decide +kernel
theorem dX6_wayOf_85 : decode cX6_wayOf 85 = .ok (.ireturn, 1) := by decide +kernel
theorem dX6_hasScope_0 : decode cX6_hasScope 0 = .ok (.aload_n 0, 1) := by decide +kernel
theorem dX6_hasScope_1 : decode cX6_hasScope 1 = .ok (.iload_n 2, 1) := by decide +kernel
theorem dX6_hasScope_2 : decode cX6_hasScope 2 = .ok (.invokevirtual 168, 3) := by decide +kernel
theorem dX6_hasScope_5 : decode cX6_hasScope 5 = .ok (.aload_n 0, 1) := by decide +kernel
theorem dX6_hasScope_6 : decode cX6_hasScope 6 = .ok (.getfield 71, 3) := by decide +kernel
theorem dX6_hasScope_9 : decode cX6_hasScope 9 = .ok (.iload_n 1, 1) := by decide +kernel
theorem dX6_hasScope_10 : decode cX6_hasScope 10 = .ok (.iaload, 1) := by decide +kernel
theorem dX6_hasScope_11 : decode cX6_hasScope 11 = .ok (.iconst (-1), 1) := by decide +kernel
theorem dX6_hasScope_12 : decode cX6_hasScope 12 = .ok (.ixor, 1) := by decide +kernel
theorem dX6_hasScope_13 : decode cX6_hasScope 13 = .ok (.iand, 1) := by decide +kernel
theorem dX6_hasScope_14 : decode cX6_hasScope 14 = .ok (.ifCond .ne 7, 3) := by decide +kernel
theorem dX6_hasScope_17 : decode cX6_hasScope 17 = .ok (.iconst 1, 1) := by decide +kernel
theorem dX6_hasScope_18 : decode cX6_hasScope 18 = .ok (.goto 4, 3) := by decide +kernel
theorem dX6_hasScope_21 : decode cX6_hasScope 21 = .ok (.iconst 0, 1) := by decide +kernel
theorem dX6_hasScope_22 : decode cX6_hasScope 22 = .ok (.ireturn, 1) := by decide +kernel
theorem dX6_holds_0 : decode cX6_holds 0 = .ok (.aload_n 0, 1) := by decide +kernel
theorem dX6_holds_1 : decode cX6_holds 1 = .ok (.getfield 56, 3) := by decide +kernel
theorem dX6_holds_4 : decode cX6_holds 4 = .ok (.iload_n 1, 1) := by decide +kernel
theorem dX6_holds_5 : decode cX6_holds 5 = .ok (.iaload, 1) := by decide +kernel
theorem dX6_holds_6 : decode cX6_holds 6 = .ok (.istore_n 2, 1) := by decide +kernel
theorem dX6_holds_7 : decode cX6_holds 7 = .ok (.iload_n 2, 1) := by decide +kernel
theorem dX6_holds_8 : decode cX6_holds 8 = .ok (.iconst (-1), 1) := by decide +kernel
theorem dX6_holds_9 : decode cX6_holds 9 = .ok (.if_icmp .eq 55, 3) := by decide +kernel
theorem dX6_holds_12 : decode cX6_holds 12 = .ok (.aload_n 0, 1) := by decide +kernel
theorem dX6_holds_13 : decode cX6_holds 13 = .ok (.getfield 142, 3) := by decide +kernel
theorem dX6_holds_16 : decode cX6_holds 16 = .ok (.aload_n 0, 1) := by decide +kernel
theorem dX6_holds_17 : decode cX6_holds 17 = .ok (.getfield 59, 3) := by decide +kernel
theorem dX6_holds_20 : decode cX6_holds 20 = .ok (.iload_n 1, 1) := by decide +kernel
theorem dX6_holds_21 : decode cX6_holds 21 = .ok (.iaload, 1) := by decide +kernel
theorem dX6_holds_22 : decode cX6_holds 22 = .ok (.if_icmp .gt 42, 3) := by decide +kernel
theorem dX6_holds_25 : decode cX6_holds 25 = .ok (.aload_n 0, 1) := by decide +kernel
theorem dX6_holds_26 : decode cX6_holds 26 = .ok (.iload_n 2, 1) := by decide +kernel
theorem dX6_holds_27 : decode cX6_holds 27 = .ok (.iload_n 1, 1) := by decide +kernel
theorem dX6_holds_28 : decode cX6_holds 28 = .ok (.invokevirtual 171, 3) := by decide +kernel
theorem dX6_holds_31 : decode cX6_holds 31 = .ok (.ifCond .eq 33, 3) := by decide +kernel
theorem dX6_holds_34 : decode cX6_holds 34 = .ok (.aload_n 0, 1) := by decide +kernel
theorem dX6_holds_35 : decode cX6_holds 35 = .ok (.getfield 74, 3) := by decide +kernel
theorem dX6_holds_38 : decode cX6_holds 38 = .ok (.iload_n 2, 1) := by decide +kernel
theorem dX6_holds_39 : decode cX6_holds 39 = .ok (.iaload, 1) := by decide +kernel
theorem dX6_holds_40 : decode cX6_holds 40 = .ok (.iconst (-1), 1) := by decide +kernel
theorem dX6_holds_41 : decode cX6_holds 41 = .ok (.if_icmp .eq 19, 3) := by decide +kernel
theorem dX6_holds_44 : decode cX6_holds 44 = .ok (.aload_n 0, 1) := by decide +kernel
theorem dX6_holds_45 : decode cX6_holds 45 = .ok (.getfield 142, 3) := by decide +kernel
theorem dX6_holds_48 : decode cX6_holds 48 = .ok (.aload_n 0, 1) := by decide +kernel
theorem dX6_holds_49 : decode cX6_holds 49 = .ok (.getfield 74, 3) := by decide +kernel
theorem dX6_holds_52 : decode cX6_holds 52 = .ok (.iload_n 2, 1) := by decide +kernel
theorem dX6_holds_53 : decode cX6_holds 53 = .ok (.iaload, 1) := by decide +kernel
theorem dX6_holds_54 : decode cX6_holds 54 = .ok (.bipush 100, 2) := by decide +kernel
theorem dX6_holds_56 : decode cX6_holds 56 = .ok (.iadd, 1) := by decide +kernel
theorem dX6_holds_57 : decode cX6_holds 57 = .ok (.if_icmp .gt 7, 3) := by decide +kernel
theorem dX6_holds_60 : decode cX6_holds 60 = .ok (.iconst 1, 1) := by decide +kernel
theorem dX6_holds_61 : decode cX6_holds 61 = .ok (.goto 4, 3) := by decide +kernel
theorem dX6_holds_64 : decode cX6_holds 64 = .ok (.iconst 0, 1) := by decide +kernel
theorem dX6_holds_65 : decode cX6_holds 65 = .ok (.ireturn, 1) := by decide +kernel
theorem dX6_wantingOf_0 : decode cX6_wantingOf 0 = .ok (.aload_n 0, 1) := by decide +kernel
theorem dX6_wantingOf_1 : decode cX6_wantingOf 1 = .ok (.getfield 68, 3) := by decide +kernel
theorem dX6_wantingOf_4 : decode cX6_wantingOf 4 = .ok (.iload_n 1, 1) := by decide +kernel
theorem dX6_wantingOf_5 : decode cX6_wantingOf 5 = .ok (.iaload, 1) := by decide +kernel
theorem dX6_wantingOf_6 : decode cX6_wantingOf 6 = .ok (.invokestatic 174, 3) := by decide +kernel
theorem dX6_wantingOf_9 : decode cX6_wantingOf 9 = .ok (.iconst 3, 1) := by decide +kernel
theorem dX6_wantingOf_10 : decode cX6_wantingOf 10 = .ok (.if_icmp .lt 5, 3) := by decide +kernel
theorem dX6_wantingOf_13 : decode cX6_wantingOf 13 = .ok (.iconst 1, 1) := by decide +kernel
theorem dX6_wantingOf_14 : decode cX6_wantingOf 14 = .ok (.ireturn, 1) := by decide +kernel
theorem dX6_wantingOf_15 : decode cX6_wantingOf 15 = .ok (.aload_n 0, 1) := by decide +kernel
theorem dX6_wantingOf_16 : decode cX6_wantingOf 16 = .ok (.iload_n 1, 1) := by decide +kernel
theorem dX6_wantingOf_17 : decode cX6_wantingOf 17 = .ok (.invokevirtual 158, 3) := by decide +kernel
theorem dX6_wantingOf_20 : decode cX6_wantingOf 20 = .ok (.istore_n 2, 1) := by decide +kernel
theorem dX6_wantingOf_21 : decode cX6_wantingOf 21 = .ok (.aload_n 0, 1) := by decide +kernel
theorem dX6_wantingOf_22 : decode cX6_wantingOf 22 = .ok (.iload_n 1, 1) := by decide +kernel
theorem dX6_wantingOf_23 : decode cX6_wantingOf 23 = .ok (.invokevirtual 162, 3) := by decide +kernel
theorem dX6_wantingOf_26 : decode cX6_wantingOf 26 = .ok (.iload_n 2, 1) := by decide +kernel
theorem dX6_wantingOf_27 : decode cX6_wantingOf 27 = .ok (.if_icmp .eq 5, 3) := by decide +kernel
theorem dX6_wantingOf_30 : decode cX6_wantingOf 30 = .ok (.iconst 2, 1) := by decide +kernel
theorem dX6_wantingOf_31 : decode cX6_wantingOf 31 = .ok (.ireturn, 1) := by decide +kernel
theorem dX6_wantingOf_32 : decode cX6_wantingOf 32 = .ok (.aload_n 0, 1) := by decide +kernel
theorem dX6_wantingOf_33 : decode cX6_wantingOf 33 = .ok (.iload_n 1, 1) := by decide +kernel
theorem dX6_wantingOf_34 : decode cX6_wantingOf 34 = .ok (.invokevirtual 177, 3) := by decide +kernel
theorem dX6_wantingOf_37 : decode cX6_wantingOf 37 = .ok (.iload_n 2, 1) := by decide +kernel
theorem dX6_wantingOf_38 : decode cX6_wantingOf 38 = .ok (.if_icmp .eq 5, 3) := by decide +kernel
theorem dX6_wantingOf_41 : decode cX6_wantingOf 41 = .ok (.iconst 3, 1) := by decide +kernel
theorem dX6_wantingOf_42 : decode cX6_wantingOf 42 = .ok (.ireturn, 1) := by decide +kernel
theorem dX6_wantingOf_43 : decode cX6_wantingOf 43 = .ok (.aload_n 0, 1) := by decide +kernel
theorem dX6_wantingOf_44 : decode cX6_wantingOf 44 = .ok (.iload_n 1, 1) := by decide +kernel
theorem dX6_wantingOf_45 : decode cX6_wantingOf 45 = .ok (.invokevirtual 180, 3) := by decide +kernel
theorem dX6_wantingOf_48 : decode cX6_wantingOf 48 = .ok (.istore_n 3, 1) := by decide +kernel
theorem dX6_wantingOf_49 : decode cX6_wantingOf 49 = .ok (.iload_n 3, 1) := by decide +kernel
theorem dX6_wantingOf_50 : decode cX6_wantingOf 50 = .ok (.ifCond .eq 13, 3) := by decide +kernel
theorem dX6_wantingOf_53 : decode cX6_wantingOf 53 = .ok (.aload_n 0, 1) := by decide +kernel
theorem dX6_wantingOf_54 : decode cX6_wantingOf 54 = .ok (.iload_n 1, 1) := by decide +kernel
theorem dX6_wantingOf_55 : decode cX6_wantingOf 55 = .ok (.invokevirtual 183, 3) := by decide +kernel
theorem dX6_wantingOf_58 : decode cX6_wantingOf 58 = .ok (.ifCond .ne 5, 3) := by decide +kernel
theorem dX6_wantingOf_61 : decode cX6_wantingOf 61 = .ok (.iconst 4, 1) := by decide +kernel
theorem dX6_wantingOf_62 : decode cX6_wantingOf 62 = .ok (.ireturn, 1) := by decide +kernel
theorem dX6_wantingOf_63 : decode cX6_wantingOf 63 = .ok (.iload_n 3, 1) := by decide +kernel
theorem dX6_wantingOf_64 : decode cX6_wantingOf 64 = .ok (.iconst 2, 1) := by decide +kernel
theorem dX6_wantingOf_65 : decode cX6_wantingOf 65 = .ok (.if_icmp .ne 32, 3) := by decide +kernel
theorem dX6_wantingOf_68 : decode cX6_wantingOf 68 = .ok (.aload_n 0, 1) := by decide +kernel
theorem dX6_wantingOf_69 : decode cX6_wantingOf 69 = .ok (.getfield 62, 3) := by decide +kernel
theorem dX6_wantingOf_72 : decode cX6_wantingOf 72 = .ok (.iload_n 1, 1) := by decide +kernel
theorem dX6_wantingOf_73 : decode cX6_wantingOf 73 = .ok (.iaload, 1) := by decide +kernel
theorem dX6_wantingOf_74 : decode cX6_wantingOf 74 = .ok (.iconst (-1), 1) := by decide +kernel
theorem dX6_wantingOf_75 : decode cX6_wantingOf 75 = .ok (.if_icmp .eq 20, 3) := by decide +kernel
theorem dX6_wantingOf_78 : decode cX6_wantingOf 78 = .ok (.aload_n 0, 1) := by decide +kernel
theorem dX6_wantingOf_79 : decode cX6_wantingOf 79 = .ok (.getfield 142, 3) := by decide +kernel
theorem dX6_wantingOf_82 : decode cX6_wantingOf 82 = .ok (.aload_n 0, 1) := by decide +kernel
theorem dX6_wantingOf_83 : decode cX6_wantingOf 83 = .ok (.getfield 62, 3) := by decide +kernel
theorem dX6_wantingOf_86 : decode cX6_wantingOf 86 = .ok (.iload_n 1, 1) := by decide +kernel
theorem dX6_wantingOf_87 : decode cX6_wantingOf 87 = .ok (.iaload, 1) := by decide +kernel
theorem dX6_wantingOf_88 : decode cX6_wantingOf 88 = .ok (.sipush 365, 3) := by decide +kernel
theorem dX6_wantingOf_91 : decode cX6_wantingOf 91 = .ok (.iadd, 1) := by decide +kernel
theorem dX6_wantingOf_92 : decode cX6_wantingOf 92 = .ok (.if_icmp .le 5, 3) := by decide +kernel
theorem dX6_wantingOf_95 : decode cX6_wantingOf 95 = .ok (.iconst 5, 1) := by decide +kernel
theorem dX6_wantingOf_96 : decode cX6_wantingOf 96 = .ok (.ireturn, 1) := by decide +kernel
theorem dX6_wantingOf_97 : decode cX6_wantingOf 97 = .ok (.iload_n 2, 1) := by decide +kernel
theorem dX6_wantingOf_98 : decode cX6_wantingOf 98 = .ok (.ifCond .eq 18, 3) := by decide +kernel
theorem dX6_wantingOf_101 : decode cX6_wantingOf 101 = .ok (.aload_n 0, 1) := by decide +kernel
theorem dX6_wantingOf_102 : decode cX6_wantingOf 102 = .ok (.getfield 65, 3) := by decide +kernel
theorem dX6_wantingOf_105 : decode cX6_wantingOf 105 = .ok (.iload_n 1, 1) := by decide +kernel
theorem dX6_wantingOf_106 : decode cX6_wantingOf 106 = .ok (.iaload, 1) := by decide +kernel
theorem dX6_wantingOf_107 : decode cX6_wantingOf 107 = .ok (.iconst (-1), 1) := by decide +kernel
theorem dX6_wantingOf_108 : decode cX6_wantingOf 108 = .ok (.if_icmp .ne 8, 3) := by decide +kernel
theorem dX6_wantingOf_111 : decode cX6_wantingOf 111 = .ok (.bipush 6, 2) := by decide +kernel
theorem dX6_wantingOf_113 : decode cX6_wantingOf 113 = .ok (.goto 4, 3) := by decide +kernel
theorem dX6_wantingOf_116 : decode cX6_wantingOf 116 = .ok (.iconst 0, 1) := by decide +kernel
theorem dX6_wantingOf_117 : decode cX6_wantingOf 117 = .ok (.ireturn, 1) := by decide +kernel
theorem dX6_declare_0 : decode cX6_declare 0 = .ok (.aload_n 0, 1) := by decide +kernel
theorem dX6_declare_1 : decode cX6_declare 1 = .ok (.iload_n 1, 1) := by decide +kernel
theorem dX6_declare_2 : decode cX6_declare 2 = .ok (.invokevirtual 145, 3) := by decide +kernel
theorem dX6_declare_5 : decode cX6_declare 5 = .ok (.istore_n 2, 1) := by decide +kernel
theorem dX6_declare_6 : decode cX6_declare 6 = .ok (.aload_n 0, 1) := by decide +kernel
theorem dX6_declare_7 : decode cX6_declare 7 = .ok (.iload_n 2, 1) := by decide +kernel
theorem dX6_declare_8 : decode cX6_declare 8 = .ok (.ifCond .ne 7, 3) := by decide +kernel
theorem dX6_declare_11 : decode cX6_declare 11 = .ok (.iconst 1, 1) := by decide +kernel
theorem dX6_declare_12 : decode cX6_declare 12 = .ok (.goto 19, 3) := by decide +kernel
theorem dX6_declare_15 : decode cX6_declare 15 = .ok (.aload_n 0, 1) := by decide +kernel
theorem dX6_declare_16 : decode cX6_declare 16 = .ok (.iload_n 1, 1) := by decide +kernel
theorem dX6_declare_17 : decode cX6_declare 17 = .ok (.invokevirtual 186, 3) := by decide +kernel
theorem dX6_declare_20 : decode cX6_declare 20 = .ok (.bipush 6, 2) := by decide +kernel
theorem dX6_declare_22 : decode cX6_declare 22 = .ok (.irem, 1) := by decide +kernel
theorem dX6_declare_23 : decode cX6_declare 23 = .ok (.ifCond .eq 7, 3) := by decide +kernel
theorem dX6_declare_26 : decode cX6_declare 26 = .ok (.iconst 2, 1) := by decide +kernel
theorem dX6_declare_27 : decode cX6_declare 27 = .ok (.goto 4, 3) := by decide +kernel
theorem dX6_declare_30 : decode cX6_declare 30 = .ok (.iconst 0, 1) := by decide +kernel
theorem dX6_declare_31 : decode cX6_declare 31 = .ok (.invokevirtual 127, 3) := by decide +kernel
theorem dX6_declare_34 : decode cX6_declare 34 = .ok (.ifCond .eq 5, 3) := by decide +kernel
theorem dX6_declare_37 : decode cX6_declare 37 = .ok (.iconst 0, 1) := by decide +kernel
theorem dX6_declare_38 : decode cX6_declare 38 = .ok (.ireturn, 1) := by decide +kernel
theorem dX6_declare_39 : decode cX6_declare 39 = .ok (.aload_n 0, 1) := by decide +kernel
theorem dX6_declare_40 : decode cX6_declare 40 = .ok (.getfield 65, 3) := by decide +kernel
theorem dX6_declare_43 : decode cX6_declare 43 = .ok (.iload_n 1, 1) := by decide +kernel
theorem dX6_declare_44 : decode cX6_declare 44 = .ok (.aload_n 0, 1) := by decide +kernel
theorem dX6_declare_45 : decode cX6_declare 45 = .ok (.getfield 142, 3) := by decide +kernel
theorem dX6_declare_48 : decode cX6_declare 48 = .ok (.iastore, 1) := by decide +kernel
theorem dX6_declare_49 : decode cX6_declare 49 = .ok (.aload_n 0, 1) := by decide +kernel
theorem dX6_declare_50 : decode cX6_declare 50 = .ok (.getfield 142, 3) := by decide +kernel
theorem dX6_declare_53 : decode cX6_declare 53 = .ok (.ireturn, 1) := by decide +kernel
theorem dX6_body_0 : decode cX6_body 0 = .ok (.aload_n 0, 1) := by decide +kernel
theorem dX6_body_1 : decode cX6_body 1 = .ok (.iload_n 1, 1) := by decide +kernel
theorem dX6_body_2 : decode cX6_body 2 = .ok (.iconst 1, 1) := by decide +kernel
theorem dX6_body_3 : decode cX6_body 3 = .ok (.bipush 63, 2) := by decide +kernel
theorem dX6_body_5 : decode cX6_body 5 = .ok (.invokestatic 111, 3) := by decide +kernel
theorem dX6_body_8 : decode cX6_body 8 = .ok (.ifCond .ne 7, 3) := by decide +kernel
theorem dX6_body_11 : decode cX6_body 11 = .ok (.iconst 1, 1) := by decide +kernel
theorem dX6_body_12 : decode cX6_body 12 = .ok (.goto 16, 3) := by decide +kernel
theorem dX6_body_15 : decode cX6_body 15 = .ok (.aload_n 0, 1) := by decide +kernel
theorem dX6_body_16 : decode cX6_body 16 = .ok (.getfield 121, 3) := by decide +kernel
theorem dX6_body_19 : decode cX6_body 19 = .ok (.iconst 5, 1) := by decide +kernel
theorem dX6_body_20 : decode cX6_body 20 = .ok (.if_icmp .ne 7, 3) := by decide +kernel
theorem dX6_body_23 : decode cX6_body 23 = .ok (.iconst 2, 1) := by decide +kernel
theorem dX6_body_24 : decode cX6_body 24 = .ok (.goto 4, 3) := by decide +kernel
theorem dX6_body_27 : decode cX6_body 27 = .ok (.iconst 0, 1) := by decide +kernel
theorem dX6_body_28 : decode cX6_body 28 = .ok (.invokevirtual 127, 3) := by decide +kernel
theorem dX6_body_31 : decode cX6_body 31 = .ok (.ifCond .eq 5, 3) := by decide +kernel
theorem dX6_body_34 : decode cX6_body 34 = .ok (.iconst 0, 1) := by decide +kernel
theorem dX6_body_35 : decode cX6_body 35 = .ok (.ireturn, 1) := by decide +kernel
theorem dX6_body_36 : decode cX6_body 36 = .ok (.aload_n 0, 1) := by decide +kernel
theorem dX6_body_37 : decode cX6_body 37 = .ok (.getfield 71, 3) := by decide +kernel
theorem dX6_body_40 : decode cX6_body 40 = .ok (.aload_n 0, 1) := by decide +kernel
theorem dX6_body_41 : decode cX6_body 41 = .ok (.getfield 121, 3) := by decide +kernel
theorem dX6_body_44 : decode cX6_body 44 = .ok (.iload_n 1, 1) := by decide +kernel
theorem dX6_body_45 : decode cX6_body 45 = .ok (.iastore, 1) := by decide +kernel
theorem dX6_body_46 : decode cX6_body 46 = .ok (.aload_n 0, 1) := by decide +kernel
theorem dX6_body_47 : decode cX6_body 47 = .ok (.getfield 74, 3) := by decide +kernel
theorem dX6_body_50 : decode cX6_body 50 = .ok (.aload_n 0, 1) := by decide +kernel
theorem dX6_body_51 : decode cX6_body 51 = .ok (.getfield 121, 3) := by decide +kernel
theorem dX6_body_54 : decode cX6_body 54 = .ok (.iconst (-1), 1) := by decide +kernel
theorem dX6_body_55 : decode cX6_body 55 = .ok (.iastore, 1) := by decide +kernel
theorem dX6_body_56 : decode cX6_body 56 = .ok (.aload_n 0, 1) := by decide +kernel
theorem dX6_body_57 : decode cX6_body 57 = .ok (.dup, 1) := by decide +kernel
theorem dX6_body_58 : decode cX6_body 58 = .ok (.getfield 121, 3) := by decide +kernel
theorem dX6_body_61 : decode cX6_body 61 = .ok (.iconst 1, 1) := by decide +kernel
theorem dX6_body_62 : decode cX6_body 62 = .ok (.iadd, 1) := by decide +kernel
theorem dX6_body_63 : decode cX6_body 63 = .ok (.putfield 121, 3) := by decide +kernel
theorem dX6_body_66 : decode cX6_body 66 = .ok (.aload_n 0, 1) := by decide +kernel
theorem dX6_body_67 : decode cX6_body 67 = .ok (.getfield 121, 3) := by decide +kernel
theorem dX6_body_70 : decode cX6_body 70 = .ok (.iconst 1, 1) := by decide +kernel
theorem dX6_body_71 : decode cX6_body 71 = .ok (.isub, 1) := by decide +kernel
theorem dX6_body_72 : decode cX6_body 72 = .ok (.ireturn, 1) := by decide +kernel
theorem dX6_suspend_0 : decode cX6_suspend 0 = .ok (.aload_n 0, 1) := by decide +kernel
theorem dX6_suspend_1 : decode cX6_suspend 1 = .ok (.aload_n 0, 1) := by decide +kernel
theorem dX6_suspend_2 : decode cX6_suspend 2 = .ok (.iload_n 1, 1) := by decide +kernel
theorem dX6_suspend_3 : decode cX6_suspend 3 = .ok (.invokevirtual 189, 3) := by decide +kernel
theorem dX6_suspend_6 : decode cX6_suspend 6 = .ok (.ifCond .eq 7, 3) := by decide +kernel
theorem dX6_suspend_9 : decode cX6_suspend 9 = .ok (.iconst 0, 1) := by decide +kernel
theorem dX6_suspend_10 : decode cX6_suspend 10 = .ok (.goto 4, 3) := by decide +kernel
theorem dX6_suspend_13 : decode cX6_suspend 13 = .ok (.iconst 1, 1) := by decide +kernel
theorem dX6_suspend_14 : decode cX6_suspend 14 = .ok (.invokevirtual 127, 3) := by decide +kernel
theorem dX6_suspend_17 : decode cX6_suspend 17 = .ok (.ifCond .eq 5, 3) := by decide +kernel
theorem dX6_suspend_20 : decode cX6_suspend 20 = .ok (.iconst 0, 1) := by decide +kernel
theorem dX6_suspend_21 : decode cX6_suspend 21 = .ok (.ireturn, 1) := by decide +kernel
theorem dX6_suspend_22 : decode cX6_suspend 22 = .ok (.aload_n 0, 1) := by decide +kernel
theorem dX6_suspend_23 : decode cX6_suspend 23 = .ok (.getfield 74, 3) := by decide +kernel
theorem dX6_suspend_26 : decode cX6_suspend 26 = .ok (.iload_n 1, 1) := by decide +kernel
theorem dX6_suspend_27 : decode cX6_suspend 27 = .ok (.iaload, 1) := by decide +kernel
theorem dX6_suspend_28 : decode cX6_suspend 28 = .ok (.iconst (-1), 1) := by decide +kernel
theorem dX6_suspend_29 : decode cX6_suspend 29 = .ok (.if_icmp .eq 7, 3) := by decide +kernel
theorem dX6_suspend_32 : decode cX6_suspend 32 = .ok (.iconst 1, 1) := by decide +kernel
theorem dX6_suspend_33 : decode cX6_suspend 33 = .ok (.goto 4, 3) := by decide +kernel
theorem dX6_suspend_36 : decode cX6_suspend 36 = .ok (.iconst 0, 1) := by decide +kernel
theorem dX6_suspend_37 : decode cX6_suspend 37 = .ok (.istore_n 3, 1) := by decide +kernel
theorem dX6_suspend_38 : decode cX6_suspend 38 = .ok (.aload_n 0, 1) := by decide +kernel
theorem dX6_suspend_39 : decode cX6_suspend 39 = .ok (.getfield 74, 3) := by decide +kernel
theorem dX6_suspend_42 : decode cX6_suspend 42 = .ok (.iload_n 1, 1) := by decide +kernel
theorem dX6_suspend_43 : decode cX6_suspend 43 = .ok (.iload_n 2, 1) := by decide +kernel
theorem dX6_suspend_44 : decode cX6_suspend 44 = .ok (.ifCond .ne 7, 3) := by decide +kernel
theorem dX6_suspend_47 : decode cX6_suspend 47 = .ok (.iconst (-1), 1) := by decide +kernel
theorem dX6_suspend_48 : decode cX6_suspend 48 = .ok (.goto 20, 3) := by decide +kernel
theorem dX6_suspend_51 : decode cX6_suspend 51 = .ok (.iload_n 3, 1) := by decide +kernel
theorem dX6_suspend_52 : decode cX6_suspend 52 = .ok (.ifCond .eq 12, 3) := by decide +kernel
theorem dX6_suspend_55 : decode cX6_suspend 55 = .ok (.aload_n 0, 1) := by decide +kernel
theorem dX6_suspend_56 : decode cX6_suspend 56 = .ok (.getfield 74, 3) := by decide +kernel
theorem dX6_suspend_59 : decode cX6_suspend 59 = .ok (.iload_n 1, 1) := by decide +kernel
theorem dX6_suspend_60 : decode cX6_suspend 60 = .ok (.iaload, 1) := by decide +kernel
theorem dX6_suspend_61 : decode cX6_suspend 61 = .ok (.goto 7, 3) := by decide +kernel
theorem dX6_suspend_64 : decode cX6_suspend 64 = .ok (.aload_n 0, 1) := by decide +kernel
theorem dX6_suspend_65 : decode cX6_suspend 65 = .ok (.getfield 142, 3) := by decide +kernel
theorem dX6_suspend_68 : decode cX6_suspend 68 = .ok (.iastore, 1) := by decide +kernel
theorem dX6_suspend_69 : decode cX6_suspend 69 = .ok (.iload_n 3, 1) := by decide +kernel
theorem dX6_suspend_70 : decode cX6_suspend 70 = .ok (.ireturn, 1) := by decide +kernel
theorem dX6_certify_0 : decode cX6_certify 0 = .ok (.aload_n 0, 1) := by decide +kernel
theorem dX6_certify_1 : decode cX6_certify 1 = .ok (.iload_n 1, 1) := by decide +kernel
theorem dX6_certify_2 : decode cX6_certify 2 = .ok (.invokevirtual 189, 3) := by decide +kernel
theorem dX6_certify_5 : decode cX6_certify 5 = .ok (.ifCond .eq 15, 3) := by decide +kernel
theorem dX6_certify_8 : decode cX6_certify 8 = .ok (.aload_n 0, 1) := by decide +kernel
theorem dX6_certify_9 : decode cX6_certify 9 = .ok (.iload_n 2, 1) := by decide +kernel
theorem dX6_certify_10 : decode cX6_certify 10 = .ok (.invokevirtual 145, 3) := by decide +kernel
theorem dX6_certify_13 : decode cX6_certify 13 = .ok (.ifCond .eq 7, 3) := by decide +kernel
theorem dX6_certify_16 : decode cX6_certify 16 = .ok (.iconst 1, 1) := by decide +kernel
theorem dX6_certify_17 : decode cX6_certify 17 = .ok (.goto 4, 3) := by decide +kernel
theorem dX6_certify_20 : decode cX6_certify 20 = .ok (.iconst 0, 1) := by decide +kernel
theorem dX6_certify_21 : decode cX6_certify 21 = .ok (.istore 4, 2) := by decide +kernel
theorem dX6_certify_23 : decode cX6_certify 23 = .ok (.iload_n 3, 1) := by decide +kernel
theorem dX6_certify_24 : decode cX6_certify 24 = .ok (.iconst 1, 1) := by decide +kernel
theorem dX6_certify_25 : decode cX6_certify 25 = .ok (.sipush 1000, 3) := by decide +kernel
theorem dX6_certify_28 : decode cX6_certify 28 = .ok (.invokestatic 111, 3) := by decide +kernel
theorem dX6_certify_31 : decode cX6_certify 31 = .ok (.istore 5, 2) := by decide +kernel
theorem dX6_certify_33 : decode cX6_certify 33 = .ok (.iload 4, 2) := by decide +kernel
theorem dX6_certify_35 : decode cX6_certify 35 = .ok (.ifCond .eq 44, 3) := by decide +kernel
theorem dX6_certify_38 : decode cX6_certify 38 = .ok (.iload 5, 2) := by decide +kernel
theorem dX6_certify_40 : decode cX6_certify 40 = .ok (.ifCond .eq 39, 3) := by decide +kernel
theorem dX6_certify_43 : decode cX6_certify 43 = .ok (.aload_n 0, 1) := by decide +kernel
theorem dX6_certify_44 : decode cX6_certify 44 = .ok (.getfield 74, 3) := by decide +kernel
theorem dX6_certify_47 : decode cX6_certify 47 = .ok (.iload_n 1, 1) := by decide +kernel
theorem dX6_certify_48 : decode cX6_certify 48 = .ok (.iaload, 1) := by decide +kernel
theorem dX6_certify_49 : decode cX6_certify 49 = .ok (.iconst (-1), 1) := by decide +kernel
theorem dX6_certify_50 : decode cX6_certify 50 = .ok (.if_icmp .ne 29, 3) := by decide +kernel
theorem dX6_certify_53 : decode cX6_certify 53 = .ok (.aload_n 0, 1) := by decide +kernel
theorem dX6_certify_54 : decode cX6_certify 54 = .ok (.iload_n 1, 1) := by decide +kernel
theorem dX6_certify_55 : decode cX6_certify 55 = .ok (.iload_n 2, 1) := by decide +kernel
theorem dX6_certify_56 : decode cX6_certify 56 = .ok (.invokevirtual 171, 3) := by decide +kernel
theorem dX6_certify_59 : decode cX6_certify 59 = .ok (.ifCond .eq 20, 3) := by decide +kernel
theorem dX6_certify_62 : decode cX6_certify 62 = .ok (.aload_n 0, 1) := by decide +kernel
theorem dX6_certify_63 : decode cX6_certify 63 = .ok (.iload_n 2, 1) := by decide +kernel
theorem dX6_certify_64 : decode cX6_certify 64 = .ok (.invokevirtual 186, 3) := by decide +kernel
theorem dX6_certify_67 : decode cX6_certify 67 = .ok (.iconst 1, 1) := by decide +kernel
theorem dX6_certify_68 : decode cX6_certify 68 = .ok (.iconst 3, 1) := by decide +kernel
theorem dX6_certify_69 : decode cX6_certify 69 = .ok (.invokestatic 111, 3) := by decide +kernel
theorem dX6_certify_72 : decode cX6_certify 72 = .ok (.ifCond .ne 7, 3) := by decide +kernel
theorem dX6_certify_75 : decode cX6_certify 75 = .ok (.iconst 1, 1) := by decide +kernel
theorem dX6_certify_76 : decode cX6_certify 76 = .ok (.goto 4, 3) := by decide +kernel
theorem dX6_certify_79 : decode cX6_certify 79 = .ok (.iconst 0, 1) := by decide +kernel
theorem dX6_certify_80 : decode cX6_certify 80 = .ok (.istore 6, 2) := by decide +kernel
theorem dX6_certify_82 : decode cX6_certify 82 = .ok (.aload_n 0, 1) := by decide +kernel
theorem dX6_certify_83 : decode cX6_certify 83 = .ok (.iload 4, 2) := by decide +kernel
theorem dX6_certify_85 : decode cX6_certify 85 = .ok (.ifCond .ne 7, 3) := by decide +kernel
theorem dX6_certify_88 : decode cX6_certify 88 = .ok (.iconst 1, 1) := by decide +kernel
theorem dX6_certify_89 : decode cX6_certify 89 = .ok (.goto 22, 3) := by decide +kernel
theorem dX6_certify_92 : decode cX6_certify 92 = .ok (.iload 5, 2) := by decide +kernel
theorem dX6_certify_94 : decode cX6_certify 94 = .ok (.ifCond .ne 7, 3) := by decide +kernel
theorem dX6_certify_97 : decode cX6_certify 97 = .ok (.iconst 2, 1) := by decide +kernel
theorem dX6_certify_98 : decode cX6_certify 98 = .ok (.goto 13, 3) := by decide +kernel
theorem dX6_certify_101 : decode cX6_certify 101 = .ok (.iload 6, 2) := by decide +kernel
theorem dX6_certify_103 : decode cX6_certify 103 = .ok (.ifCond .eq 7, 3) := by decide +kernel
theorem dX6_certify_106 : decode cX6_certify 106 = .ok (.iconst 0, 1) := by decide +kernel
theorem dX6_certify_107 : decode cX6_certify 107 = .ok (.goto 4, 3) := by decide +kernel
theorem dX6_certify_110 : decode cX6_certify 110 = .ok (.iconst 3, 1) := by decide +kernel
theorem dX6_certify_111 : decode cX6_certify 111 = .ok (.invokevirtual 127, 3) := by decide +kernel
theorem dX6_certify_114 : decode cX6_certify 114 = .ok (.ifCond .eq 5, 3) := by decide +kernel
theorem dX6_certify_117 : decode cX6_certify 117 = .ok (.iconst 0, 1) := by decide +kernel
theorem dX6_certify_118 : decode cX6_certify 118 = .ok (.ireturn, 1) := by decide +kernel
theorem dX6_certify_119 : decode cX6_certify 119 = .ok (.aload_n 0, 1) := by decide +kernel
theorem dX6_certify_120 : decode cX6_certify 120 = .ok (.getfield 56, 3) := by decide +kernel
theorem dX6_certify_123 : decode cX6_certify 123 = .ok (.iload_n 2, 1) := by decide +kernel
theorem dX6_certify_124 : decode cX6_certify 124 = .ok (.iload_n 1, 1) := by decide +kernel
theorem dX6_certify_125 : decode cX6_certify 125 = .ok (.iastore, 1) := by decide +kernel
theorem dX6_certify_126 : decode cX6_certify 126 = .ok (.aload_n 0, 1) := by decide +kernel
theorem dX6_certify_127 : decode cX6_certify 127 = .ok (.getfield 59, 3) := by decide +kernel
theorem dX6_certify_130 : decode cX6_certify 130 = .ok (.iload_n 2, 1) := by decide +kernel
theorem dX6_certify_131 : decode cX6_certify 131 = .ok (.aload_n 0, 1) := by decide +kernel
theorem dX6_certify_132 : decode cX6_certify 132 = .ok (.getfield 142, 3) := by decide +kernel
theorem dX6_certify_135 : decode cX6_certify 135 = .ok (.iload_n 3, 1) := by decide +kernel
theorem dX6_certify_136 : decode cX6_certify 136 = .ok (.iadd, 1) := by decide +kernel
theorem dX6_certify_137 : decode cX6_certify 137 = .ok (.iastore, 1) := by decide +kernel
theorem dX6_certify_138 : decode cX6_certify 138 = .ok (.aload_n 0, 1) := by decide +kernel
theorem dX6_certify_139 : decode cX6_certify 139 = .ok (.getfield 59, 3) := by decide +kernel
theorem dX6_certify_142 : decode cX6_certify 142 = .ok (.iload_n 2, 1) := by decide +kernel
theorem dX6_certify_143 : decode cX6_certify 143 = .ok (.iaload, 1) := by decide +kernel
theorem dX6_certify_144 : decode cX6_certify 144 = .ok (.ireturn, 1) := by decide +kernel
theorem dX6_transfer_0 : decode cX6_transfer 0 = .ok (.aload_n 0, 1) := by decide +kernel
theorem dX6_transfer_1 : decode cX6_transfer 1 = .ok (.iload_n 1, 1) := by decide +kernel
theorem dX6_transfer_2 : decode cX6_transfer 2 = .ok (.invokevirtual 145, 3) := by decide +kernel
theorem dX6_transfer_5 : decode cX6_transfer 5 = .ok (.ifCond .eq 15, 3) := by decide +kernel
theorem dX6_transfer_8 : decode cX6_transfer 8 = .ok (.aload_n 0, 1) := by decide +kernel
theorem dX6_transfer_9 : decode cX6_transfer 9 = .ok (.iload_n 2, 1) := by decide +kernel
theorem dX6_transfer_10 : decode cX6_transfer 10 = .ok (.invokevirtual 189, 3) := by decide +kernel
theorem dX6_transfer_13 : decode cX6_transfer 13 = .ok (.ifCond .eq 7, 3) := by decide +kernel
theorem dX6_transfer_16 : decode cX6_transfer 16 = .ok (.iconst 1, 1) := by decide +kernel
theorem dX6_transfer_17 : decode cX6_transfer 17 = .ok (.goto 4, 3) := by decide +kernel
theorem dX6_transfer_20 : decode cX6_transfer 20 = .ok (.iconst 0, 1) := by decide +kernel
theorem dX6_transfer_21 : decode cX6_transfer 21 = .ok (.istore_n 3, 1) := by decide +kernel
theorem dX6_transfer_22 : decode cX6_transfer 22 = .ok (.iload_n 3, 1) := by decide +kernel
theorem dX6_transfer_23 : decode cX6_transfer 23 = .ok (.ifCond .eq 46, 3) := by decide +kernel
theorem dX6_transfer_26 : decode cX6_transfer 26 = .ok (.aload_n 0, 1) := by decide +kernel
theorem dX6_transfer_27 : decode cX6_transfer 27 = .ok (.getfield 56, 3) := by decide +kernel
theorem dX6_transfer_30 : decode cX6_transfer 30 = .ok (.iload_n 1, 1) := by decide +kernel
theorem dX6_transfer_31 : decode cX6_transfer 31 = .ok (.iaload, 1) := by decide +kernel
theorem dX6_transfer_32 : decode cX6_transfer 32 = .ok (.iconst (-1), 1) := by decide +kernel
theorem dX6_transfer_33 : decode cX6_transfer 33 = .ok (.if_icmp .eq 36, 3) := by decide +kernel
theorem dX6_transfer_36 : decode cX6_transfer 36 = .ok (.aload_n 0, 1) := by decide +kernel
theorem dX6_transfer_37 : decode cX6_transfer 37 = .ok (.getfield 56, 3) := by decide +kernel
theorem dX6_transfer_40 : decode cX6_transfer 40 = .ok (.iload_n 1, 1) := by decide +kernel
theorem dX6_transfer_41 : decode cX6_transfer 41 = .ok (.iaload, 1) := by decide +kernel
theorem dX6_transfer_42 : decode cX6_transfer 42 = .ok (.iload_n 2, 1) := by decide +kernel
theorem dX6_transfer_43 : decode cX6_transfer 43 = .ok (.if_icmp .eq 26, 3) := by decide +kernel
theorem dX6_transfer_46 : decode cX6_transfer 46 = .ok (.aload_n 0, 1) := by decide +kernel
theorem dX6_transfer_47 : decode cX6_transfer 47 = .ok (.getfield 74, 3) := by decide +kernel
theorem dX6_transfer_50 : decode cX6_transfer 50 = .ok (.iload_n 2, 1) := by decide +kernel
theorem dX6_transfer_51 : decode cX6_transfer 51 = .ok (.iaload, 1) := by decide +kernel
theorem dX6_transfer_52 : decode cX6_transfer 52 = .ok (.iconst (-1), 1) := by decide +kernel
theorem dX6_transfer_53 : decode cX6_transfer 53 = .ok (.if_icmp .ne 16, 3) := by decide +kernel
theorem dX6_transfer_56 : decode cX6_transfer 56 = .ok (.aload_n 0, 1) := by decide +kernel
theorem dX6_transfer_57 : decode cX6_transfer 57 = .ok (.iload_n 2, 1) := by decide +kernel
theorem dX6_transfer_58 : decode cX6_transfer 58 = .ok (.iload_n 1, 1) := by decide +kernel
theorem dX6_transfer_59 : decode cX6_transfer 59 = .ok (.invokevirtual 171, 3) := by decide +kernel
theorem dX6_transfer_62 : decode cX6_transfer 62 = .ok (.ifCond .eq 7, 3) := by decide +kernel
theorem dX6_transfer_65 : decode cX6_transfer 65 = .ok (.iconst 1, 1) := by decide +kernel
theorem dX6_transfer_66 : decode cX6_transfer 66 = .ok (.goto 4, 3) := by decide +kernel
theorem dX6_transfer_69 : decode cX6_transfer 69 = .ok (.iconst 0, 1) := by decide +kernel
theorem dX6_transfer_70 : decode cX6_transfer 70 = .ok (.istore 4, 2) := by decide +kernel
theorem dX6_transfer_72 : decode cX6_transfer 72 = .ok (.aload_n 0, 1) := by decide +kernel
theorem dX6_transfer_73 : decode cX6_transfer 73 = .ok (.iload_n 3, 1) := by decide +kernel
theorem dX6_transfer_74 : decode cX6_transfer 74 = .ok (.ifCond .ne 7, 3) := by decide +kernel
theorem dX6_transfer_77 : decode cX6_transfer 77 = .ok (.iconst 1, 1) := by decide +kernel
theorem dX6_transfer_78 : decode cX6_transfer 78 = .ok (.goto 13, 3) := by decide +kernel
theorem dX6_transfer_81 : decode cX6_transfer 81 = .ok (.iload 4, 2) := by decide +kernel
theorem dX6_transfer_83 : decode cX6_transfer 83 = .ok (.ifCond .eq 7, 3) := by decide +kernel
theorem dX6_transfer_86 : decode cX6_transfer 86 = .ok (.iconst 0, 1) := by decide +kernel
theorem dX6_transfer_87 : decode cX6_transfer 87 = .ok (.goto 4, 3) := by decide +kernel
theorem dX6_transfer_90 : decode cX6_transfer 90 = .ok (.iconst 2, 1) := by decide +kernel
theorem dX6_transfer_91 : decode cX6_transfer 91 = .ok (.invokevirtual 127, 3) := by decide +kernel
theorem dX6_transfer_94 : decode cX6_transfer 94 = .ok (.ifCond .eq 5, 3) := by decide +kernel
theorem dX6_transfer_97 : decode cX6_transfer 97 = .ok (.iconst 0, 1) := by decide +kernel
theorem dX6_transfer_98 : decode cX6_transfer 98 = .ok (.ireturn, 1) := by decide +kernel
theorem dX6_transfer_99 : decode cX6_transfer 99 = .ok (.aload_n 0, 1) := by decide +kernel
theorem dX6_transfer_100 : decode cX6_transfer 100 = .ok (.getfield 56, 3) := by decide +kernel
theorem dX6_transfer_103 : decode cX6_transfer 103 = .ok (.iload_n 1, 1) := by decide +kernel
theorem dX6_transfer_104 : decode cX6_transfer 104 = .ok (.iaload, 1) := by decide +kernel
theorem dX6_transfer_105 : decode cX6_transfer 105 = .ok (.istore 5, 2) := by decide +kernel
theorem dX6_transfer_107 : decode cX6_transfer 107 = .ok (.aload_n 0, 1) := by decide +kernel
theorem dX6_transfer_108 : decode cX6_transfer 108 = .ok (.getfield 56, 3) := by decide +kernel
theorem dX6_transfer_111 : decode cX6_transfer 111 = .ok (.iload_n 1, 1) := by decide +kernel
theorem dX6_transfer_112 : decode cX6_transfer 112 = .ok (.iload_n 2, 1) := by decide +kernel
theorem dX6_transfer_113 : decode cX6_transfer 113 = .ok (.iastore, 1) := by decide +kernel
theorem dX6_transfer_114 : decode cX6_transfer 114 = .ok (.iload 5, 2) := by decide +kernel
theorem dX6_transfer_116 : decode cX6_transfer 116 = .ok (.ireturn, 1) := by decide +kernel
theorem dX6_visit_0 : decode cX6_visit 0 = .ok (.aload_n 0, 1) := by decide +kernel
theorem dX6_visit_1 : decode cX6_visit 1 = .ok (.aload_n 0, 1) := by decide +kernel
theorem dX6_visit_2 : decode cX6_visit 2 = .ok (.iload_n 1, 1) := by decide +kernel
theorem dX6_visit_3 : decode cX6_visit 3 = .ok (.invokevirtual 145, 3) := by decide +kernel
theorem dX6_visit_6 : decode cX6_visit 6 = .ok (.ifCond .eq 7, 3) := by decide +kernel
theorem dX6_visit_9 : decode cX6_visit 9 = .ok (.iconst 0, 1) := by decide +kernel
theorem dX6_visit_10 : decode cX6_visit 10 = .ok (.goto 4, 3) := by decide +kernel
theorem dX6_visit_13 : decode cX6_visit 13 = .ok (.iconst 1, 1) := by decide +kernel
theorem dX6_visit_14 : decode cX6_visit 14 = .ok (.invokevirtual 127, 3) := by decide +kernel
theorem dX6_visit_17 : decode cX6_visit 17 = .ok (.ifCond .eq 5, 3) := by decide +kernel
theorem dX6_visit_20 : decode cX6_visit 20 = .ok (.iconst 0, 1) := by decide +kernel
theorem dX6_visit_21 : decode cX6_visit 21 = .ok (.ireturn, 1) := by decide +kernel
theorem dX6_visit_22 : decode cX6_visit 22 = .ok (.iload_n 2, 1) := by decide +kernel
theorem dX6_visit_23 : decode cX6_visit 23 = .ok (.ifCond .ne 17, 3) := by decide +kernel
theorem dX6_visit_26 : decode cX6_visit 26 = .ok (.aload_n 0, 1) := by decide +kernel
theorem dX6_visit_27 : decode cX6_visit 27 = .ok (.getfield 56, 3) := by decide +kernel
theorem dX6_visit_30 : decode cX6_visit 30 = .ok (.iload_n 1, 1) := by decide +kernel
theorem dX6_visit_31 : decode cX6_visit 31 = .ok (.iaload, 1) := by decide +kernel
theorem dX6_visit_32 : decode cX6_visit 32 = .ok (.iconst (-1), 1) := by decide +kernel
theorem dX6_visit_33 : decode cX6_visit 33 = .ok (.if_icmp .eq 7, 3) := by decide +kernel
theorem dX6_visit_36 : decode cX6_visit 36 = .ok (.iconst 1, 1) := by decide +kernel
theorem dX6_visit_37 : decode cX6_visit 37 = .ok (.goto 4, 3) := by decide +kernel
theorem dX6_visit_40 : decode cX6_visit 40 = .ok (.iconst 0, 1) := by decide +kernel
theorem dX6_visit_41 : decode cX6_visit 41 = .ok (.istore_n 3, 1) := by decide +kernel
theorem dX6_visit_42 : decode cX6_visit 42 = .ok (.aload_n 0, 1) := by decide +kernel
theorem dX6_visit_43 : decode cX6_visit 43 = .ok (.getfield 62, 3) := by decide +kernel
theorem dX6_visit_46 : decode cX6_visit 46 = .ok (.iload_n 1, 1) := by decide +kernel
theorem dX6_visit_47 : decode cX6_visit 47 = .ok (.iload_n 2, 1) := by decide +kernel
theorem dX6_visit_48 : decode cX6_visit 48 = .ok (.ifCond .eq 10, 3) := by decide +kernel
theorem dX6_visit_51 : decode cX6_visit 51 = .ok (.aload_n 0, 1) := by decide +kernel
theorem dX6_visit_52 : decode cX6_visit 52 = .ok (.getfield 142, 3) := by decide +kernel
theorem dX6_visit_55 : decode cX6_visit 55 = .ok (.goto 9, 3) := by decide +kernel
theorem dX6_visit_58 : decode cX6_visit 58 = .ok (.aload_n 0, 1) := by decide +kernel
theorem dX6_visit_59 : decode cX6_visit 59 = .ok (.getfield 62, 3) := by decide +kernel
theorem dX6_visit_62 : decode cX6_visit 62 = .ok (.iload_n 1, 1) := by decide +kernel
theorem dX6_visit_63 : decode cX6_visit 63 = .ok (.iaload, 1) := by decide +kernel
theorem dX6_visit_64 : decode cX6_visit 64 = .ok (.iastore, 1) := by decide +kernel
theorem dX6_visit_65 : decode cX6_visit 65 = .ok (.aload_n 0, 1) := by decide +kernel
theorem dX6_visit_66 : decode cX6_visit 66 = .ok (.getfield 56, 3) := by decide +kernel
theorem dX6_visit_69 : decode cX6_visit 69 = .ok (.iload_n 1, 1) := by decide +kernel
theorem dX6_visit_70 : decode cX6_visit 70 = .ok (.iload_n 3, 1) := by decide +kernel
theorem dX6_visit_71 : decode cX6_visit 71 = .ok (.ifCond .eq 7, 3) := by decide +kernel
theorem dX6_visit_74 : decode cX6_visit 74 = .ok (.iconst (-1), 1) := by decide +kernel
theorem dX6_visit_75 : decode cX6_visit 75 = .ok (.goto 9, 3) := by decide +kernel
theorem dX6_visit_78 : decode cX6_visit 78 = .ok (.aload_n 0, 1) := by decide +kernel
theorem dX6_visit_79 : decode cX6_visit 79 = .ok (.getfield 56, 3) := by decide +kernel
theorem dX6_visit_82 : decode cX6_visit 82 = .ok (.iload_n 1, 1) := by decide +kernel
theorem dX6_visit_83 : decode cX6_visit 83 = .ok (.iaload, 1) := by decide +kernel
theorem dX6_visit_84 : decode cX6_visit 84 = .ok (.iastore, 1) := by decide +kernel
theorem dX6_visit_85 : decode cX6_visit 85 = .ok (.aload_n 0, 1) := by decide +kernel
theorem dX6_visit_86 : decode cX6_visit 86 = .ok (.getfield 59, 3) := by decide +kernel
theorem dX6_visit_89 : decode cX6_visit 89 = .ok (.iload_n 1, 1) := by decide +kernel
theorem dX6_visit_90 : decode cX6_visit 90 = .ok (.iload_n 3, 1) := by decide +kernel
theorem dX6_visit_91 : decode cX6_visit 91 = .ok (.ifCond .eq 7, 3) := by decide +kernel
theorem dX6_visit_94 : decode cX6_visit 94 = .ok (.iconst (-1), 1) := by decide +kernel
theorem dX6_visit_95 : decode cX6_visit 95 = .ok (.goto 9, 3) := by decide +kernel
theorem dX6_visit_98 : decode cX6_visit 98 = .ok (.aload_n 0, 1) := by decide +kernel
theorem dX6_visit_99 : decode cX6_visit 99 = .ok (.getfield 59, 3) := by decide +kernel
theorem dX6_visit_102 : decode cX6_visit 102 = .ok (.iload_n 1, 1) := by decide +kernel
theorem dX6_visit_103 : decode cX6_visit 103 = .ok (.iaload, 1) := by decide +kernel
theorem dX6_visit_104 : decode cX6_visit 104 = .ok (.iastore, 1) := by decide +kernel
theorem dX6_visit_105 : decode cX6_visit 105 = .ok (.iload_n 3, 1) := by decide +kernel
theorem dX6_visit_106 : decode cX6_visit 106 = .ok (.ireturn, 1) := by decide +kernel
theorem dX6_arrives_0 : decode cX6_arrives 0 = .ok (.aload_n 0, 1) := by decide +kernel
theorem dX6_arrives_1 : decode cX6_arrives 1 = .ok (.getfield 77, 3) := by decide +kernel
theorem dX6_arrives_4 : decode cX6_arrives 4 = .ok (.aload_n 0, 1) := by decide +kernel
theorem dX6_arrives_5 : decode cX6_arrives 5 = .ok (.getfield 124, 3) := by decide +kernel
theorem dX6_arrives_8 : decode cX6_arrives 8 = .ok (.iload_n 1, 1) := by decide +kernel
theorem dX6_arrives_9 : decode cX6_arrives 9 = .ok (.iastore, 1) := by decide +kernel
theorem dX6_arrives_10 : decode cX6_arrives 10 = .ok (.aload_n 0, 1) := by decide +kernel
theorem dX6_arrives_11 : decode cX6_arrives 11 = .ok (.getfield 80, 3) := by decide +kernel
theorem dX6_arrives_14 : decode cX6_arrives 14 = .ok (.aload_n 0, 1) := by decide +kernel
theorem dX6_arrives_15 : decode cX6_arrives 15 = .ok (.getfield 124, 3) := by decide +kernel
theorem dX6_arrives_18 : decode cX6_arrives 18 = .ok (.iload_n 2, 1) := by decide +kernel
theorem dX6_arrives_19 : decode cX6_arrives 19 = .ok (.iastore, 1) := by decide +kernel
theorem dX6_arrives_20 : decode cX6_arrives 20 = .ok (.aload_n 0, 1) := by decide +kernel
theorem dX6_arrives_21 : decode cX6_arrives 21 = .ok (.getfield 83, 3) := by decide +kernel
theorem dX6_arrives_24 : decode cX6_arrives 24 = .ok (.aload_n 0, 1) := by decide +kernel
theorem dX6_arrives_25 : decode cX6_arrives 25 = .ok (.getfield 124, 3) := by decide +kernel
theorem dX6_arrives_28 : decode cX6_arrives 28 = .ok (.aload_n 0, 1) := by decide +kernel
theorem dX6_arrives_29 : decode cX6_arrives 29 = .ok (.getfield 142, 3) := by decide +kernel
theorem dX6_arrives_32 : decode cX6_arrives 32 = .ok (.iastore, 1) := by decide +kernel
theorem dX6_arrives_33 : decode cX6_arrives 33 = .ok (.aload_n 0, 1) := by decide +kernel
theorem dX6_arrives_34 : decode cX6_arrives 34 = .ok (.getfield 86, 3) := by decide +kernel
theorem dX6_arrives_37 : decode cX6_arrives 37 = .ok (.aload_n 0, 1) := by decide +kernel
theorem dX6_arrives_38 : decode cX6_arrives 38 = .ok (.getfield 124, 3) := by decide +kernel
theorem dX6_arrives_41 : decode cX6_arrives 41 = .ok (.aload_n 0, 1) := by decide +kernel
theorem dX6_arrives_42 : decode cX6_arrives 42 = .ok (.getfield 41, 3) := by decide +kernel
theorem dX6_arrives_45 : decode cX6_arrives 45 = .ok (.iload_n 1, 1) := by decide +kernel
theorem dX6_arrives_46 : decode cX6_arrives 46 = .ok (.iaload, 1) := by decide +kernel
theorem dX6_arrives_47 : decode cX6_arrives 47 = .ok (.iastore, 1) := by decide +kernel
theorem dX6_arrives_48 : decode cX6_arrives 48 = .ok (.aload_n 0, 1) := by decide +kernel
theorem dX6_arrives_49 : decode cX6_arrives 49 = .ok (.getfield 89, 3) := by decide +kernel
theorem dX6_arrives_52 : decode cX6_arrives 52 = .ok (.aload_n 0, 1) := by decide +kernel
theorem dX6_arrives_53 : decode cX6_arrives 53 = .ok (.getfield 124, 3) := by decide +kernel
theorem dX6_arrives_56 : decode cX6_arrives 56 = .ok (.iload_n 3, 1) := by decide +kernel
theorem dX6_arrives_57 : decode cX6_arrives 57 = .ok (.iastore, 1) := by decide +kernel
theorem dX6_arrives_58 : decode cX6_arrives 58 = .ok (.aload_n 0, 1) := by decide +kernel
theorem dX6_arrives_59 : decode cX6_arrives 59 = .ok (.getfield 95, 3) := by decide +kernel
theorem dX6_arrives_62 : decode cX6_arrives 62 = .ok (.aload_n 0, 1) := by decide +kernel
theorem dX6_arrives_63 : decode cX6_arrives 63 = .ok (.getfield 124, 3) := by decide +kernel
theorem dX6_arrives_66 : decode cX6_arrives 66 = .ok (.iconst (-1), 1) := by decide +kernel
theorem dX6_arrives_67 : decode cX6_arrives 67 = .ok (.iastore, 1) := by decide +kernel
theorem dX6_arrives_68 : decode cX6_arrives 68 = .ok (.aload_n 0, 1) := by decide +kernel
theorem dX6_arrives_69 : decode cX6_arrives 69 = .ok (.dup, 1) := by decide +kernel
theorem dX6_arrives_70 : decode cX6_arrives 70 = .ok (.getfield 124, 3) := by decide +kernel
theorem dX6_arrives_73 : decode cX6_arrives 73 = .ok (.iconst 1, 1) := by decide +kernel
theorem dX6_arrives_74 : decode cX6_arrives 74 = .ok (.iadd, 1) := by decide +kernel
theorem dX6_arrives_75 : decode cX6_arrives 75 = .ok (.putfield 124, 3) := by decide +kernel
theorem dX6_arrives_78 : decode cX6_arrives 78 = .ok (.aload_n 0, 1) := by decide +kernel
theorem dX6_arrives_79 : decode cX6_arrives 79 = .ok (.getfield 124, 3) := by decide +kernel
theorem dX6_arrives_82 : decode cX6_arrives 82 = .ok (.iconst 1, 1) := by decide +kernel
theorem dX6_arrives_83 : decode cX6_arrives 83 = .ok (.isub, 1) := by decide +kernel
theorem dX6_arrives_84 : decode cX6_arrives 84 = .ok (.ireturn, 1) := by decide +kernel
theorem dX6_place_0 : decode cX6_place 0 = .ok (.aload_n 0, 1) := by decide +kernel
theorem dX6_place_1 : decode cX6_place 1 = .ok (.iload_n 1, 1) := by decide +kernel
theorem dX6_place_2 : decode cX6_place 2 = .ok (.invokevirtual 145, 3) := by decide +kernel
theorem dX6_place_5 : decode cX6_place 5 = .ok (.istore_n 3, 1) := by decide +kernel
theorem dX6_place_6 : decode cX6_place 6 = .ok (.iload_n 2, 1) := by decide +kernel
theorem dX6_place_7 : decode cX6_place 7 = .ok (.iconst 1, 1) := by decide +kernel
theorem dX6_place_8 : decode cX6_place 8 = .ok (.sipush 10000, 3) := by decide +kernel
theorem dX6_place_11 : decode cX6_place 11 = .ok (.invokestatic 111, 3) := by decide +kernel
theorem dX6_place_14 : decode cX6_place 14 = .ok (.istore 4, 2) := by decide +kernel
theorem dX6_place_16 : decode cX6_place 16 = .ok (.aload_n 0, 1) := by decide +kernel
theorem dX6_place_17 : decode cX6_place 17 = .ok (.iload_n 3, 1) := by decide +kernel
theorem dX6_place_18 : decode cX6_place 18 = .ok (.ifCond .ne 7, 3) := by decide +kernel
theorem dX6_place_21 : decode cX6_place 21 = .ok (.iconst 1, 1) := by decide +kernel
theorem dX6_place_22 : decode cX6_place 22 = .ok (.goto 34, 3) := by decide +kernel
theorem dX6_place_25 : decode cX6_place 25 = .ok (.iload 4, 2) := by decide +kernel
theorem dX6_place_27 : decode cX6_place 27 = .ok (.ifCond .ne 7, 3) := by decide +kernel
theorem dX6_place_30 : decode cX6_place 30 = .ok (.iconst 2, 1) := by decide +kernel
theorem dX6_place_31 : decode cX6_place 31 = .ok (.goto 25, 3) := by decide +kernel
theorem dX6_place_34 : decode cX6_place 34 = .ok (.aload_n 0, 1) := by decide +kernel
theorem dX6_place_35 : decode cX6_place 35 = .ok (.iload_n 1, 1) := by decide +kernel
theorem dX6_place_36 : decode cX6_place 36 = .ok (.invokevirtual 186, 3) := by decide +kernel
theorem dX6_place_39 : decode cX6_place 39 = .ok (.ifCond .ne 12, 3) := by decide +kernel
theorem dX6_place_42 : decode cX6_place 42 = .ok (.aload_n 0, 1) := by decide +kernel
theorem dX6_place_43 : decode cX6_place 43 = .ok (.getfield 124, 3) := by decide +kernel
theorem dX6_place_46 : decode cX6_place 46 = .ok (.bipush 40, 2) := by decide +kernel
theorem dX6_place_48 : decode cX6_place 48 = .ok (.if_icmp .ne 7, 3) := by decide +kernel
theorem dX6_place_51 : decode cX6_place 51 = .ok (.iconst 3, 1) := by decide +kernel
theorem dX6_place_52 : decode cX6_place 52 = .ok (.goto 4, 3) := by decide +kernel
theorem dX6_place_55 : decode cX6_place 55 = .ok (.iconst 0, 1) := by decide +kernel
theorem dX6_place_56 : decode cX6_place 56 = .ok (.invokevirtual 127, 3) := by decide +kernel
theorem dX6_place_59 : decode cX6_place 59 = .ok (.ifCond .eq 5, 3) := by decide +kernel
theorem dX6_place_62 : decode cX6_place 62 = .ok (.iconst 0, 1) := by decide +kernel
theorem dX6_place_63 : decode cX6_place 63 = .ok (.ireturn, 1) := by decide +kernel
theorem dX6_place_64 : decode cX6_place 64 = .ok (.aload_n 0, 1) := by decide +kernel
theorem dX6_place_65 : decode cX6_place 65 = .ok (.iload_n 1, 1) := by decide +kernel
theorem dX6_place_66 : decode cX6_place 66 = .ok (.iload_n 2, 1) := by decide +kernel
theorem dX6_place_67 : decode cX6_place 67 = .ok (.iconst 0, 1) := by decide +kernel
theorem dX6_place_68 : decode cX6_place 68 = .ok (.invokevirtual 192, 3) := by decide +kernel
theorem dX6_place_71 : decode cX6_place 71 = .ok (.ireturn, 1) := by decide +kernel
theorem dX6_post_0 : decode cX6_post 0 = .ok (.aload_n 0, 1) := by decide +kernel
theorem dX6_post_1 : decode cX6_post 1 = .ok (.iload_n 1, 1) := by decide +kernel
theorem dX6_post_2 : decode cX6_post 2 = .ok (.invokevirtual 145, 3) := by decide +kernel
theorem dX6_post_5 : decode cX6_post 5 = .ok (.istore_n 3, 1) := by decide +kernel
theorem dX6_post_6 : decode cX6_post 6 = .ok (.aload_n 0, 1) := by decide +kernel
theorem dX6_post_7 : decode cX6_post 7 = .ok (.iload_n 3, 1) := by decide +kernel
theorem dX6_post_8 : decode cX6_post 8 = .ok (.ifCond .ne 7, 3) := by decide +kernel
theorem dX6_post_11 : decode cX6_post 11 = .ok (.iconst 1, 1) := by decide +kernel
theorem dX6_post_12 : decode cX6_post 12 = .ok (.goto 32, 3) := by decide +kernel
theorem dX6_post_15 : decode cX6_post 15 = .ok (.iload_n 2, 1) := by decide +kernel
theorem dX6_post_16 : decode cX6_post 16 = .ok (.iconst 1, 1) := by decide +kernel
theorem dX6_post_17 : decode cX6_post 17 = .ok (.sipush 10000, 3) := by decide +kernel
theorem dX6_post_20 : decode cX6_post 20 = .ok (.invokestatic 111, 3) := by decide +kernel
theorem dX6_post_23 : decode cX6_post 23 = .ok (.ifCond .ne 7, 3) := by decide +kernel
theorem dX6_post_26 : decode cX6_post 26 = .ok (.iconst 2, 1) := by decide +kernel
theorem dX6_post_27 : decode cX6_post 27 = .ok (.goto 17, 3) := by decide +kernel
theorem dX6_post_30 : decode cX6_post 30 = .ok (.aload_n 0, 1) := by decide +kernel
theorem dX6_post_31 : decode cX6_post 31 = .ok (.getfield 124, 3) := by decide +kernel
theorem dX6_post_34 : decode cX6_post 34 = .ok (.bipush 40, 2) := by decide +kernel
theorem dX6_post_36 : decode cX6_post 36 = .ok (.if_icmp .ne 7, 3) := by decide +kernel
theorem dX6_post_39 : decode cX6_post 39 = .ok (.iconst 3, 1) := by decide +kernel
theorem dX6_post_40 : decode cX6_post 40 = .ok (.goto 4, 3) := by decide +kernel
theorem dX6_post_43 : decode cX6_post 43 = .ok (.iconst 0, 1) := by decide +kernel
theorem dX6_post_44 : decode cX6_post 44 = .ok (.invokevirtual 127, 3) := by decide +kernel
theorem dX6_post_47 : decode cX6_post 47 = .ok (.ifCond .eq 5, 3) := by decide +kernel
theorem dX6_post_50 : decode cX6_post 50 = .ok (.iconst 0, 1) := by decide +kernel
theorem dX6_post_51 : decode cX6_post 51 = .ok (.ireturn, 1) := by decide +kernel
theorem dX6_post_52 : decode cX6_post 52 = .ok (.aload_n 0, 1) := by decide +kernel
theorem dX6_post_53 : decode cX6_post 53 = .ok (.iload_n 1, 1) := by decide +kernel
theorem dX6_post_54 : decode cX6_post 54 = .ok (.iload_n 2, 1) := by decide +kernel
theorem dX6_post_55 : decode cX6_post 55 = .ok (.aload_n 0, 1) := by decide +kernel
theorem dX6_post_56 : decode cX6_post 56 = .ok (.iload_n 1, 1) := by decide +kernel
theorem dX6_post_57 : decode cX6_post 57 = .ok (.invokevirtual 186, 3) := by decide +kernel
theorem dX6_post_60 : decode cX6_post 60 = .ok (.invokevirtual 192, 3) := by decide +kernel
theorem dX6_post_63 : decode cX6_post 63 = .ok (.ireturn, 1) := by decide +kernel
theorem dX6_sample_0 : decode cX6_sample 0 = .ok (.iload_n 2, 1) := by decide +kernel
theorem dX6_sample_1 : decode cX6_sample 1 = .ok (.iconst 0, 1) := by decide +kernel
theorem dX6_sample_2 : decode cX6_sample 2 = .ok (.ldc 196, 2) := by decide +kernel
theorem dX6_sample_4 : decode cX6_sample 4 = .ok (.invokestatic 111, 3) := by decide +kernel
theorem dX6_sample_7 : decode cX6_sample 7 = .ok (.ifCond .eq 29, 3) := by decide +kernel
theorem dX6_sample_10 : decode cX6_sample 10 = .ok (.iload_n 3, 1) := by decide +kernel
theorem dX6_sample_11 : decode cX6_sample 11 = .ok (.iconst 0, 1) := by decide +kernel
theorem dX6_sample_12 : decode cX6_sample 12 = .ok (.ldc 196, 2) := by decide +kernel
theorem dX6_sample_14 : decode cX6_sample 14 = .ok (.invokestatic 111, 3) := by decide +kernel
theorem dX6_sample_17 : decode cX6_sample 17 = .ok (.ifCond .eq 19, 3) := by decide +kernel
theorem dX6_sample_20 : decode cX6_sample 20 = .ok (.iload 4, 2) := by decide +kernel
theorem dX6_sample_22 : decode cX6_sample 22 = .ok (.iconst 0, 1) := by decide +kernel
theorem dX6_sample_23 : decode cX6_sample 23 = .ok (.sipush 10000, 3) := by decide +kernel
theorem dX6_sample_26 : decode cX6_sample 26 = .ok (.invokestatic 111, 3) := by decide +kernel
theorem dX6_sample_29 : decode cX6_sample 29 = .ok (.ifCond .eq 7, 3) := by decide +kernel
theorem dX6_sample_32 : decode cX6_sample 32 = .ok (.iconst 1, 1) := by decide +kernel
theorem dX6_sample_33 : decode cX6_sample 33 = .ok (.goto 4, 3) := by decide +kernel
theorem dX6_sample_36 : decode cX6_sample 36 = .ok (.iconst 0, 1) := by decide +kernel
theorem dX6_sample_37 : decode cX6_sample 37 = .ok (.istore 5, 2) := by decide +kernel
theorem dX6_sample_39 : decode cX6_sample 39 = .ok (.aload_n 0, 1) := by decide +kernel
theorem dX6_sample_40 : decode cX6_sample 40 = .ok (.aload_n 0, 1) := by decide +kernel
theorem dX6_sample_41 : decode cX6_sample 41 = .ok (.iload_n 1, 1) := by decide +kernel
theorem dX6_sample_42 : decode cX6_sample 42 = .ok (.invokevirtual 197, 3) := by decide +kernel
theorem dX6_sample_45 : decode cX6_sample 45 = .ok (.ifCond .ne 7, 3) := by decide +kernel
theorem dX6_sample_48 : decode cX6_sample 48 = .ok (.iconst 1, 1) := by decide +kernel
theorem dX6_sample_49 : decode cX6_sample 49 = .ok (.goto 13, 3) := by decide +kernel
theorem dX6_sample_52 : decode cX6_sample 52 = .ok (.iload 5, 2) := by decide +kernel
theorem dX6_sample_54 : decode cX6_sample 54 = .ok (.ifCond .ne 7, 3) := by decide +kernel
theorem dX6_sample_57 : decode cX6_sample 57 = .ok (.iconst 2, 1) := by decide +kernel
theorem dX6_sample_58 : decode cX6_sample 58 = .ok (.goto 4, 3) := by decide +kernel
theorem dX6_sample_61 : decode cX6_sample 61 = .ok (.iconst 0, 1) := by decide +kernel
theorem dX6_sample_62 : decode cX6_sample 62 = .ok (.invokevirtual 127, 3) := by decide +kernel
theorem dX6_sample_65 : decode cX6_sample 65 = .ok (.ifCond .eq 5, 3) := by decide +kernel
theorem dX6_sample_68 : decode cX6_sample 68 = .ok (.iconst 0, 1) := by decide +kernel
theorem dX6_sample_69 : decode cX6_sample 69 = .ok (.ireturn, 1) := by decide +kernel
theorem dX6_sample_70 : decode cX6_sample 70 = .ok (.aload_n 0, 1) := by decide +kernel
theorem dX6_sample_71 : decode cX6_sample 71 = .ok (.getfield 95, 3) := by decide +kernel
theorem dX6_sample_74 : decode cX6_sample 74 = .ok (.iload_n 1, 1) := by decide +kernel
theorem dX6_sample_75 : decode cX6_sample 75 = .ok (.iload_n 2, 1) := by decide +kernel
theorem dX6_sample_76 : decode cX6_sample 76 = .ok (.iload 4, 2) := by decide +kernel
theorem dX6_sample_78 : decode cX6_sample 78 = .ok (.isub, 1) := by decide +kernel
theorem dX6_sample_79 : decode cX6_sample 79 = .ok (.iload_n 3, 1) := by decide +kernel
theorem dX6_sample_80 : decode cX6_sample 80 = .ok (.if_icmp .le 7, 3) := by decide +kernel
theorem dX6_sample_83 : decode cX6_sample 83 = .ok (.iconst 2, 1) := by decide +kernel
theorem dX6_sample_84 : decode cX6_sample 84 = .ok (.goto 16, 3) := by decide +kernel
theorem dX6_sample_87 : decode cX6_sample 87 = .ok (.iload_n 2, 1) := by decide +kernel
theorem dX6_sample_88 : decode cX6_sample 88 = .ok (.iload 4, 2) := by decide +kernel
theorem dX6_sample_90 : decode cX6_sample 90 = .ok (.iadd, 1) := by decide +kernel
theorem dX6_sample_91 : decode cX6_sample 91 = .ok (.iload_n 3, 1) := by decide +kernel
theorem dX6_sample_92 : decode cX6_sample 92 = .ok (.if_icmp .gt 7, 3) := by decide +kernel
theorem dX6_sample_95 : decode cX6_sample 95 = .ok (.iconst 0, 1) := by decide +kernel
theorem dX6_sample_96 : decode cX6_sample 96 = .ok (.goto 4, 3) := by decide +kernel
theorem dX6_sample_99 : decode cX6_sample 99 = .ok (.iconst 1, 1) := by decide +kernel
theorem dX6_sample_100 : decode cX6_sample 100 = .ok (.iastore, 1) := by decide +kernel
theorem dX6_sample_101 : decode cX6_sample 101 = .ok (.aload_n 0, 1) := by decide +kernel
theorem dX6_sample_102 : decode cX6_sample 102 = .ok (.getfield 95, 3) := by decide +kernel
theorem dX6_sample_105 : decode cX6_sample 105 = .ok (.iload_n 1, 1) := by decide +kernel
theorem dX6_sample_106 : decode cX6_sample 106 = .ok (.iaload, 1) := by decide +kernel
theorem dX6_sample_107 : decode cX6_sample 107 = .ok (.ireturn, 1) := by decide +kernel
theorem dX6_levelOf_0 : decode cX6_levelOf 0 = .ok (.aload_n 0, 1) := by decide +kernel
theorem dX6_levelOf_1 : decode cX6_levelOf 1 = .ok (.getfield 101, 3) := by decide +kernel
theorem dX6_levelOf_4 : decode cX6_levelOf 4 = .ok (.iload_n 1, 1) := by decide +kernel
theorem dX6_levelOf_5 : decode cX6_levelOf 5 = .ok (.iaload, 1) := by decide +kernel
theorem dX6_levelOf_6 : decode cX6_levelOf 6 = .ok (.sipush 1000, 3) := by decide +kernel
theorem dX6_levelOf_9 : decode cX6_levelOf 9 = .ok (.imul, 1) := by decide +kernel
theorem dX6_levelOf_10 : decode cX6_levelOf 10 = .ok (.aload_n 0, 1) := by decide +kernel
theorem dX6_levelOf_11 : decode cX6_levelOf 11 = .ok (.getfield 80, 3) := by decide +kernel
theorem dX6_levelOf_14 : decode cX6_levelOf 14 = .ok (.iload_n 1, 1) := by decide +kernel
theorem dX6_levelOf_15 : decode cX6_levelOf 15 = .ok (.iaload, 1) := by decide +kernel
theorem dX6_levelOf_16 : decode cX6_levelOf 16 = .ok (.idiv, 1) := by decide +kernel
theorem dX6_levelOf_17 : decode cX6_levelOf 17 = .ok (.istore_n 2, 1) := by decide +kernel
theorem dX6_levelOf_18 : decode cX6_levelOf 18 = .ok (.aload_n 0, 1) := by decide +kernel
theorem dX6_levelOf_19 : decode cX6_levelOf 19 = .ok (.getfield 98, 3) := by decide +kernel
theorem dX6_levelOf_22 : decode cX6_levelOf 22 = .ok (.iload_n 1, 1) := by decide +kernel
theorem dX6_levelOf_23 : decode cX6_levelOf 23 = .ok (.iaload, 1) := by decide +kernel
theorem dX6_levelOf_24 : decode cX6_levelOf 24 = .ok (.iload_n 2, 1) := by decide +kernel
theorem dX6_levelOf_25 : decode cX6_levelOf 25 = .ok (.bipush 50, 2) := by decide +kernel
theorem dX6_levelOf_27 : decode cX6_levelOf 27 = .ok (.if_icmp .lt 7, 3) := by decide +kernel
theorem dX6_levelOf_30 : decode cX6_levelOf 30 = .ok (.iconst 2, 1) := by decide +kernel
theorem dX6_levelOf_31 : decode cX6_levelOf 31 = .ok (.goto 14, 3) := by decide +kernel
theorem dX6_levelOf_34 : decode cX6_levelOf 34 = .ok (.iload_n 2, 1) := by decide +kernel
theorem dX6_levelOf_35 : decode cX6_levelOf 35 = .ok (.bipush 10, 2) := by decide +kernel
theorem dX6_levelOf_37 : decode cX6_levelOf 37 = .ok (.if_icmp .lt 7, 3) := by decide +kernel
theorem dX6_levelOf_40 : decode cX6_levelOf 40 = .ok (.iconst 1, 1) := by decide +kernel
theorem dX6_levelOf_41 : decode cX6_levelOf 41 = .ok (.goto 4, 3) := by decide +kernel
theorem dX6_levelOf_44 : decode cX6_levelOf 44 = .ok (.iconst 0, 1) := by decide +kernel
theorem dX6_levelOf_45 : decode cX6_levelOf 45 = .ok (.iadd, 1) := by decide +kernel
theorem dX6_levelOf_46 : decode cX6_levelOf 46 = .ok (.aload_n 0, 1) := by decide +kernel
theorem dX6_levelOf_47 : decode cX6_levelOf 47 = .ok (.getfield 95, 3) := by decide +kernel
theorem dX6_levelOf_50 : decode cX6_levelOf 50 = .ok (.iload_n 1, 1) := by decide +kernel
theorem dX6_levelOf_51 : decode cX6_levelOf 51 = .ok (.iaload, 1) := by decide +kernel
theorem dX6_levelOf_52 : decode cX6_levelOf 52 = .ok (.iconst 2, 1) := by decide +kernel
theorem dX6_levelOf_53 : decode cX6_levelOf 53 = .ok (.if_icmp .ne 7, 3) := by decide +kernel
theorem dX6_levelOf_56 : decode cX6_levelOf 56 = .ok (.iconst 1, 1) := by decide +kernel
theorem dX6_levelOf_57 : decode cX6_levelOf 57 = .ok (.goto 4, 3) := by decide +kernel
theorem dX6_levelOf_60 : decode cX6_levelOf 60 = .ok (.iconst 0, 1) := by decide +kernel
theorem dX6_levelOf_61 : decode cX6_levelOf 61 = .ok (.iadd, 1) := by decide +kernel
theorem dX6_levelOf_62 : decode cX6_levelOf 62 = .ok (.ireturn, 1) := by decide +kernel
theorem dX6_event_0 : decode cX6_event 0 = .ok (.aload_n 0, 1) := by decide +kernel
theorem dX6_event_1 : decode cX6_event 1 = .ok (.aload_n 0, 1) := by decide +kernel
theorem dX6_event_2 : decode cX6_event 2 = .ok (.iload_n 1, 1) := by decide +kernel
theorem dX6_event_3 : decode cX6_event 3 = .ok (.invokevirtual 197, 3) := by decide +kernel
theorem dX6_event_6 : decode cX6_event 6 = .ok (.ifCond .ne 7, 3) := by decide +kernel
theorem dX6_event_9 : decode cX6_event 9 = .ok (.iconst 1, 1) := by decide +kernel
theorem dX6_event_10 : decode cX6_event 10 = .ok (.goto 28, 3) := by decide +kernel
theorem dX6_event_13 : decode cX6_event 13 = .ok (.iload_n 2, 1) := by decide +kernel
theorem dX6_event_14 : decode cX6_event 14 = .ok (.iconst 0, 1) := by decide +kernel
theorem dX6_event_15 : decode cX6_event 15 = .ok (.iconst 3, 1) := by decide +kernel
theorem dX6_event_16 : decode cX6_event 16 = .ok (.invokestatic 111, 3) := by decide +kernel
theorem dX6_event_19 : decode cX6_event 19 = .ok (.ifCond .eq 14, 3) := by decide +kernel
theorem dX6_event_22 : decode cX6_event 22 = .ok (.iload_n 3, 1) := by decide +kernel
theorem dX6_event_23 : decode cX6_event 23 = .ok (.iconst 1, 1) := by decide +kernel
theorem dX6_event_24 : decode cX6_event 24 = .ok (.sipush 1000, 3) := by decide +kernel
theorem dX6_event_27 : decode cX6_event 27 = .ok (.invokestatic 111, 3) := by decide +kernel
theorem dX6_event_30 : decode cX6_event 30 = .ok (.ifCond .ne 7, 3) := by decide +kernel
theorem dX6_event_33 : decode cX6_event 33 = .ok (.iconst 2, 1) := by decide +kernel
theorem dX6_event_34 : decode cX6_event 34 = .ok (.goto 4, 3) := by decide +kernel
theorem dX6_event_37 : decode cX6_event 37 = .ok (.iconst 0, 1) := by decide +kernel
theorem dX6_event_38 : decode cX6_event 38 = .ok (.invokevirtual 127, 3) := by decide +kernel
theorem dX6_event_41 : decode cX6_event 41 = .ok (.ifCond .eq 5, 3) := by decide +kernel
theorem dX6_event_44 : decode cX6_event 44 = .ok (.iconst 0, 1) := by decide +kernel
theorem dX6_event_45 : decode cX6_event 45 = .ok (.ireturn, 1) := by decide +kernel
theorem dX6_event_46 : decode cX6_event 46 = .ok (.aload_n 0, 1) := by decide +kernel
theorem dX6_event_47 : decode cX6_event 47 = .ok (.getfield 98, 3) := by decide +kernel
theorem dX6_event_50 : decode cX6_event 50 = .ok (.iload_n 1, 1) := by decide +kernel
theorem dX6_event_51 : decode cX6_event 51 = .ok (.iload_n 2, 1) := by decide +kernel
theorem dX6_event_52 : decode cX6_event 52 = .ok (.aload_n 0, 1) := by decide +kernel
theorem dX6_event_53 : decode cX6_event 53 = .ok (.getfield 98, 3) := by decide +kernel
theorem dX6_event_56 : decode cX6_event 56 = .ok (.iload_n 1, 1) := by decide +kernel
theorem dX6_event_57 : decode cX6_event 57 = .ok (.iaload, 1) := by decide +kernel
theorem dX6_event_58 : decode cX6_event 58 = .ok (.if_icmp .le 7, 3) := by decide +kernel
theorem dX6_event_61 : decode cX6_event 61 = .ok (.iload_n 2, 1) := by decide +kernel
theorem dX6_event_62 : decode cX6_event 62 = .ok (.goto 9, 3) := by decide +kernel
theorem dX6_event_65 : decode cX6_event 65 = .ok (.aload_n 0, 1) := by decide +kernel
theorem dX6_event_66 : decode cX6_event 66 = .ok (.getfield 98, 3) := by decide +kernel
theorem dX6_event_69 : decode cX6_event 69 = .ok (.iload_n 1, 1) := by decide +kernel
theorem dX6_event_70 : decode cX6_event 70 = .ok (.iaload, 1) := by decide +kernel
theorem dX6_event_71 : decode cX6_event 71 = .ok (.iastore, 1) := by decide +kernel
theorem dX6_event_72 : decode cX6_event 72 = .ok (.aload_n 0, 1) := by decide +kernel
theorem dX6_event_73 : decode cX6_event 73 = .ok (.getfield 101, 3) := by decide +kernel
theorem dX6_event_76 : decode cX6_event 76 = .ok (.iload_n 1, 1) := by decide +kernel
theorem dX6_event_77 : decode cX6_event 77 = .ok (.dup2, 1) := by decide +kernel
theorem dX6_event_78 : decode cX6_event 78 = .ok (.iaload, 1) := by decide +kernel
theorem dX6_event_79 : decode cX6_event 79 = .ok (.iload_n 3, 1) := by decide +kernel
theorem dX6_event_80 : decode cX6_event 80 = .ok (.iadd, 1) := by decide +kernel
theorem dX6_event_81 : decode cX6_event 81 = .ok (.iastore, 1) := by decide +kernel
theorem dX6_event_82 : decode cX6_event 82 = .ok (.aload_n 0, 1) := by decide +kernel
theorem dX6_event_83 : decode cX6_event 83 = .ok (.iload_n 1, 1) := by decide +kernel
theorem dX6_event_84 : decode cX6_event 84 = .ok (.invokevirtual 200, 3) := by decide +kernel
theorem dX6_event_87 : decode cX6_event 87 = .ok (.ireturn, 1) := by decide +kernel
theorem dX6_recall_0 : decode cX6_recall 0 = .ok (.aload_n 0, 1) := by decide +kernel
theorem dX6_recall_1 : decode cX6_recall 1 = .ok (.iload_n 1, 1) := by decide +kernel
theorem dX6_recall_2 : decode cX6_recall 2 = .ok (.invokevirtual 145, 3) := by decide +kernel
theorem dX6_recall_5 : decode cX6_recall 5 = .ok (.ifCond .eq 23, 3) := by decide +kernel
theorem dX6_recall_8 : decode cX6_recall 8 = .ok (.aload_n 0, 1) := by decide +kernel
theorem dX6_recall_9 : decode cX6_recall 9 = .ok (.iload_n 2, 1) := by decide +kernel
theorem dX6_recall_10 : decode cX6_recall 10 = .ok (.invokevirtual 197, 3) := by decide +kernel
theorem dX6_recall_13 : decode cX6_recall 13 = .ok (.ifCond .eq 15, 3) := by decide +kernel
theorem dX6_recall_16 : decode cX6_recall 16 = .ok (.aload_n 0, 1) := by decide +kernel
theorem dX6_recall_17 : decode cX6_recall 17 = .ok (.iload_n 3, 1) := by decide +kernel
theorem dX6_recall_18 : decode cX6_recall 18 = .ok (.invokevirtual 197, 3) := by decide +kernel
theorem dX6_recall_21 : decode cX6_recall 21 = .ok (.ifCond .eq 7, 3) := by decide +kernel
theorem dX6_recall_24 : decode cX6_recall 24 = .ok (.iconst 1, 1) := by decide +kernel
theorem dX6_recall_25 : decode cX6_recall 25 = .ok (.goto 4, 3) := by decide +kernel
theorem dX6_recall_28 : decode cX6_recall 28 = .ok (.iconst 0, 1) := by decide +kernel
theorem dX6_recall_29 : decode cX6_recall 29 = .ok (.istore 4, 2) := by decide +kernel
theorem dX6_recall_31 : decode cX6_recall 31 = .ok (.aload_n 0, 1) := by decide +kernel
theorem dX6_recall_32 : decode cX6_recall 32 = .ok (.iload 4, 2) := by decide +kernel
theorem dX6_recall_34 : decode cX6_recall 34 = .ok (.ifCond .ne 7, 3) := by decide +kernel
theorem dX6_recall_37 : decode cX6_recall 37 = .ok (.iconst 1, 1) := by decide +kernel
theorem dX6_recall_38 : decode cX6_recall 38 = .ok (.goto 13, 3) := by decide +kernel
theorem dX6_recall_41 : decode cX6_recall 41 = .ok (.iload_n 3, 1) := by decide +kernel
theorem dX6_recall_42 : decode cX6_recall 42 = .ok (.iload_n 2, 1) := by decide +kernel
theorem dX6_recall_43 : decode cX6_recall 43 = .ok (.if_icmp .ge 7, 3) := by decide +kernel
theorem dX6_recall_46 : decode cX6_recall 46 = .ok (.iconst 2, 1) := by decide +kernel
theorem dX6_recall_47 : decode cX6_recall 47 = .ok (.goto 4, 3) := by decide +kernel
theorem dX6_recall_50 : decode cX6_recall 50 = .ok (.iconst 0, 1) := by decide +kernel
theorem dX6_recall_51 : decode cX6_recall 51 = .ok (.invokevirtual 127, 3) := by decide +kernel
theorem dX6_recall_54 : decode cX6_recall 54 = .ok (.ifCond .eq 5, 3) := by decide +kernel
theorem dX6_recall_57 : decode cX6_recall 57 = .ok (.iconst 0, 1) := by decide +kernel
theorem dX6_recall_58 : decode cX6_recall 58 = .ok (.ireturn, 1) := by decide +kernel
theorem dX6_recall_59 : decode cX6_recall 59 = .ok (.iconst 0, 1) := by decide +kernel
theorem dX6_recall_60 : decode cX6_recall 60 = .ok (.istore 5, 2) := by decide +kernel
theorem dX6_recall_62 : decode cX6_recall 62 = .ok (.iload_n 2, 1) := by decide +kernel
theorem dX6_recall_63 : decode cX6_recall 63 = .ok (.istore 6, 2) := by decide +kernel
theorem dX6_recall_65 : decode cX6_recall 65 = .ok (.iload 6, 2) := by decide +kernel
theorem dX6_recall_67 : decode cX6_recall 67 = .ok (.iload_n 3, 1) := by decide +kernel
theorem dX6_recall_68 : decode cX6_recall 68 = .ok (.if_icmp .gt 81, 3) := by decide +kernel
theorem dX6_recall_71 : decode cX6_recall 71 = .ok (.aload_n 0, 1) := by decide +kernel
theorem dX6_recall_72 : decode cX6_recall 72 = .ok (.getfield 77, 3) := by decide +kernel
theorem dX6_recall_75 : decode cX6_recall 75 = .ok (.iload 6, 2) := by decide +kernel
theorem dX6_recall_77 : decode cX6_recall 77 = .ok (.iaload, 1) := by decide +kernel
theorem dX6_recall_78 : decode cX6_recall 78 = .ok (.iload_n 1, 1) := by decide +kernel
theorem dX6_recall_79 : decode cX6_recall 79 = .ok (.if_icmp .ne 17, 3) := by decide +kernel
theorem dX6_recall_82 : decode cX6_recall 82 = .ok (.aload_n 0, 1) := by decide +kernel
theorem dX6_recall_83 : decode cX6_recall 83 = .ok (.getfield 92, 3) := by decide +kernel
theorem dX6_recall_86 : decode cX6_recall 86 = .ok (.iload 6, 2) := by decide +kernel
theorem dX6_recall_88 : decode cX6_recall 88 = .ok (.iaload, 1) := by decide +kernel
theorem dX6_recall_89 : decode cX6_recall 89 = .ok (.ifCond .ne 7, 3) := by decide +kernel
theorem dX6_recall_92 : decode cX6_recall 92 = .ok (.iconst 1, 1) := by decide +kernel
theorem dX6_recall_93 : decode cX6_recall 93 = .ok (.goto 4, 3) := by decide +kernel
theorem dX6_recall_96 : decode cX6_recall 96 = .ok (.iconst 0, 1) := by decide +kernel
theorem dX6_recall_97 : decode cX6_recall 97 = .ok (.istore 7, 2) := by decide +kernel
theorem dX6_recall_99 : decode cX6_recall 99 = .ok (.iload 5, 2) := by decide +kernel
theorem dX6_recall_101 : decode cX6_recall 101 = .ok (.iload 7, 2) := by decide +kernel
theorem dX6_recall_103 : decode cX6_recall 103 = .ok (.ifCond .eq 13, 3) := by decide +kernel
theorem dX6_recall_106 : decode cX6_recall 106 = .ok (.aload_n 0, 1) := by decide +kernel
theorem dX6_recall_107 : decode cX6_recall 107 = .ok (.getfield 80, 3) := by decide +kernel
theorem dX6_recall_110 : decode cX6_recall 110 = .ok (.iload 6, 2) := by decide +kernel
theorem dX6_recall_112 : decode cX6_recall 112 = .ok (.iaload, 1) := by decide +kernel
theorem dX6_recall_113 : decode cX6_recall 113 = .ok (.goto 4, 3) := by decide +kernel
theorem dX6_recall_116 : decode cX6_recall 116 = .ok (.iconst 0, 1) := by decide +kernel
theorem dX6_recall_117 : decode cX6_recall 117 = .ok (.iadd, 1) := by decide +kernel
theorem dX6_recall_118 : decode cX6_recall 118 = .ok (.istore 5, 2) := by decide +kernel
theorem dX6_recall_120 : decode cX6_recall 120 = .ok (.aload_n 0, 1) := by decide +kernel
theorem dX6_recall_121 : decode cX6_recall 121 = .ok (.getfield 92, 3) := by decide +kernel
theorem dX6_recall_124 : decode cX6_recall 124 = .ok (.iload 6, 2) := by decide +kernel
theorem dX6_recall_126 : decode cX6_recall 126 = .ok (.iload 7, 2) := by decide +kernel
theorem dX6_recall_128 : decode cX6_recall 128 = .ok (.ifCond .eq 7, 3) := by decide +kernel
theorem dX6_recall_131 : decode cX6_recall 131 = .ok (.iconst 1, 1) := by decide +kernel
theorem dX6_recall_132 : decode cX6_recall 132 = .ok (.goto 10, 3) := by decide +kernel
theorem dX6_recall_135 : decode cX6_recall 135 = .ok (.aload_n 0, 1) := by decide +kernel
theorem dX6_recall_136 : decode cX6_recall 136 = .ok (.getfield 92, 3) := by decide +kernel
theorem dX6_recall_139 : decode cX6_recall 139 = .ok (.iload 6, 2) := by decide +kernel
theorem dX6_recall_141 : decode cX6_recall 141 = .ok (.iaload, 1) := by decide +kernel
theorem dX6_recall_142 : decode cX6_recall 142 = .ok (.iastore, 1) := by decide +kernel
theorem dX6_recall_143 : decode cX6_recall 143 = .ok (.iinc 6 1, 3) := by decide +kernel
theorem dX6_recall_146 : decode cX6_recall 146 = .ok (.goto (-81), 3) := by decide +kernel
theorem dX6_recall_149 : decode cX6_recall 149 = .ok (.iload 5, 2) := by decide +kernel
theorem dX6_recall_151 : decode cX6_recall 151 = .ok (.ireturn, 1) := by decide +kernel
theorem dX6_ban_0 : decode cX6_ban 0 = .ok (.iload_n 1, 1) := by decide +kernel
theorem dX6_ban_1 : decode cX6_ban 1 = .ok (.iconst 0, 1) := by decide +kernel
theorem dX6_ban_2 : decode cX6_ban 2 = .ok (.iconst 4, 1) := by decide +kernel
theorem dX6_ban_3 : decode cX6_ban 3 = .ok (.invokestatic 111, 3) := by decide +kernel
theorem dX6_ban_6 : decode cX6_ban 6 = .ok (.ifCond .eq 15, 3) := by decide +kernel
theorem dX6_ban_9 : decode cX6_ban 9 = .ok (.aload_n 0, 1) := by decide +kernel
theorem dX6_ban_10 : decode cX6_ban 10 = .ok (.iload_n 2, 1) := by decide +kernel
theorem dX6_ban_11 : decode cX6_ban 11 = .ok (.invokevirtual 145, 3) := by decide +kernel
theorem dX6_ban_14 : decode cX6_ban 14 = .ok (.ifCond .eq 7, 3) := by decide +kernel
theorem dX6_ban_17 : decode cX6_ban 17 = .ok (.iconst 1, 1) := by decide +kernel
theorem dX6_ban_18 : decode cX6_ban 18 = .ok (.goto 4, 3) := by decide +kernel
theorem dX6_ban_21 : decode cX6_ban 21 = .ok (.iconst 0, 1) := by decide +kernel
theorem dX6_ban_22 : decode cX6_ban 22 = .ok (.istore 4, 2) := by decide +kernel
theorem dX6_ban_24 : decode cX6_ban 24 = .ok (.aload_n 0, 1) := by decide +kernel
theorem dX6_ban_25 : decode cX6_ban 25 = .ok (.iload 4, 2) := by decide +kernel
theorem dX6_ban_27 : decode cX6_ban 27 = .ok (.ifCond .eq 7, 3) := by decide +kernel
theorem dX6_ban_30 : decode cX6_ban 30 = .ok (.iconst 0, 1) := by decide +kernel
theorem dX6_ban_31 : decode cX6_ban 31 = .ok (.goto 4, 3) := by decide +kernel
theorem dX6_ban_34 : decode cX6_ban 34 = .ok (.iconst 1, 1) := by decide +kernel
theorem dX6_ban_35 : decode cX6_ban 35 = .ok (.invokevirtual 127, 3) := by decide +kernel
theorem dX6_ban_38 : decode cX6_ban 38 = .ok (.ifCond .eq 5, 3) := by decide +kernel
theorem dX6_ban_41 : decode cX6_ban 41 = .ok (.iconst 0, 1) := by decide +kernel
theorem dX6_ban_42 : decode cX6_ban 42 = .ok (.ireturn, 1) := by decide +kernel
theorem dX6_ban_43 : decode cX6_ban 43 = .ok (.aload_n 0, 1) := by decide +kernel
theorem dX6_ban_44 : decode cX6_ban 44 = .ok (.getfield 68, 3) := by decide +kernel
theorem dX6_ban_47 : decode cX6_ban 47 = .ok (.iload_n 2, 1) := by decide +kernel
theorem dX6_ban_48 : decode cX6_ban 48 = .ok (.iload_n 3, 1) := by decide +kernel
theorem dX6_ban_49 : decode cX6_ban 49 = .ok (.ifCond .eq 16, 3) := by decide +kernel
theorem dX6_ban_52 : decode cX6_ban 52 = .ok (.aload_n 0, 1) := by decide +kernel
theorem dX6_ban_53 : decode cX6_ban 53 = .ok (.getfield 68, 3) := by decide +kernel
theorem dX6_ban_56 : decode cX6_ban 56 = .ok (.iload_n 2, 1) := by decide +kernel
theorem dX6_ban_57 : decode cX6_ban 57 = .ok (.iaload, 1) := by decide +kernel
theorem dX6_ban_58 : decode cX6_ban 58 = .ok (.iconst 1, 1) := by decide +kernel
theorem dX6_ban_59 : decode cX6_ban 59 = .ok (.iload_n 1, 1) := by decide +kernel
theorem dX6_ban_60 : decode cX6_ban 60 = .ok (.ishl, 1) := by decide +kernel
theorem dX6_ban_61 : decode cX6_ban 61 = .ok (.ior, 1) := by decide +kernel
theorem dX6_ban_62 : decode cX6_ban 62 = .ok (.goto 15, 3) := by decide +kernel
theorem dX6_ban_65 : decode cX6_ban 65 = .ok (.aload_n 0, 1) := by decide +kernel
theorem dX6_ban_66 : decode cX6_ban 66 = .ok (.getfield 68, 3) := by decide +kernel
theorem dX6_ban_69 : decode cX6_ban 69 = .ok (.iload_n 2, 1) := by decide +kernel
theorem dX6_ban_70 : decode cX6_ban 70 = .ok (.iaload, 1) := by decide +kernel
theorem dX6_ban_71 : decode cX6_ban 71 = .ok (.iconst 1, 1) := by decide +kernel
theorem dX6_ban_72 : decode cX6_ban 72 = .ok (.iload_n 1, 1) := by decide +kernel
theorem dX6_ban_73 : decode cX6_ban 73 = .ok (.ishl, 1) := by decide +kernel
theorem dX6_ban_74 : decode cX6_ban 74 = .ok (.iconst (-1), 1) := by decide +kernel
theorem dX6_ban_75 : decode cX6_ban 75 = .ok (.ixor, 1) := by decide +kernel
theorem dX6_ban_76 : decode cX6_ban 76 = .ok (.iand, 1) := by decide +kernel
theorem dX6_ban_77 : decode cX6_ban 77 = .ok (.iastore, 1) := by decide +kernel
theorem dX6_ban_78 : decode cX6_ban 78 = .ok (.aload_n 0, 1) := by decide +kernel
theorem dX6_ban_79 : decode cX6_ban 79 = .ok (.getfield 68, 3) := by decide +kernel
theorem dX6_ban_82 : decode cX6_ban 82 = .ok (.iload_n 2, 1) := by decide +kernel
theorem dX6_ban_83 : decode cX6_ban 83 = .ok (.iaload, 1) := by decide +kernel
theorem dX6_ban_84 : decode cX6_ban 84 = .ok (.invokestatic 174, 3) := by decide +kernel
theorem dX6_ban_87 : decode cX6_ban 87 = .ok (.ireturn, 1) := by decide +kernel
theorem dX6_pass_0 : decode cX6_pass 0 = .ok (.aload_n 0, 1) := by decide +kernel
theorem dX6_pass_1 : decode cX6_pass 1 = .ok (.iload_n 1, 1) := by decide +kernel
theorem dX6_pass_2 : decode cX6_pass 2 = .ok (.iconst 1, 1) := by decide +kernel
theorem dX6_pass_3 : decode cX6_pass 3 = .ok (.sipush 500, 3) := by decide +kernel
theorem dX6_pass_6 : decode cX6_pass 6 = .ok (.invokestatic 111, 3) := by decide +kernel
theorem dX6_pass_9 : decode cX6_pass 9 = .ok (.ifCond .ne 7, 3) := by decide +kernel
theorem dX6_pass_12 : decode cX6_pass 12 = .ok (.iconst 1, 1) := by decide +kernel
theorem dX6_pass_13 : decode cX6_pass 13 = .ok (.goto 20, 3) := by decide +kernel
theorem dX6_pass_16 : decode cX6_pass 16 = .ok (.aload_n 0, 1) := by decide +kernel
theorem dX6_pass_17 : decode cX6_pass 17 = .ok (.getfield 142, 3) := by decide +kernel
theorem dX6_pass_20 : decode cX6_pass 20 = .ok (.iload_n 1, 1) := by decide +kernel
theorem dX6_pass_21 : decode cX6_pass 21 = .ok (.iadd, 1) := by decide +kernel
theorem dX6_pass_22 : decode cX6_pass 22 = .ok (.sipush 5000, 3) := by decide +kernel
theorem dX6_pass_25 : decode cX6_pass 25 = .ok (.if_icmp .le 7, 3) := by decide +kernel
theorem dX6_pass_28 : decode cX6_pass 28 = .ok (.iconst 2, 1) := by decide +kernel
theorem dX6_pass_29 : decode cX6_pass 29 = .ok (.goto 4, 3) := by decide +kernel
theorem dX6_pass_32 : decode cX6_pass 32 = .ok (.iconst 0, 1) := by decide +kernel
theorem dX6_pass_33 : decode cX6_pass 33 = .ok (.invokevirtual 127, 3) := by decide +kernel
theorem dX6_pass_36 : decode cX6_pass 36 = .ok (.ifCond .eq 5, 3) := by decide +kernel
theorem dX6_pass_39 : decode cX6_pass 39 = .ok (.iconst 0, 1) := by decide +kernel
theorem dX6_pass_40 : decode cX6_pass 40 = .ok (.ireturn, 1) := by decide +kernel
theorem dX6_pass_41 : decode cX6_pass 41 = .ok (.aload_n 0, 1) := by decide +kernel
theorem dX6_pass_42 : decode cX6_pass 42 = .ok (.dup, 1) := by decide +kernel
theorem dX6_pass_43 : decode cX6_pass 43 = .ok (.getfield 142, 3) := by decide +kernel
theorem dX6_pass_46 : decode cX6_pass 46 = .ok (.iload_n 1, 1) := by decide +kernel
theorem dX6_pass_47 : decode cX6_pass 47 = .ok (.iadd, 1) := by decide +kernel
theorem dX6_pass_48 : decode cX6_pass 48 = .ok (.putfield 142, 3) := by decide +kernel
theorem dX6_pass_51 : decode cX6_pass 51 = .ok (.aload_n 0, 1) := by decide +kernel
theorem dX6_pass_52 : decode cX6_pass 52 = .ok (.getfield 142, 3) := by decide +kernel
theorem dX6_pass_55 : decode cX6_pass 55 = .ok (.ireturn, 1) := by decide +kernel
theorem dX6_day_0 : decode cX6_day 0 = .ok (.aload_n 0, 1) := by decide +kernel
theorem dX6_day_1 : decode cX6_day 1 = .ok (.iconst 0, 1) := by decide +kernel
theorem dX6_day_2 : decode cX6_day 2 = .ok (.putfield 104, 3) := by decide +kernel
theorem dX6_day_5 : decode cX6_day 5 = .ok (.aload_n 0, 1) := by decide +kernel
theorem dX6_day_6 : decode cX6_day 6 = .ok (.getfield 142, 3) := by decide +kernel
theorem dX6_day_9 : decode cX6_day 9 = .ok (.ireturn, 1) := by decide +kernel
theorem dX6_applies_0 : decode cX6_applies 0 = .ok (.aload_n 0, 1) := by decide +kernel
theorem dX6_applies_1 : decode cX6_applies 1 = .ok (.aload_n 0, 1) := by decide +kernel
theorem dX6_applies_2 : decode cX6_applies 2 = .ok (.iload_n 1, 1) := by decide +kernel
theorem dX6_applies_3 : decode cX6_applies 3 = .ok (.invokevirtual 131, 3) := by decide +kernel
theorem dX6_applies_6 : decode cX6_applies 6 = .ok (.ifCond .eq 15, 3) := by decide +kernel
theorem dX6_applies_9 : decode cX6_applies 9 = .ok (.aload_n 0, 1) := by decide +kernel
theorem dX6_applies_10 : decode cX6_applies 10 = .ok (.iload_n 2, 1) := by decide +kernel
theorem dX6_applies_11 : decode cX6_applies 11 = .ok (.invokevirtual 145, 3) := by decide +kernel
theorem dX6_applies_14 : decode cX6_applies 14 = .ok (.ifCond .eq 7, 3) := by decide +kernel
theorem dX6_applies_17 : decode cX6_applies 17 = .ok (.iconst 0, 1) := by decide +kernel
theorem dX6_applies_18 : decode cX6_applies 18 = .ok (.goto 4, 3) := by decide +kernel
theorem dX6_applies_21 : decode cX6_applies 21 = .ok (.iconst 1, 1) := by decide +kernel
theorem dX6_applies_22 : decode cX6_applies 22 = .ok (.invokevirtual 127, 3) := by decide +kernel
theorem dX6_applies_25 : decode cX6_applies 25 = .ok (.ifCond .ne 16, 3) := by decide +kernel
theorem dX6_applies_28 : decode cX6_applies 28 = .ok (.aload_n 0, 1) := by decide +kernel
theorem dX6_applies_29 : decode cX6_applies 29 = .ok (.iload_n 1, 1) := by decide +kernel
theorem dX6_applies_30 : decode cX6_applies 30 = .ok (.iload_n 2, 1) := by decide +kernel
theorem dX6_applies_31 : decode cX6_applies 31 = .ok (.invokevirtual 155, 3) := by decide +kernel
theorem dX6_applies_34 : decode cX6_applies 34 = .ok (.ifCond .eq 7, 3) := by decide +kernel
theorem dX6_applies_37 : decode cX6_applies 37 = .ok (.iconst 1, 1) := by decide +kernel
theorem dX6_applies_38 : decode cX6_applies 38 = .ok (.goto 4, 3) := by decide +kernel
theorem dX6_applies_41 : decode cX6_applies 41 = .ok (.iconst 0, 1) := by decide +kernel
theorem dX6_applies_42 : decode cX6_applies 42 = .ok (.ireturn, 1) := by decide +kernel
theorem dX6_demands_0 : decode cX6_demands 0 = .ok (.aload_n 0, 1) := by decide +kernel
theorem dX6_demands_1 : decode cX6_demands 1 = .ok (.aload_n 0, 1) := by decide +kernel
theorem dX6_demands_2 : decode cX6_demands 2 = .ok (.iload_n 1, 1) := by decide +kernel
theorem dX6_demands_3 : decode cX6_demands 3 = .ok (.invokevirtual 145, 3) := by decide +kernel
theorem dX6_demands_6 : decode cX6_demands 6 = .ok (.ifCond .eq 7, 3) := by decide +kernel
theorem dX6_demands_9 : decode cX6_demands 9 = .ok (.iconst 0, 1) := by decide +kernel
theorem dX6_demands_10 : decode cX6_demands 10 = .ok (.goto 4, 3) := by decide +kernel
theorem dX6_demands_13 : decode cX6_demands 13 = .ok (.iconst 1, 1) := by decide +kernel
theorem dX6_demands_14 : decode cX6_demands 14 = .ok (.invokevirtual 127, 3) := by decide +kernel
theorem dX6_demands_17 : decode cX6_demands 17 = .ok (.ifCond .eq 5, 3) := by decide +kernel
theorem dX6_demands_20 : decode cX6_demands 20 = .ok (.iconst 0, 1) := by decide +kernel
theorem dX6_demands_21 : decode cX6_demands 21 = .ok (.ireturn, 1) := by decide +kernel
theorem dX6_demands_22 : decode cX6_demands 22 = .ok (.iload_n 2, 1) := by decide +kernel
theorem dX6_demands_23 : decode cX6_demands 23 = .ok (.ifCond .eq 11, 3) := by decide +kernel
theorem dX6_demands_26 : decode cX6_demands 26 = .ok (.aload_n 0, 1) := by decide +kernel
theorem dX6_demands_27 : decode cX6_demands 27 = .ok (.iload_n 1, 1) := by decide +kernel
theorem dX6_demands_28 : decode cX6_demands 28 = .ok (.invokevirtual 177, 3) := by decide +kernel
theorem dX6_demands_31 : decode cX6_demands 31 = .ok (.goto 8, 3) := by decide +kernel
theorem dX6_demands_34 : decode cX6_demands 34 = .ok (.aload_n 0, 1) := by decide +kernel
theorem dX6_demands_35 : decode cX6_demands 35 = .ok (.iload_n 1, 1) := by decide +kernel
theorem dX6_demands_36 : decode cX6_demands 36 = .ok (.invokevirtual 158, 3) := by decide +kernel
theorem dX6_demands_39 : decode cX6_demands 39 = .ok (.ireturn, 1) := by decide +kernel
theorem dX6_way_0 : decode cX6_way 0 = .ok (.aload_n 0, 1) := by decide +kernel
theorem dX6_way_1 : decode cX6_way 1 = .ok (.aload_n 0, 1) := by decide +kernel
theorem dX6_way_2 : decode cX6_way 2 = .ok (.iload_n 1, 1) := by decide +kernel
theorem dX6_way_3 : decode cX6_way 3 = .ok (.invokevirtual 145, 3) := by decide +kernel
theorem dX6_way_6 : decode cX6_way 6 = .ok (.ifCond .eq 7, 3) := by decide +kernel
theorem dX6_way_9 : decode cX6_way 9 = .ok (.iconst 0, 1) := by decide +kernel
theorem dX6_way_10 : decode cX6_way 10 = .ok (.goto 4, 3) := by decide +kernel
theorem dX6_way_13 : decode cX6_way 13 = .ok (.iconst 1, 1) := by decide +kernel
theorem dX6_way_14 : decode cX6_way 14 = .ok (.invokevirtual 127, 3) := by decide +kernel
theorem dX6_way_17 : decode cX6_way 17 = .ok (.ifCond .eq 7, 3) := by decide +kernel
theorem dX6_way_20 : decode cX6_way 20 = .ok (.iconst 0, 1) := by decide +kernel
theorem dX6_way_21 : decode cX6_way 21 = .ok (.goto 8, 3) := by decide +kernel
theorem dX6_way_24 : decode cX6_way 24 = .ok (.aload_n 0, 1) := by decide +kernel
theorem dX6_way_25 : decode cX6_way 25 = .ok (.iload_n 1, 1) := by decide +kernel
theorem dX6_way_26 : decode cX6_way 26 = .ok (.invokevirtual 180, 3) := by decide +kernel
theorem dX6_way_29 : decode cX6_way 29 = .ok (.ireturn, 1) := by decide +kernel
theorem dX6_wanting_0 : decode cX6_wanting 0 = .ok (.aload_n 0, 1) := by decide +kernel
theorem dX6_wanting_1 : decode cX6_wanting 1 = .ok (.aload_n 0, 1) := by decide +kernel
theorem dX6_wanting_2 : decode cX6_wanting 2 = .ok (.iload_n 1, 1) := by decide +kernel
theorem dX6_wanting_3 : decode cX6_wanting 3 = .ok (.invokevirtual 145, 3) := by decide +kernel
theorem dX6_wanting_6 : decode cX6_wanting 6 = .ok (.ifCond .eq 7, 3) := by decide +kernel
theorem dX6_wanting_9 : decode cX6_wanting 9 = .ok (.iconst 0, 1) := by decide +kernel
theorem dX6_wanting_10 : decode cX6_wanting 10 = .ok (.goto 4, 3) := by decide +kernel
theorem dX6_wanting_13 : decode cX6_wanting 13 = .ok (.iconst 1, 1) := by decide +kernel
theorem dX6_wanting_14 : decode cX6_wanting 14 = .ok (.invokevirtual 127, 3) := by decide +kernel
theorem dX6_wanting_17 : decode cX6_wanting 17 = .ok (.ifCond .eq 7, 3) := by decide +kernel
theorem dX6_wanting_20 : decode cX6_wanting 20 = .ok (.iconst 0, 1) := by decide +kernel
theorem dX6_wanting_21 : decode cX6_wanting 21 = .ok (.goto 8, 3) := by decide +kernel
theorem dX6_wanting_24 : decode cX6_wanting 24 = .ok (.aload_n 0, 1) := by decide +kernel
theorem dX6_wanting_25 : decode cX6_wanting 25 = .ok (.iload_n 1, 1) := by decide +kernel
theorem dX6_wanting_26 : decode cX6_wanting 26 = .ok (.invokevirtual 186, 3) := by decide +kernel
theorem dX6_wanting_29 : decode cX6_wanting 29 = .ok (.ireturn, 1) := by decide +kernel
theorem dX6_onMarket_0 : decode cX6_onMarket 0 = .ok (.iconst 0, 1) := by decide +kernel
theorem dX6_onMarket_1 : decode cX6_onMarket 1 = .ok (.istore_n 2, 1) := by decide +kernel
theorem dX6_onMarket_2 : decode cX6_onMarket 2 = .ok (.iconst 0, 1) := by decide +kernel
theorem dX6_onMarket_3 : decode cX6_onMarket 3 = .ok (.istore_n 3, 1) := by decide +kernel
theorem dX6_onMarket_4 : decode cX6_onMarket 4 = .ok (.iload_n 3, 1) := by decide +kernel
theorem dX6_onMarket_5 : decode cX6_onMarket 5 = .ok (.aload_n 0, 1) := by decide +kernel
theorem dX6_onMarket_6 : decode cX6_onMarket 6 = .ok (.getfield 124, 3) := by decide +kernel
theorem dX6_onMarket_9 : decode cX6_onMarket 9 = .ok (.if_icmp .ge 41, 3) := by decide +kernel
theorem dX6_onMarket_12 : decode cX6_onMarket 12 = .ok (.iload_n 2, 1) := by decide +kernel
theorem dX6_onMarket_13 : decode cX6_onMarket 13 = .ok (.aload_n 0, 1) := by decide +kernel
theorem dX6_onMarket_14 : decode cX6_onMarket 14 = .ok (.getfield 77, 3) := by decide +kernel
theorem dX6_onMarket_17 : decode cX6_onMarket 17 = .ok (.iload_n 3, 1) := by decide +kernel
theorem dX6_onMarket_18 : decode cX6_onMarket 18 = .ok (.iaload, 1) := by decide +kernel
theorem dX6_onMarket_19 : decode cX6_onMarket 19 = .ok (.iload_n 1, 1) := by decide +kernel
theorem dX6_onMarket_20 : decode cX6_onMarket 20 = .ok (.if_icmp .ne 21, 3) := by decide +kernel
theorem dX6_onMarket_23 : decode cX6_onMarket 23 = .ok (.aload_n 0, 1) := by decide +kernel
theorem dX6_onMarket_24 : decode cX6_onMarket 24 = .ok (.getfield 92, 3) := by decide +kernel
theorem dX6_onMarket_27 : decode cX6_onMarket 27 = .ok (.iload_n 3, 1) := by decide +kernel
theorem dX6_onMarket_28 : decode cX6_onMarket 28 = .ok (.iaload, 1) := by decide +kernel
theorem dX6_onMarket_29 : decode cX6_onMarket 29 = .ok (.ifCond .ne 12, 3) := by decide +kernel
theorem dX6_onMarket_32 : decode cX6_onMarket 32 = .ok (.aload_n 0, 1) := by decide +kernel
theorem dX6_onMarket_33 : decode cX6_onMarket 33 = .ok (.getfield 80, 3) := by decide +kernel
theorem dX6_onMarket_36 : decode cX6_onMarket 36 = .ok (.iload_n 3, 1) := by decide +kernel
theorem dX6_onMarket_37 : decode cX6_onMarket 37 = .ok (.iaload, 1) := by decide +kernel
theorem dX6_onMarket_38 : decode cX6_onMarket 38 = .ok (.goto 4, 3) := by decide +kernel
theorem dX6_onMarket_41 : decode cX6_onMarket 41 = .ok (.iconst 0, 1) := by decide +kernel
theorem dX6_onMarket_42 : decode cX6_onMarket 42 = .ok (.iadd, 1) := by decide +kernel
theorem dX6_onMarket_43 : decode cX6_onMarket 43 = .ok (.istore_n 2, 1) := by decide +kernel
theorem dX6_onMarket_44 : decode cX6_onMarket 44 = .ok (.iinc 3 1, 3) := by decide +kernel
theorem dX6_onMarket_47 : decode cX6_onMarket 47 = .ok (.goto (-43), 3) := by decide +kernel
theorem dX6_onMarket_50 : decode cX6_onMarket 50 = .ok (.iload_n 2, 1) := by decide +kernel
theorem dX6_onMarket_51 : decode cX6_onMarket 51 = .ok (.ireturn, 1) := by decide +kernel
theorem dX6_productOf_0 : decode cX6_productOf 0 = .ok (.aload_n 0, 1) := by decide +kernel
theorem dX6_productOf_1 : decode cX6_productOf 1 = .ok (.aload_n 0, 1) := by decide +kernel
theorem dX6_productOf_2 : decode cX6_productOf 2 = .ok (.iload_n 1, 1) := by decide +kernel
theorem dX6_productOf_3 : decode cX6_productOf 3 = .ok (.invokevirtual 145, 3) := by decide +kernel
theorem dX6_productOf_6 : decode cX6_productOf 6 = .ok (.ifCond .ne 7, 3) := by decide +kernel
theorem dX6_productOf_9 : decode cX6_productOf 9 = .ok (.iconst 1, 1) := by decide +kernel
theorem dX6_productOf_10 : decode cX6_productOf 10 = .ok (.goto 18, 3) := by decide +kernel
theorem dX6_productOf_13 : decode cX6_productOf 13 = .ok (.iload_n 2, 1) := by decide +kernel
theorem dX6_productOf_14 : decode cX6_productOf 14 = .ok (.iconst 0, 1) := by decide +kernel
theorem dX6_productOf_15 : decode cX6_productOf 15 = .ok (.bipush 6, 2) := by decide +kernel
theorem dX6_productOf_17 : decode cX6_productOf 17 = .ok (.invokestatic 111, 3) := by decide +kernel
theorem dX6_productOf_20 : decode cX6_productOf 20 = .ok (.ifCond .ne 7, 3) := by decide +kernel
theorem dX6_productOf_23 : decode cX6_productOf 23 = .ok (.iconst 2, 1) := by decide +kernel
theorem dX6_productOf_24 : decode cX6_productOf 24 = .ok (.goto 4, 3) := by decide +kernel
theorem dX6_productOf_27 : decode cX6_productOf 27 = .ok (.iconst 0, 1) := by decide +kernel
theorem dX6_productOf_28 : decode cX6_productOf 28 = .ok (.invokevirtual 127, 3) := by decide +kernel
theorem dX6_productOf_31 : decode cX6_productOf 31 = .ok (.ifCond .eq 5, 3) := by decide +kernel
theorem dX6_productOf_34 : decode cX6_productOf 34 = .ok (.iconst 0, 1) := by decide +kernel
theorem dX6_productOf_35 : decode cX6_productOf 35 = .ok (.ireturn, 1) := by decide +kernel
theorem dX6_productOf_36 : decode cX6_productOf 36 = .ok (.iload_n 2, 1) := by decide +kernel
theorem dX6_productOf_37 : decode cX6_productOf 37 = .ok (.tableswitch 81 0 5 #[39, 46, 53, 60, 67, 74], 39) := by decide +kernel
theorem dX6_productOf_76 : decode cX6_productOf 76 = .ok (.aload_n 0, 1) := by decide +kernel
theorem dX6_productOf_77 : decode cX6_productOf 77 = .ok (.getfield 38, 3) := by decide +kernel
theorem dX6_productOf_80 : decode cX6_productOf 80 = .ok (.iload_n 1, 1) := by decide +kernel
theorem dX6_productOf_81 : decode cX6_productOf 81 = .ok (.iaload, 1) := by decide +kernel
theorem dX6_productOf_82 : decode cX6_productOf 82 = .ok (.ireturn, 1) := by decide +kernel
theorem dX6_productOf_83 : decode cX6_productOf 83 = .ok (.aload_n 0, 1) := by decide +kernel
theorem dX6_productOf_84 : decode cX6_productOf 84 = .ok (.getfield 41, 3) := by decide +kernel
theorem dX6_productOf_87 : decode cX6_productOf 87 = .ok (.iload_n 1, 1) := by decide +kernel
theorem dX6_productOf_88 : decode cX6_productOf 88 = .ok (.iaload, 1) := by decide +kernel
theorem dX6_productOf_89 : decode cX6_productOf 89 = .ok (.ireturn, 1) := by decide +kernel
theorem dX6_productOf_90 : decode cX6_productOf 90 = .ok (.aload_n 0, 1) := by decide +kernel
theorem dX6_productOf_91 : decode cX6_productOf 91 = .ok (.getfield 56, 3) := by decide +kernel
theorem dX6_productOf_94 : decode cX6_productOf 94 = .ok (.iload_n 1, 1) := by decide +kernel
theorem dX6_productOf_95 : decode cX6_productOf 95 = .ok (.iaload, 1) := by decide +kernel
theorem dX6_productOf_96 : decode cX6_productOf 96 = .ok (.ireturn, 1) := by decide +kernel
theorem dX6_productOf_97 : decode cX6_productOf 97 = .ok (.aload_n 0, 1) := by decide +kernel
theorem dX6_productOf_98 : decode cX6_productOf 98 = .ok (.getfield 59, 3) := by decide +kernel
theorem dX6_productOf_101 : decode cX6_productOf 101 = .ok (.iload_n 1, 1) := by decide +kernel
theorem dX6_productOf_102 : decode cX6_productOf 102 = .ok (.iaload, 1) := by decide +kernel
theorem dX6_productOf_103 : decode cX6_productOf 103 = .ok (.ireturn, 1) := by decide +kernel
theorem dX6_productOf_104 : decode cX6_productOf 104 = .ok (.aload_n 0, 1) := by decide +kernel
theorem dX6_productOf_105 : decode cX6_productOf 105 = .ok (.getfield 62, 3) := by decide +kernel
theorem dX6_productOf_108 : decode cX6_productOf 108 = .ok (.iload_n 1, 1) := by decide +kernel
theorem dX6_productOf_109 : decode cX6_productOf 109 = .ok (.iaload, 1) := by decide +kernel
theorem dX6_productOf_110 : decode cX6_productOf 110 = .ok (.ireturn, 1) := by decide +kernel
theorem dX6_productOf_111 : decode cX6_productOf 111 = .ok (.aload_n 0, 1) := by decide +kernel
theorem dX6_productOf_112 : decode cX6_productOf 112 = .ok (.getfield 65, 3) := by decide +kernel
theorem dX6_productOf_115 : decode cX6_productOf 115 = .ok (.iload_n 1, 1) := by decide +kernel
theorem dX6_productOf_116 : decode cX6_productOf 116 = .ok (.iaload, 1) := by decide +kernel
theorem dX6_productOf_117 : decode cX6_productOf 117 = .ok (.ireturn, 1) := by decide +kernel
theorem dX6_productOf_118 : decode cX6_productOf 118 = .ok (.aload_n 0, 1) := by decide +kernel
theorem dX6_productOf_119 : decode cX6_productOf 119 = .ok (.iload_n 1, 1) := by decide +kernel
theorem dX6_productOf_120 : decode cX6_productOf 120 = .ok (.invokevirtual 203, 3) := by decide +kernel
theorem dX6_productOf_123 : decode cX6_productOf 123 = .ok (.ireturn, 1) := by decide +kernel
theorem dX6_riskOf_0 : decode cX6_riskOf 0 = .ok (.aload_n 0, 1) := by decide +kernel
theorem dX6_riskOf_1 : decode cX6_riskOf 1 = .ok (.aload_n 0, 1) := by decide +kernel
theorem dX6_riskOf_2 : decode cX6_riskOf 2 = .ok (.iload_n 1, 1) := by decide +kernel
theorem dX6_riskOf_3 : decode cX6_riskOf 3 = .ok (.invokevirtual 145, 3) := by decide +kernel
theorem dX6_riskOf_6 : decode cX6_riskOf 6 = .ok (.ifCond .eq 17, 3) := by decide +kernel
theorem dX6_riskOf_9 : decode cX6_riskOf 9 = .ok (.iload_n 2, 1) := by decide +kernel
theorem dX6_riskOf_10 : decode cX6_riskOf 10 = .ok (.iconst 0, 1) := by decide +kernel
theorem dX6_riskOf_11 : decode cX6_riskOf 11 = .ok (.bipush 7, 2) := by decide +kernel
theorem dX6_riskOf_13 : decode cX6_riskOf 13 = .ok (.invokestatic 111, 3) := by decide +kernel
theorem dX6_riskOf_16 : decode cX6_riskOf 16 = .ok (.ifCond .eq 7, 3) := by decide +kernel
theorem dX6_riskOf_19 : decode cX6_riskOf 19 = .ok (.iconst 0, 1) := by decide +kernel
theorem dX6_riskOf_20 : decode cX6_riskOf 20 = .ok (.goto 4, 3) := by decide +kernel
theorem dX6_riskOf_23 : decode cX6_riskOf 23 = .ok (.iconst 1, 1) := by decide +kernel
theorem dX6_riskOf_24 : decode cX6_riskOf 24 = .ok (.invokevirtual 127, 3) := by decide +kernel
theorem dX6_riskOf_27 : decode cX6_riskOf 27 = .ok (.ifCond .eq 5, 3) := by decide +kernel
theorem dX6_riskOf_30 : decode cX6_riskOf 30 = .ok (.iconst 0, 1) := by decide +kernel
theorem dX6_riskOf_31 : decode cX6_riskOf 31 = .ok (.ireturn, 1) := by decide +kernel
theorem dX6_riskOf_32 : decode cX6_riskOf 32 = .ok (.iload_n 3, 1) := by decide +kernel
theorem dX6_riskOf_33 : decode cX6_riskOf 33 = .ok (.ifCond .eq 17, 3) := by decide +kernel
theorem dX6_riskOf_36 : decode cX6_riskOf 36 = .ok (.aload_n 0, 1) := by decide +kernel
theorem dX6_riskOf_37 : decode cX6_riskOf 37 = .ok (.getfield 47, 3) := by decide +kernel
theorem dX6_riskOf_40 : decode cX6_riskOf 40 = .ok (.bipush 8, 2) := by decide +kernel
theorem dX6_riskOf_42 : decode cX6_riskOf 42 = .ok (.iload_n 1, 1) := by decide +kernel
theorem dX6_riskOf_43 : decode cX6_riskOf 43 = .ok (.imul, 1) := by decide +kernel
theorem dX6_riskOf_44 : decode cX6_riskOf 44 = .ok (.iload_n 2, 1) := by decide +kernel
theorem dX6_riskOf_45 : decode cX6_riskOf 45 = .ok (.iadd, 1) := by decide +kernel
theorem dX6_riskOf_46 : decode cX6_riskOf 46 = .ok (.iaload, 1) := by decide +kernel
theorem dX6_riskOf_47 : decode cX6_riskOf 47 = .ok (.goto 14, 3) := by decide +kernel
theorem dX6_riskOf_50 : decode cX6_riskOf 50 = .ok (.aload_n 0, 1) := by decide +kernel
theorem dX6_riskOf_51 : decode cX6_riskOf 51 = .ok (.getfield 44, 3) := by decide +kernel
theorem dX6_riskOf_54 : decode cX6_riskOf 54 = .ok (.bipush 8, 2) := by decide +kernel
theorem dX6_riskOf_56 : decode cX6_riskOf 56 = .ok (.iload_n 1, 1) := by decide +kernel
theorem dX6_riskOf_57 : decode cX6_riskOf 57 = .ok (.imul, 1) := by decide +kernel
theorem dX6_riskOf_58 : decode cX6_riskOf 58 = .ok (.iload_n 2, 1) := by decide +kernel
theorem dX6_riskOf_59 : decode cX6_riskOf 59 = .ok (.iadd, 1) := by decide +kernel
theorem dX6_riskOf_60 : decode cX6_riskOf 60 = .ok (.iaload, 1) := by decide +kernel
theorem dX6_riskOf_61 : decode cX6_riskOf 61 = .ok (.ireturn, 1) := by decide +kernel
theorem dX6_batchOf_0 : decode cX6_batchOf 0 = .ok (.aload_n 0, 1) := by decide +kernel
theorem dX6_batchOf_1 : decode cX6_batchOf 1 = .ok (.aload_n 0, 1) := by decide +kernel
theorem dX6_batchOf_2 : decode cX6_batchOf 2 = .ok (.iload_n 1, 1) := by decide +kernel
theorem dX6_batchOf_3 : decode cX6_batchOf 3 = .ok (.invokevirtual 197, 3) := by decide +kernel
theorem dX6_batchOf_6 : decode cX6_batchOf 6 = .ok (.ifCond .ne 7, 3) := by decide +kernel
theorem dX6_batchOf_9 : decode cX6_batchOf 9 = .ok (.iconst 1, 1) := by decide +kernel
theorem dX6_batchOf_10 : decode cX6_batchOf 10 = .ok (.goto 18, 3) := by decide +kernel
theorem dX6_batchOf_13 : decode cX6_batchOf 13 = .ok (.iload_n 2, 1) := by decide +kernel
theorem dX6_batchOf_14 : decode cX6_batchOf 14 = .ok (.iconst 0, 1) := by decide +kernel
theorem dX6_batchOf_15 : decode cX6_batchOf 15 = .ok (.bipush 8, 2) := by decide +kernel
theorem dX6_batchOf_17 : decode cX6_batchOf 17 = .ok (.invokestatic 111, 3) := by decide +kernel
theorem dX6_batchOf_20 : decode cX6_batchOf 20 = .ok (.ifCond .ne 7, 3) := by decide +kernel
theorem dX6_batchOf_23 : decode cX6_batchOf 23 = .ok (.iconst 2, 1) := by decide +kernel
theorem dX6_batchOf_24 : decode cX6_batchOf 24 = .ok (.goto 4, 3) := by decide +kernel
theorem dX6_batchOf_27 : decode cX6_batchOf 27 = .ok (.iconst 0, 1) := by decide +kernel
theorem dX6_batchOf_28 : decode cX6_batchOf 28 = .ok (.invokevirtual 127, 3) := by decide +kernel
theorem dX6_batchOf_31 : decode cX6_batchOf 31 = .ok (.ifCond .eq 5, 3) := by decide +kernel
theorem dX6_batchOf_34 : decode cX6_batchOf 34 = .ok (.iconst 0, 1) := by decide +kernel
theorem dX6_batchOf_35 : decode cX6_batchOf 35 = .ok (.ireturn, 1) := by decide +kernel
theorem dX6_batchOf_36 : decode cX6_batchOf 36 = .ok (.iload_n 2, 1) := by decide +kernel
theorem dX6_batchOf_37 : decode cX6_batchOf 37 = .ok (.tableswitch 102 0 7 #[47, 54, 61, 68, 75, 82, 89, 96], 47) := by decide +kernel
theorem dX6_batchOf_84 : decode cX6_batchOf 84 = .ok (.aload_n 0, 1) := by decide +kernel
theorem dX6_batchOf_85 : decode cX6_batchOf 85 = .ok (.getfield 77, 3) := by decide +kernel
theorem dX6_batchOf_88 : decode cX6_batchOf 88 = .ok (.iload_n 1, 1) := by decide +kernel
theorem dX6_batchOf_89 : decode cX6_batchOf 89 = .ok (.iaload, 1) := by decide +kernel
theorem dX6_batchOf_90 : decode cX6_batchOf 90 = .ok (.ireturn, 1) := by decide +kernel
theorem dX6_batchOf_91 : decode cX6_batchOf 91 = .ok (.aload_n 0, 1) := by decide +kernel
theorem dX6_batchOf_92 : decode cX6_batchOf 92 = .ok (.getfield 80, 3) := by decide +kernel
theorem dX6_batchOf_95 : decode cX6_batchOf 95 = .ok (.iload_n 1, 1) := by decide +kernel
theorem dX6_batchOf_96 : decode cX6_batchOf 96 = .ok (.iaload, 1) := by decide +kernel
theorem dX6_batchOf_97 : decode cX6_batchOf 97 = .ok (.ireturn, 1) := by decide +kernel
theorem dX6_batchOf_98 : decode cX6_batchOf 98 = .ok (.aload_n 0, 1) := by decide +kernel
theorem dX6_batchOf_99 : decode cX6_batchOf 99 = .ok (.getfield 83, 3) := by decide +kernel
theorem dX6_batchOf_102 : decode cX6_batchOf 102 = .ok (.iload_n 1, 1) := by decide +kernel
theorem dX6_batchOf_103 : decode cX6_batchOf 103 = .ok (.iaload, 1) := by decide +kernel
theorem dX6_batchOf_104 : decode cX6_batchOf 104 = .ok (.ireturn, 1) := by decide +kernel
theorem dX6_batchOf_105 : decode cX6_batchOf 105 = .ok (.aload_n 0, 1) := by decide +kernel
theorem dX6_batchOf_106 : decode cX6_batchOf 106 = .ok (.getfield 86, 3) := by decide +kernel
theorem dX6_batchOf_109 : decode cX6_batchOf 109 = .ok (.iload_n 1, 1) := by decide +kernel
theorem dX6_batchOf_110 : decode cX6_batchOf 110 = .ok (.iaload, 1) := by decide +kernel
theorem dX6_batchOf_111 : decode cX6_batchOf 111 = .ok (.ireturn, 1) := by decide +kernel
theorem dX6_batchOf_112 : decode cX6_batchOf 112 = .ok (.aload_n 0, 1) := by decide +kernel
theorem dX6_batchOf_113 : decode cX6_batchOf 113 = .ok (.getfield 89, 3) := by decide +kernel
theorem dX6_batchOf_116 : decode cX6_batchOf 116 = .ok (.iload_n 1, 1) := by decide +kernel
theorem dX6_batchOf_117 : decode cX6_batchOf 117 = .ok (.iaload, 1) := by decide +kernel
theorem dX6_batchOf_118 : decode cX6_batchOf 118 = .ok (.ireturn, 1) := by decide +kernel
theorem dX6_batchOf_119 : decode cX6_batchOf 119 = .ok (.aload_n 0, 1) := by decide +kernel
theorem dX6_batchOf_120 : decode cX6_batchOf 120 = .ok (.getfield 92, 3) := by decide +kernel
theorem dX6_batchOf_123 : decode cX6_batchOf 123 = .ok (.iload_n 1, 1) := by decide +kernel
theorem dX6_batchOf_124 : decode cX6_batchOf 124 = .ok (.iaload, 1) := by decide +kernel
theorem dX6_batchOf_125 : decode cX6_batchOf 125 = .ok (.ireturn, 1) := by decide +kernel
theorem dX6_batchOf_126 : decode cX6_batchOf 126 = .ok (.aload_n 0, 1) := by decide +kernel
theorem dX6_batchOf_127 : decode cX6_batchOf 127 = .ok (.getfield 95, 3) := by decide +kernel
theorem dX6_batchOf_130 : decode cX6_batchOf 130 = .ok (.iload_n 1, 1) := by decide +kernel
theorem dX6_batchOf_131 : decode cX6_batchOf 131 = .ok (.iaload, 1) := by decide +kernel
theorem dX6_batchOf_132 : decode cX6_batchOf 132 = .ok (.ireturn, 1) := by decide +kernel
theorem dX6_batchOf_133 : decode cX6_batchOf 133 = .ok (.aload_n 0, 1) := by decide +kernel
theorem dX6_batchOf_134 : decode cX6_batchOf 134 = .ok (.iload_n 1, 1) := by decide +kernel
theorem dX6_batchOf_135 : decode cX6_batchOf 135 = .ok (.invokevirtual 200, 3) := by decide +kernel
theorem dX6_batchOf_138 : decode cX6_batchOf 138 = .ok (.ireturn, 1) := by decide +kernel
theorem dX6_batchOf_139 : decode cX6_batchOf 139 = .ok (.aload_n 0, 1) := by decide +kernel
theorem dX6_batchOf_140 : decode cX6_batchOf 140 = .ok (.getfield 101, 3) := by decide +kernel
theorem dX6_batchOf_143 : decode cX6_batchOf 143 = .ok (.iload_n 1, 1) := by decide +kernel
theorem dX6_batchOf_144 : decode cX6_batchOf 144 = .ok (.iaload, 1) := by decide +kernel
theorem dX6_batchOf_145 : decode cX6_batchOf 145 = .ok (.ireturn, 1) := by decide +kernel
theorem dX6_wantingAnew_0 : decode cX6_wantingAnew 0 = .ok (.aload_n 0, 1) := by decide +kernel
theorem dX6_wantingAnew_1 : decode cX6_wantingAnew 1 = .ok (.aload_n 0, 1) := by decide +kernel
theorem dX6_wantingAnew_2 : decode cX6_wantingAnew 2 = .ok (.iload_n 1, 1) := by decide +kernel
theorem dX6_wantingAnew_3 : decode cX6_wantingAnew 3 = .ok (.invokevirtual 197, 3) := by decide +kernel
theorem dX6_wantingAnew_6 : decode cX6_wantingAnew 6 = .ok (.ifCond .eq 7, 3) := by decide +kernel
theorem dX6_wantingAnew_9 : decode cX6_wantingAnew 9 = .ok (.iconst 0, 1) := by decide +kernel
theorem dX6_wantingAnew_10 : decode cX6_wantingAnew 10 = .ok (.goto 4, 3) := by decide +kernel
theorem dX6_wantingAnew_13 : decode cX6_wantingAnew 13 = .ok (.iconst 1, 1) := by decide +kernel
theorem dX6_wantingAnew_14 : decode cX6_wantingAnew 14 = .ok (.invokevirtual 127, 3) := by decide +kernel
theorem dX6_wantingAnew_17 : decode cX6_wantingAnew 17 = .ok (.ifCond .eq 7, 3) := by decide +kernel
theorem dX6_wantingAnew_20 : decode cX6_wantingAnew 20 = .ok (.iconst 0, 1) := by decide +kernel
theorem dX6_wantingAnew_21 : decode cX6_wantingAnew 21 = .ok (.goto 9, 3) := by decide +kernel
theorem dX6_wantingAnew_24 : decode cX6_wantingAnew 24 = .ok (.aload_n 0, 1) := by decide +kernel
theorem dX6_wantingAnew_25 : decode cX6_wantingAnew 25 = .ok (.getfield 89, 3) := by decide +kernel
theorem dX6_wantingAnew_28 : decode cX6_wantingAnew 28 = .ok (.iload_n 1, 1) := by decide +kernel
theorem dX6_wantingAnew_29 : decode cX6_wantingAnew 29 = .ok (.iaload, 1) := by decide +kernel
theorem dX6_wantingAnew_30 : decode cX6_wantingAnew 30 = .ok (.ireturn, 1) := by decide +kernel
abbrev vwCl : List vw_C := [(RX0, TX0, 5), (RX1, TX1, 9), (RX2, TX2, 3), (RX3, TX3, 11), (RX4, TX4, 3), (RX5, TX5, 11), (RX6, TX6, 38)]

