def RX0 : String := "Genericwood$Forced"
def TX0 : u_T := fun k => match k with
  | 0 => ("Genericwood$Way", "order", "LGenericwood$Order;", true)
  | 1 => ("Genericwood$Way", "names", "LGenericwood$Names;", true)
  | 2 => ("Genericwood$Way", "formulas", "LGenericwood$Formulas;", true)
  | 3 => ("Genericwood$Way", "likes", "[I", true)
  | 4 => ("Genericwood$Way", "insides", "[I", true)
  | 5 => ("Genericwood$Way", "letters", "[I", true)
  | _ => ("Genericwood$Way", "seen", "I", false)
def tyX0 : Nat → FieldType := fun k => match k with
  | 0 => .object "Genericwood$Order"
  | 1 => .object "Genericwood$Names"
  | 2 => .object "Genericwood$Formulas"
  | 3 => .array .int
  | 4 => .array .int
  | 5 => .array .int
  | _ => .int
abbrev wsX00 : List Cond := u_ws RX0 TX0 7
theorem nmX0 : ∀ a, a < 7 → ∀ b, b < 7 → a ≠ b → (TX0 a).2.1 ≠ (TX0 b).2.1 := by decide +kernel
theorem tyX0_ok : ∀ k, k < 7 → parseFieldDescriptor (TX0 k).2.2.1 = some (tyX0 k) := by decide +kernel
abbrev cX0_init : ByteArray := prog_2_method_1_code
def yX0_init : MethodName := ⟨RX0, "<init>", "(LGenericwood$Order;LGenericwood$Names;LGenericwood$Formulas;)V"⟩
abbrev cX0_settled : ByteArray := prog_2_method_2_code
def yX0_settled : MethodName := ⟨RX0, "settled", "(I)I"⟩
def RX1 : String := "Genericwood$Formulas"
def TX1 : u_T := fun k => match k with
  | 0 => ("Genericwood$Formulas", "count", "I", false)
  | 1 => ("Genericwood$Formulas", "kinds", "[I", true)
  | 2 => ("Genericwood$Formulas", "firsts", "[I", true)
  | 3 => ("Genericwood$Formulas", "seconds", "[I", true)
  | 4 => ("Genericwood$Formulas", "letters", "[I", true)
  | 5 => ("Genericwood$Formulas", "depths", "[I", true)
  | _ => ("Genericwood$Formulas", "opens", "[I", true)
def tyX1 : Nat → FieldType := fun k => match k with
  | 0 => .int
  | 1 => .array .int
  | 2 => .array .int
  | 3 => .array .int
  | 4 => .array .int
  | 5 => .array .int
  | _ => .array .int
abbrev wsX10 : List Cond := u_ws RX1 TX1 7
theorem nmX1 : ∀ a, a < 7 → ∀ b, b < 7 → a ≠ b → (TX1 a).2.1 ≠ (TX1 b).2.1 := by decide +kernel
theorem tyX1_ok : ∀ k, k < 7 → parseFieldDescriptor (TX1 k).2.2.1 = some (tyX1 k) := by decide +kernel
abbrev cX1_init : ByteArray := prog_3_method_1_code
def yX1_init : MethodName := ⟨RX1, "<init>", "()V"⟩
abbrev cX1_size : ByteArray := prog_3_method_2_code
def yX1_size : MethodName := ⟨RX1, "size", "()I"⟩
abbrev cX1_knows : ByteArray := prog_3_method_3_code
def yX1_knows : MethodName := ⟨RX1, "knows", "(I)Z"⟩
abbrev cX1_add : ByteArray := prog_3_method_4_code
def yX1_add : MethodName := ⟨RX1, "add", "(IIIIII)I"⟩
abbrev cX1_removeAll : ByteArray := prog_3_method_5_code
def yX1_removeAll : MethodName := ⟨RX1, "removeAll", "()I"⟩
abbrev cX1_kind : ByteArray := prog_3_method_6_code
def yX1_kind : MethodName := ⟨RX1, "kind", "(I)I"⟩
abbrev cX1_first : ByteArray := prog_3_method_7_code
def yX1_first : MethodName := ⟨RX1, "first", "(I)I"⟩
abbrev cX1_second : ByteArray := prog_3_method_8_code
def yX1_second : MethodName := ⟨RX1, "second", "(I)I"⟩
abbrev cX1_letter : ByteArray := prog_3_method_9_code
def yX1_letter : MethodName := ⟨RX1, "letter", "(I)I"⟩
abbrev cX1_depth : ByteArray := prog_3_method_10_code
def yX1_depth : MethodName := ⟨RX1, "depth", "(I)I"⟩
abbrev cX1_open : ByteArray := prog_3_method_11_code
def yX1_open : MethodName := ⟨RX1, "open", "(I)I"⟩
def RX2 : String := "Genericwood$Names"
def TX2 : u_T := fun k => match k with
  | 0 => ("Genericwood$Names", "order", "LGenericwood$Order;", true)
  | 1 => ("Genericwood$Names", "count", "I", false)
  | 2 => ("Genericwood$Names", "changes", "I", false)
  | 3 => ("Genericwood$Names", "sizes", "[I", true)
  | 4 => ("Genericwood$Names", "pairs", "[I", true)
  | 5 => ("Genericwood$Names", "heights", "[I", true)
  | 6 => ("Genericwood$Names", "trial", "[I", true)
  | 7 => ("Genericwood$Names", "drafted", "[I", true)
  | _ => ("Genericwood$Names", "standards", "[I", true)
def tyX2 : Nat → FieldType := fun k => match k with
  | 0 => .object "Genericwood$Order"
  | 1 => .int
  | 2 => .int
  | 3 => .array .int
  | 4 => .array .int
  | 5 => .array .int
  | 6 => .array .int
  | 7 => .array .int
  | _ => .array .int
abbrev wsX20 : List Cond := u_ws RX2 TX2 9
theorem nmX2 : ∀ a, a < 9 → ∀ b, b < 9 → a ≠ b → (TX2 a).2.1 ≠ (TX2 b).2.1 := by decide +kernel
theorem tyX2_ok : ∀ k, k < 9 → parseFieldDescriptor (TX2 k).2.2.1 = some (tyX2 k) := by decide +kernel
abbrev cX2_init : ByteArray := prog_4_method_1_code
def yX2_init : MethodName := ⟨RX2, "<init>", "(LGenericwood$Order;)V"⟩
abbrev cX2_size : ByteArray := prog_4_method_2_code
def yX2_size : MethodName := ⟨RX2, "size", "()I"⟩
abbrev cX2_changes : ByteArray := prog_4_method_3_code
def yX2_changes : MethodName := ⟨RX2, "changes", "()I"⟩
abbrev cX2_knows : ByteArray := prog_4_method_4_code
def yX2_knows : MethodName := ⟨RX2, "knows", "(I)Z"⟩
abbrev cX2_pairsOf : ByteArray := prog_4_method_5_code
def yX2_pairsOf : MethodName := ⟨RX2, "pairsOf", "(I)I"⟩
abbrev cX2_lower : ByteArray := prog_4_method_6_code
def yX2_lower : MethodName := ⟨RX2, "lower", "(II)I"⟩
abbrev cX2_promise : ByteArray := prog_4_method_7_code
def yX2_promise : MethodName := ⟨RX2, "promise", "(II)I"⟩
abbrev cX2_height : ByteArray := prog_4_method_8_code
def yX2_height : MethodName := ⟨RX2, "height", "(I)I"⟩
abbrev cX2_hasPair : ByteArray := prog_4_method_9_code
def yX2_hasPair : MethodName := ⟨RX2, "hasPair", "(III)Z"⟩
abbrev cX2_add : ByteArray := prog_4_method_10_code
def yX2_add : MethodName := ⟨RX2, "add", "()I"⟩
abbrev cX2_addPair : ByteArray := prog_4_method_11_code
def yX2_addPair : MethodName := ⟨RX2, "addPair", "(III)V"⟩
abbrev cX2_dropPair : ByteArray := prog_4_method_12_code
def yX2_dropPair : MethodName := ⟨RX2, "dropPair", "(I)V"⟩
abbrev cX2_changed : ByteArray := prog_4_method_13_code
def yX2_changed : MethodName := ⟨RX2, "changed", "()V"⟩
abbrev cX2_rankAll : ByteArray := prog_4_method_14_code
def yX2_rankAll : MethodName := ⟨RX2, "rankAll", "([III)V"⟩
abbrev cX2_wouldRiseTooHigh : ByteArray := prog_4_method_15_code
def yX2_wouldRiseTooHigh : MethodName := ⟨RX2, "wouldRiseTooHigh", "(II)Z"⟩
abbrev cX2_standardOf : ByteArray := prog_4_method_16_code
def yX2_standardOf : MethodName := ⟨RX2, "standardOf", "(I)I"⟩
abbrev cX2_isStandard : ByteArray := prog_4_method_17_code
def yX2_isStandard : MethodName := ⟨RX2, "isStandard", "(I)Z"⟩
abbrev cX2_missingFor : ByteArray := prog_4_method_18_code
def yX2_missingFor : MethodName := ⟨RX2, "missingFor", "(I)I"⟩
abbrev cX2_addStandard : ByteArray := prog_4_method_19_code
def yX2_addStandard : MethodName := ⟨RX2, "addStandard", "(I)V"⟩
abbrev cX2_draft : ByteArray := prog_4_method_20_code
def yX2_draft : MethodName := ⟨RX2, "draft", "(IIII)I"⟩
abbrev cX2_draftPart : ByteArray := prog_4_method_21_code
def yX2_draftPart : MethodName := ⟨RX2, "draftPart", "(III)I"⟩
abbrev cX2_isDrafted : ByteArray := prog_4_method_22_code
def yX2_isDrafted : MethodName := ⟨RX2, "isDrafted", "(II)Z"⟩
abbrev cX2_addDraft : ByteArray := prog_4_method_23_code
def yX2_addDraft : MethodName := ⟨RX2, "addDraft", "(I)I"⟩
def RX3 : String := "Genericwood$Order"
def TX3 : u_T := fun k => match k with
  | 0 => ("Genericwood$Order", "count", "I", false)
  | 1 => ("Genericwood$Order", "changes", "I", false)
  | 2 => ("Genericwood$Order", "ends", "I", false)
  | 3 => ("Genericwood$Order", "downs", "[I", true)
  | _ => ("Genericwood$Order", "images", "[I", true)
def tyX3 : Nat → FieldType := fun k => match k with
  | 0 => .int
  | 1 => .int
  | 2 => .int
  | 3 => .array .int
  | _ => .array .int
abbrev wsX30 : List Cond := u_ws RX3 TX3 5
theorem nmX3 : ∀ a, a < 5 → ∀ b, b < 5 → a ≠ b → (TX3 a).2.1 ≠ (TX3 b).2.1 := by decide +kernel
theorem tyX3_ok : ∀ k, k < 5 → parseFieldDescriptor (TX3 k).2.2.1 = some (tyX3 k) := by decide +kernel
abbrev cX3_init : ByteArray := prog_5_method_1_code
def yX3_init : MethodName := ⟨RX3, "<init>", "()V"⟩
abbrev cX3_size : ByteArray := prog_5_method_2_code
def yX3_size : MethodName := ⟨RX3, "size", "()I"⟩
abbrev cX3_changes : ByteArray := prog_5_method_3_code
def yX3_changes : MethodName := ⟨RX3, "changes", "()I"⟩
abbrev cX3_knows : ByteArray := prog_5_method_4_code
def yX3_knows : MethodName := ⟨RX3, "knows", "(I)Z"⟩
abbrev cX3_all : ByteArray := prog_5_method_5_code
def yX3_all : MethodName := ⟨RX3, "all", "()I"⟩
abbrev cX3_add : ByteArray := prog_5_method_6_code
def yX3_add : MethodName := ⟨RX3, "add", "()I"⟩
abbrev cX3_down : ByteArray := prog_5_method_7_code
def yX3_down : MethodName := ⟨RX3, "down", "(I)I"⟩
abbrev cX3_up : ByteArray := prog_5_method_8_code
def yX3_up : MethodName := ⟨RX3, "up", "(I)I"⟩
abbrev cX3_stands : ByteArray := prog_5_method_9_code
def yX3_stands : MethodName := ⟨RX3, "stands", "(II)Z"⟩
abbrev cX3_agree : ByteArray := prog_5_method_10_code
def yX3_agree : MethodName := ⟨RX3, "agree", "(II)Z"⟩
abbrev cX3_place : ByteArray := prog_5_method_11_code
def yX3_place : MethodName := ⟨RX3, "place", "(II)V"⟩
abbrev cX3_pairsBelow : ByteArray := prog_5_method_12_code
def yX3_pairsBelow : MethodName := ⟨RX3, "pairsBelow", "()I"⟩
abbrev cX3_ends : ByteArray := prog_5_method_13_code
def yX3_ends : MethodName := ⟨RX3, "ends", "()I"⟩
abbrev cX3_endsOf : ByteArray := prog_5_method_14_code
def yX3_endsOf : MethodName := ⟨RX3, "endsOf", "(I)I"⟩
abbrev cX3_avoiding : ByteArray := prog_5_method_15_code
def yX3_avoiding : MethodName := ⟨RX3, "avoiding", "(I)I"⟩
abbrev cX3_image : ByteArray := prog_5_method_16_code
def yX3_image : MethodName := ⟨RX3, "image", "(I)I"⟩
abbrev cX3_exchange : ByteArray := prog_5_method_17_code
def yX3_exchange : MethodName := ⟨RX3, "exchange", "(II)V"⟩
abbrev cX3_isKept : ByteArray := prog_5_method_18_code
def yX3_isKept : MethodName := ⟨RX3, "isKept", "()Z"⟩
def RX4 : String := "Genericwood$Valued"
def TX4 : u_T := fun k => match k with
  | 0 => ("Genericwood$Way", "order", "LGenericwood$Order;", true)
  | 1 => ("Genericwood$Way", "names", "LGenericwood$Names;", true)
  | 2 => ("Genericwood$Way", "formulas", "LGenericwood$Formulas;", true)
  | 3 => ("Genericwood$Way", "likes", "[I", true)
  | 4 => ("Genericwood$Way", "insides", "[I", true)
  | 5 => ("Genericwood$Way", "letters", "[I", true)
  | _ => ("Genericwood$Way", "seen", "I", false)
def tyX4 : Nat → FieldType := fun k => match k with
  | 0 => .object "Genericwood$Order"
  | 1 => .object "Genericwood$Names"
  | 2 => .object "Genericwood$Formulas"
  | 3 => .array .int
  | 4 => .array .int
  | 5 => .array .int
  | _ => .int
abbrev wsX40 : List Cond := u_ws RX4 TX4 7
theorem nmX4 : ∀ a, a < 7 → ∀ b, b < 7 → a ≠ b → (TX4 a).2.1 ≠ (TX4 b).2.1 := by decide +kernel
theorem tyX4_ok : ∀ k, k < 7 → parseFieldDescriptor (TX4 k).2.2.1 = some (tyX4 k) := by decide +kernel
abbrev cX4_init : ByteArray := prog_6_method_1_code
def yX4_init : MethodName := ⟨RX4, "<init>", "(LGenericwood$Order;LGenericwood$Names;LGenericwood$Formulas;)V"⟩
abbrev cX4_whole : ByteArray := prog_6_method_2_code
def yX4_whole : MethodName := ⟨RX4, "whole", "()I"⟩
abbrev cX4_denied : ByteArray := prog_6_method_3_code
def yX4_denied : MethodName := ⟨RX4, "denied", "(I)I"⟩
abbrev cX4_along : ByteArray := prog_6_method_4_code
def yX4_along : MethodName := ⟨RX4, "along", "(II)I"⟩
abbrev cX4_unless : ByteArray := prog_6_method_5_code
def yX4_unless : MethodName := ⟨RX4, "unless", "(II)I"⟩
abbrev cX4_settled : ByteArray := prog_6_method_6_code
def yX4_settled : MethodName := ⟨RX4, "settled", "(I)I"⟩
def RX5 : String := "Genericwood$Way"
def TX5 : u_T := fun k => match k with
  | _ => ("", "", "", false)
def tyX5 : Nat → FieldType := fun k => match k with
  | _ => .int
abbrev wsX50 : List Cond := u_ws RX5 TX5 0
theorem nmX5 : ∀ a, a < 0 → ∀ b, b < 0 → a ≠ b → (TX5 a).2.1 ≠ (TX5 b).2.1 := by decide +kernel
theorem tyX5_ok : ∀ k, k < 0 → parseFieldDescriptor (TX5 k).2.2.1 = some (tyX5 k) := by decide +kernel
abbrev cX5_init : ByteArray := prog_7_method_1_code
def yX5_init : MethodName := ⟨RX5, "<init>", "(LGenericwood$Order;LGenericwood$Names;LGenericwood$Formulas;)V"⟩
abbrev cX5_alike : ByteArray := prog_7_method_7_code
def yX5_alike : MethodName := ⟨RX5, "alike", "(II)I"⟩
abbrev cX5_inside : ByteArray := prog_7_method_8_code
def yX5_inside : MethodName := ⟨RX5, "inside", "(II)I"⟩
abbrev cX5_judge : ByteArray := prog_7_method_9_code
def yX5_judge : MethodName := ⟨RX5, "judge", "(I)I"⟩
abbrev cX5_judged : ByteArray := prog_7_method_10_code
def yX5_judged : MethodName := ⟨RX5, "judged", "(II)I"⟩
abbrev cX5_judgedBound : ByteArray := prog_7_method_11_code
def yX5_judgedBound : MethodName := ⟨RX5, "judgedBound", "(II)I"⟩
abbrev cX5_named : ByteArray := prog_7_method_12_code
def yX5_named : MethodName := ⟨RX5, "named", "(I)I"⟩
abbrev cX5_refresh : ByteArray := prog_7_method_13_code
def yX5_refresh : MethodName := ⟨RX5, "refresh", "()V"⟩
abbrev cX5_partly : ByteArray := prog_7_method_14_code
def yX5_partly : MethodName := ⟨RX5, "partly", "(II)I"⟩
abbrev cX5_contained : ByteArray := prog_7_method_15_code
def yX5_contained : MethodName := ⟨RX5, "contained", "(II)I"⟩
def RX6 : String := "Genericwood$Weak"
def TX6 : u_T := fun k => match k with
  | 0 => ("Genericwood$Way", "order", "LGenericwood$Order;", true)
  | 1 => ("Genericwood$Way", "names", "LGenericwood$Names;", true)
  | 2 => ("Genericwood$Way", "formulas", "LGenericwood$Formulas;", true)
  | 3 => ("Genericwood$Way", "likes", "[I", true)
  | 4 => ("Genericwood$Way", "insides", "[I", true)
  | 5 => ("Genericwood$Way", "letters", "[I", true)
  | _ => ("Genericwood$Way", "seen", "I", false)
def tyX6 : Nat → FieldType := fun k => match k with
  | 0 => .object "Genericwood$Order"
  | 1 => .object "Genericwood$Names"
  | 2 => .object "Genericwood$Formulas"
  | 3 => .array .int
  | 4 => .array .int
  | 5 => .array .int
  | _ => .int
abbrev wsX60 : List Cond := u_ws RX6 TX6 7
theorem nmX6 : ∀ a, a < 7 → ∀ b, b < 7 → a ≠ b → (TX6 a).2.1 ≠ (TX6 b).2.1 := by decide +kernel
theorem tyX6_ok : ∀ k, k < 7 → parseFieldDescriptor (TX6 k).2.2.1 = some (tyX6 k) := by decide +kernel
abbrev cX6_init : ByteArray := prog_8_method_1_code
def yX6_init : MethodName := ⟨RX6, "<init>", "(LGenericwood$Order;LGenericwood$Names;LGenericwood$Formulas;)V"⟩
abbrev cX6_whole : ByteArray := prog_8_method_2_code
def yX6_whole : MethodName := ⟨RX6, "whole", "()I"⟩
abbrev cX6_denied : ByteArray := prog_8_method_3_code
def yX6_denied : MethodName := ⟨RX6, "denied", "(I)I"⟩
abbrev cX6_along : ByteArray := prog_8_method_4_code
def yX6_along : MethodName := ⟨RX6, "along", "(II)I"⟩
abbrev cX6_unless : ByteArray := prog_8_method_5_code
def yX6_unless : MethodName := ⟨RX6, "unless", "(II)I"⟩
abbrev cX6_settled : ByteArray := prog_8_method_6_code
def yX6_settled : MethodName := ⟨RX6, "settled", "(I)I"⟩
def RX7 : String := "Genericwood$World"
def TX7 : u_T := fun k => match k with
  | 0 => ("Genericwood$World", "order", "LGenericwood$Order;", true)
  | 1 => ("Genericwood$World", "names", "LGenericwood$Names;", true)
  | 2 => ("Genericwood$World", "formulas", "LGenericwood$Formulas;", true)
  | 3 => ("Genericwood$World", "codes", "[I", true)
  | _ => ("Genericwood$World", "letters", "[I", true)
def tyX7 : Nat → FieldType := fun k => match k with
  | 0 => .object "Genericwood$Order"
  | 1 => .object "Genericwood$Names"
  | 2 => .object "Genericwood$Formulas"
  | 3 => .array .int
  | _ => .array .int
abbrev wsX70 : List Cond := u_ws RX7 TX7 5
theorem nmX7 : ∀ a, a < 5 → ∀ b, b < 5 → a ≠ b → (TX7 a).2.1 ≠ (TX7 b).2.1 := by decide +kernel
theorem tyX7_ok : ∀ k, k < 5 → parseFieldDescriptor (TX7 k).2.2.1 = some (tyX7 k) := by decide +kernel
abbrev cX7_init : ByteArray := prog_9_method_1_code
def yX7_init : MethodName := ⟨RX7, "<init>", "(LGenericwood$Order;LGenericwood$Names;LGenericwood$Formulas;)V"⟩
abbrev cX7_enter : ByteArray := prog_9_method_2_code
def yX7_enter : MethodName := ⟨RX7, "enter", "(IZ)V"⟩
abbrev cX7_codeOf : ByteArray := prog_9_method_3_code
def yX7_codeOf : MethodName := ⟨RX7, "codeOf", "(I)I"⟩
abbrev cX7_agrees : ByteArray := prog_9_method_4_code
def yX7_agrees : MethodName := ⟨RX7, "agrees", "(I)Z"⟩
abbrev cX7_worldsOf : ByteArray := prog_9_method_5_code
def yX7_worldsOf : MethodName := ⟨RX7, "worldsOf", "(I)I"⟩
abbrev cX7_isSo : ByteArray := prog_9_method_6_code
def yX7_isSo : MethodName := ⟨RX7, "isSo", "(II)Z"⟩
abbrev cX7_isBoundSo : ByteArray := prog_9_method_7_code
def yX7_isBoundSo : MethodName := ⟨RX7, "isBoundSo", "(II)Z"⟩
abbrev cX7_meant : ByteArray := prog_9_method_8_code
def yX7_meant : MethodName := ⟨RX7, "meant", "(I)I"⟩
def RX8 : String := "Genericwood"
def TX8 : u_T := fun k => match k with
  | 0 => ("Genericwood", "order", "LGenericwood$Order;", true)
  | 1 => ("Genericwood", "names", "LGenericwood$Names;", true)
  | 2 => ("Genericwood", "formulas", "LGenericwood$Formulas;", true)
  | 3 => ("Genericwood", "valued", "LGenericwood$Way;", true)
  | 4 => ("Genericwood", "forced", "LGenericwood$Way;", true)
  | 5 => ("Genericwood", "weak", "LGenericwood$Way;", true)
  | _ => ("Genericwood", "visited", "LGenericwood$World;", true)
def tyX8 : Nat → FieldType := fun k => match k with
  | 0 => .object "Genericwood$Order"
  | 1 => .object "Genericwood$Names"
  | 2 => .object "Genericwood$Formulas"
  | 3 => .object "Genericwood$Way"
  | 4 => .object "Genericwood$Way"
  | 5 => .object "Genericwood$Way"
  | _ => .object "Genericwood$World"
abbrev wsX80 : List Cond := u_ws RX8 TX8 7
theorem nmX8 : ∀ a, a < 7 → ∀ b, b < 7 → a ≠ b → (TX8 a).2.1 ≠ (TX8 b).2.1 := by decide +kernel
theorem tyX8_ok : ∀ k, k < 7 → parseFieldDescriptor (TX8 k).2.2.1 = some (tyX8 k) := by decide +kernel
abbrev cX8_init : ByteArray := prog_1_method_1_code
def yX8_init : MethodName := ⟨RX8, "<init>", "()V"⟩
abbrev cX8_condition : ByteArray := prog_1_method_2_code
def yX8_condition : MethodName := ⟨RX8, "condition", "()I"⟩
abbrev cX8_under : ByteArray := prog_1_method_3_code
def yX8_under : MethodName := ⟨RX8, "under", "(II)I"⟩
abbrev cX8_isBelow : ByteArray := prog_1_method_4_code
def yX8_isBelow : MethodName := ⟨RX8, "isBelow", "(II)Z"⟩
abbrev cX8_fit : ByteArray := prog_1_method_5_code
def yX8_fit : MethodName := ⟨RX8, "fit", "(II)Z"⟩
abbrev cX8_lasts : ByteArray := prog_1_method_6_code
def yX8_lasts : MethodName := ⟨RX8, "lasts", "()I"⟩
abbrev cX8_isAntichain : ByteArray := prog_1_method_7_code
def yX8_isAntichain : MethodName := ⟨RX8, "isAntichain", "(I)Z"⟩
abbrev cX8_widest : ByteArray := prog_1_method_8_code
def yX8_widest : MethodName := ⟨RX8, "widest", "()I"⟩
abbrev cX8_isDense : ByteArray := prog_1_method_9_code
def yX8_isDense : MethodName := ⟨RX8, "isDense", "(I)Z"⟩
abbrev cX8_isFilter : ByteArray := prog_1_method_10_code
def yX8_isFilter : MethodName := ⟨RX8, "isFilter", "(I)Z"⟩
abbrev cX8_meetsAll : ByteArray := prog_1_method_11_code
def yX8_meetsAll : MethodName := ⟨RX8, "meetsAll", "(II)Z"⟩
abbrev cX8_filters : ByteArray := prog_1_method_12_code
def yX8_filters : MethodName := ⟨RX8, "filters", "()I"⟩
abbrev cX8_isSeparative : ByteArray := prog_1_method_13_code
def yX8_isSeparative : MethodName := ⟨RX8, "isSeparative", "()Z"⟩
abbrev cX8_canAvoid : ByteArray := prog_1_method_14_code
def yX8_canAvoid : MethodName := ⟨RX8, "canAvoid", "(II)Z"⟩
abbrev cX8_cut : ByteArray := prog_1_method_15_code
def yX8_cut : MethodName := ⟨RX8, "cut", "(I)I"⟩
abbrev cX8_closure : ByteArray := prog_1_method_16_code
def yX8_closure : MethodName := ⟨RX8, "closure", "(I)I"⟩
abbrev cX8_filterOf : ByteArray := prog_1_method_17_code
def yX8_filterOf : MethodName := ⟨RX8, "filterOf", "(I)I"⟩
abbrev cX8_name : ByteArray := prog_1_method_18_code
def yX8_name : MethodName := ⟨RX8, "name", "()I"⟩
abbrev cX8_pair : ByteArray := prog_1_method_19_code
def yX8_pair : MethodName := ⟨RX8, "pair", "(III)I"⟩
abbrev cX8_unpair : ByteArray := prog_1_method_20_code
def yX8_unpair : MethodName := ⟨RX8, "unpair", "(I)I"⟩
abbrev cX8_rank : ByteArray := prog_1_method_21_code
def yX8_rank : MethodName := ⟨RX8, "rank", "(I)I"⟩
abbrev cX8_standard : ByteArray := prog_1_method_22_code
def yX8_standard : MethodName := ⟨RX8, "standard", "(I)I"⟩
abbrev cX8_becomes : ByteArray := prog_1_method_23_code
def yX8_becomes : MethodName := ⟨RX8, "becomes", "(II)I"⟩
abbrev cX8_valueIn : ByteArray := prog_1_method_24_code
def yX8_valueIn : MethodName := ⟨RX8, "valueIn", "(II)I"⟩
abbrev cX8_valueLike : ByteArray := prog_1_method_25_code
def yX8_valueLike : MethodName := ⟨RX8, "valueLike", "(II)I"⟩
abbrev cX8_forcesIn : ByteArray := prog_1_method_26_code
def yX8_forcesIn : MethodName := ⟨RX8, "forcesIn", "(III)Z"⟩
abbrev cX8_forcesLike : ByteArray := prog_1_method_27_code
def yX8_forcesLike : MethodName := ⟨RX8, "forcesLike", "(III)Z"⟩
abbrev cX8_mix : ByteArray := prog_1_method_28_code
def yX8_mix : MethodName := ⟨RX8, "mix", "(IIII)I"⟩
abbrev cX8_atom : ByteArray := prog_1_method_29_code
def yX8_atom : MethodName := ⟨RX8, "atom", "(CII)I"⟩
abbrev cX8_both : ByteArray := prog_1_method_30_code
def yX8_both : MethodName := ⟨RX8, "both", "(CII)I"⟩
abbrev cX8_not : ByteArray := prog_1_method_31_code
def yX8_not : MethodName := ⟨RX8, "not", "(I)I"⟩
abbrev cX8_bind : ByteArray := prog_1_method_32_code
def yX8_bind : MethodName := ⟨RX8, "bind", "(CIII)I"⟩
abbrev cX8_free : ByteArray := prog_1_method_33_code
def yX8_free : MethodName := ⟨RX8, "free", "(I)I"⟩
abbrev cX8_value : ByteArray := prog_1_method_34_code
def yX8_value : MethodName := ⟨RX8, "value", "(I)I"⟩
abbrev cX8_forces : ByteArray := prog_1_method_35_code
def yX8_forces : MethodName := ⟨RX8, "forces", "(II)Z"⟩
abbrev cX8_weakly : ByteArray := prog_1_method_36_code
def yX8_weakly : MethodName := ⟨RX8, "weakly", "(II)Z"⟩
abbrev cX8_holds : ByteArray := prog_1_method_37_code
def yX8_holds : MethodName := ⟨RX8, "holds", "(II)Z"⟩
abbrev cX8_against : ByteArray := prog_1_method_38_code
def yX8_against : MethodName := ⟨RX8, "against", "(I)I"⟩
abbrev cX8_swap : ByteArray := prog_1_method_39_code
def yX8_swap : MethodName := ⟨RX8, "swap", "(II)Z"⟩
abbrev cX8_goes : ByteArray := prog_1_method_40_code
def yX8_goes : MethodName := ⟨RX8, "goes", "(I)I"⟩
abbrev cX8_isFixed : ByteArray := prog_1_method_41_code
def yX8_isFixed : MethodName := ⟨RX8, "isFixed", "(I)Z"⟩
abbrev cX8_clear : ByteArray := prog_1_method_42_code
def yX8_clear : MethodName := ⟨RX8, "clear", "()I"⟩
abbrev cX8_checksum : ByteArray := prog_1_method_43_code
def yX8_checksum : MethodName := ⟨RX8, "checksum", "()J"⟩
abbrev cX8_lastShare : ByteArray := prog_1_method_44_code
def yX8_lastShare : MethodName := ⟨RX8, "lastShare", "()F"⟩
abbrev cX8_meanRank : ByteArray := prog_1_method_45_code
def yX8_meanRank : MethodName := ⟨RX8, "meanRank", "()D"⟩
abbrev cX8_isSound : ByteArray := prog_1_method_46_code
def yX8_isSound : MethodName := ⟨RX8, "isSound", "()Z"⟩
abbrev cX8_isForcedAsValued : ByteArray := prog_1_method_47_code
def yX8_isForcedAsValued : MethodName := ⟨RX8, "isForcedAsValued", "(II)Z"⟩
abbrev cX8_isAlikeAsBecome : ByteArray := prog_1_method_48_code
def yX8_isAlikeAsBecome : MethodName := ⟨RX8, "isAlikeAsBecome", "(I)Z"⟩
abbrev cX8_needCondition : ByteArray := prog_1_method_49_code
def yX8_needCondition : MethodName := ⟨RX8, "needCondition", "(I)V"⟩
abbrev cX8_needConditions : ByteArray := prog_1_method_50_code
def yX8_needConditions : MethodName := ⟨RX8, "needConditions", "(II)V"⟩
abbrev cX8_needSet : ByteArray := prog_1_method_51_code
def yX8_needSet : MethodName := ⟨RX8, "needSet", "(I)V"⟩
abbrev cX8_needWorld : ByteArray := prog_1_method_52_code
def yX8_needWorld : MethodName := ⟨RX8, "needWorld", "(I)V"⟩
abbrev cX8_needName : ByteArray := prog_1_method_53_code
def yX8_needName : MethodName := ⟨RX8, "needName", "(I)V"⟩
abbrev cX8_needRoomForNames : ByteArray := prog_1_method_54_code
def yX8_needRoomForNames : MethodName := ⟨RX8, "needRoomForNames", "(I)V"⟩
abbrev cX8_needTerm : ByteArray := prog_1_method_55_code
def yX8_needTerm : MethodName := ⟨RX8, "needTerm", "(I)V"⟩
abbrev cX8_needFormula : ByteArray := prog_1_method_56_code
def yX8_needFormula : MethodName := ⟨RX8, "needFormula", "(I)V"⟩
abbrev cX8_needClosed : ByteArray := prog_1_method_57_code
def yX8_needClosed : MethodName := ⟨RX8, "needClosed", "(I)V"⟩
abbrev cX8_needDepth : ByteArray := prog_1_method_58_code
def yX8_needDepth : MethodName := ⟨RX8, "needDepth", "(I)V"⟩
abbrev cX8_needRoomForFormula : ByteArray := prog_1_method_59_code
def yX8_needRoomForFormula : MethodName := ⟨RX8, "needRoomForFormula", "()V"⟩
abbrev cX8_contains : ByteArray := prog_1_method_60_code
def yX8_contains : MethodName := ⟨RX8, "contains", "(II)Z"⟩
abbrev cX8_isPart : ByteArray := prog_1_method_61_code
def yX8_isPart : MethodName := ⟨RX8, "isPart", "(II)Z"⟩
abbrev cX8_isLetter : ByteArray := prog_1_method_62_code
def yX8_isLetter : MethodName := ⟨RX8, "isLetter", "(I)Z"⟩
abbrev cX8_letterOf : ByteArray := prog_1_method_63_code
def yX8_letterOf : MethodName := ⟨RX8, "letterOf", "(I)I"⟩
abbrev cX8_at : ByteArray := prog_1_method_64_code
def yX8_at : MethodName := ⟨RX8, "at", "([II)I"⟩
abbrev cX8_put : ByteArray := prog_1_method_65_code
def yX8_put : MethodName := ⟨RX8, "put", "([III)V"⟩
def RX9 : String := "GenericwoodModel$Formula"
def TX9 : u_T := fun k => match k with
  | 0 => ("GenericwoodModel$Formula", "kind", "C", true)
  | 1 => ("GenericwoodModel$Formula", "one", "I", true)
  | 2 => ("GenericwoodModel$Formula", "other", "I", true)
  | 3 => ("GenericwoodModel$Formula", "letter", "I", true)
  | 4 => ("GenericwoodModel$Formula", "bound", "I", true)
  | _ => ("GenericwoodModel$Formula", "depth", "I", false)
def tyX9 : Nat → FieldType := fun k => match k with
  | 0 => .char
  | 1 => .int
  | 2 => .int
  | 3 => .int
  | 4 => .int
  | _ => .int
abbrev wsX90 : List Cond := u_ws RX9 TX9 6
theorem nmX9 : ∀ a, a < 6 → ∀ b, b < 6 → a ≠ b → (TX9 a).2.1 ≠ (TX9 b).2.1 := by decide +kernel
theorem tyX9_ok : ∀ k, k < 6 → parseFieldDescriptor (TX9 k).2.2.1 = some (tyX9 k) := by decide +kernel
abbrev cX9_init : ByteArray := prog_12_method_1_code
def yX9_init : MethodName := ⟨RX9, "<init>", "(CIIII)V"⟩
def RX10 : String := "GenericwoodModel$Name"
def TX10 : u_T := fun k => match k with
  | 0 => ("GenericwoodModel$Name", "pairs", "Ljava/util/List;", true)
  | _ => ("GenericwoodModel$Name", "code", "I", false)
def tyX10 : Nat → FieldType := fun k => match k with
  | 0 => .object "java/util/List"
  | _ => .int
abbrev wsX100 : List Cond := u_ws RX10 TX10 2
theorem nmX10 : ∀ a, a < 2 → ∀ b, b < 2 → a ≠ b → (TX10 a).2.1 ≠ (TX10 b).2.1 := by decide +kernel
theorem tyX10_ok : ∀ k, k < 2 → parseFieldDescriptor (TX10 k).2.2.1 = some (tyX10 k) := by decide +kernel
abbrev cX10_init : ByteArray := prog_13_method_1_code
def yX10_init : MethodName := ⟨RX10, "<init>", "()V"⟩
def RX11 : String := "GenericwoodModel"
def TX11 : u_T := fun k => match k with
  | 0 => ("GenericwoodModel", "below", "Ljava/util/List;", true)
  | 1 => ("GenericwoodModel", "names", "Ljava/util/List;", true)
  | 2 => ("GenericwoodModel", "formulas", "Ljava/util/List;", true)
  | 3 => ("GenericwoodModel", "goes", "[I", true)
  | _ => ("GenericwoodModel", "thrown", "I", false)
def tyX11 : Nat → FieldType := fun k => match k with
  | 0 => .object "java/util/List"
  | 1 => .object "java/util/List"
  | 2 => .object "java/util/List"
  | 3 => .array .int
  | _ => .int
abbrev wsX110 : List Cond := u_ws RX11 TX11 5
theorem nmX11 : ∀ a, a < 5 → ∀ b, b < 5 → a ≠ b → (TX11 a).2.1 ≠ (TX11 b).2.1 := by decide +kernel
theorem tyX11_ok : ∀ k, k < 5 → parseFieldDescriptor (TX11 k).2.2.1 = some (tyX11 k) := by decide +kernel
abbrev cX11_init : ByteArray := prog_11_method_1_code
def yX11_init : MethodName := ⟨RX11, "<init>", "()V"⟩
abbrev cX11_thrown : ByteArray := prog_11_method_2_code
def yX11_thrown : MethodName := ⟨RX11, "thrown", "()I"⟩
abbrev cX11_no : ByteArray := prog_11_method_3_code
def yX11_no : MethodName := ⟨RX11, "no", "(ZI)Z"⟩
abbrev cX11_isIn : ByteArray := prog_11_method_4_code
def yX11_isIn : MethodName := ⟨RX11, "isIn", "(III)Z"⟩
abbrev cX11_isCondition : ByteArray := prog_11_method_5_code
def yX11_isCondition : MethodName := ⟨RX11, "isCondition", "(I)Z"⟩
abbrev cX11_isName : ByteArray := prog_11_method_6_code
def yX11_isName : MethodName := ⟨RX11, "isName", "(I)Z"⟩
abbrev cX11_isFormula : ByteArray := prog_11_method_7_code
def yX11_isFormula : MethodName := ⟨RX11, "isFormula", "(I)Z"⟩
abbrev cX11_isSet : ByteArray := prog_11_method_8_code
def yX11_isSet : MethodName := ⟨RX11, "isSet", "(I)Z"⟩
abbrev cX11_has : ByteArray := prog_11_method_9_code
def yX11_has : MethodName := ⟨RX11, "has", "(II)Z"⟩
abbrev cX11_condition : ByteArray := prog_11_method_10_code
def yX11_condition : MethodName := ⟨RX11, "condition", "()I"⟩
abbrev cX11_isUnder : ByteArray := prog_11_method_11_code
def yX11_isUnder : MethodName := ⟨RX11, "isUnder", "(II)Z"⟩
abbrev cX11_under : ByteArray := prog_11_method_12_code
def yX11_under : MethodName := ⟨RX11, "under", "(II)I"⟩
abbrev cX11_isBelow : ByteArray := prog_11_method_13_code
def yX11_isBelow : MethodName := ⟨RX11, "isBelow", "(II)Z"⟩
abbrev cX11_fits : ByteArray := prog_11_method_14_code
def yX11_fits : MethodName := ⟨RX11, "fits", "(II)Z"⟩
abbrev cX11_fit : ByteArray := prog_11_method_15_code
def yX11_fit : MethodName := ⟨RX11, "fit", "(II)Z"⟩
abbrev cX11_ends : ByteArray := prog_11_method_16_code
def yX11_ends : MethodName := ⟨RX11, "ends", "()I"⟩
abbrev cX11_lasts : ByteArray := prog_11_method_17_code
def yX11_lasts : MethodName := ⟨RX11, "lasts", "()I"⟩
abbrev cX11_apart : ByteArray := prog_11_method_18_code
def yX11_apart : MethodName := ⟨RX11, "apart", "(I)Z"⟩
abbrev cX11_isAntichain : ByteArray := prog_11_method_19_code
def yX11_isAntichain : MethodName := ⟨RX11, "isAntichain", "(I)Z"⟩
abbrev cX11_widest : ByteArray := prog_11_method_20_code
def yX11_widest : MethodName := ⟨RX11, "widest", "()I"⟩
abbrev cX11_isDense : ByteArray := prog_11_method_21_code
def yX11_isDense : MethodName := ⟨RX11, "isDense", "(I)Z"⟩
abbrev cX11_filters : ByteArray := prog_11_method_22_code
def yX11_filters : MethodName := ⟨RX11, "filters", "(I)Z"⟩
abbrev cX11_isFilter : ByteArray := prog_11_method_23_code
def yX11_isFilter : MethodName := ⟨RX11, "isFilter", "(I)Z"⟩
abbrev cX11_filters_ : ByteArray := prog_11_method_24_code
def yX11_filters_ : MethodName := ⟨RX11, "filters", "()I"⟩
abbrev cX11_isSeparative : ByteArray := prog_11_method_25_code
def yX11_isSeparative : MethodName := ⟨RX11, "isSeparative", "()Z"⟩
abbrev cX11_endsBelow : ByteArray := prog_11_method_26_code
def yX11_endsBelow : MethodName := ⟨RX11, "endsBelow", "(I)I"⟩
abbrev cX11_cut : ByteArray := prog_11_method_27_code
def yX11_cut : MethodName := ⟨RX11, "cut", "(I)I"⟩
abbrev cX11_closure : ByteArray := prog_11_method_28_code
def yX11_closure : MethodName := ⟨RX11, "closure", "(I)I"⟩
abbrev cX11_isWorld : ByteArray := prog_11_method_29_code
def yX11_isWorld : MethodName := ⟨RX11, "isWorld", "(I)Z"⟩
abbrev cX11_filterOf : ByteArray := prog_11_method_30_code
def yX11_filterOf : MethodName := ⟨RX11, "filterOf", "(I)I"⟩
abbrev cX11_name : ByteArray := prog_11_method_31_code
def yX11_name : MethodName := ⟨RX11, "name", "()I"⟩
abbrev cX11_rankOf : ByteArray := prog_11_method_32_code
def yX11_rankOf : MethodName := ⟨RX11, "rankOf", "(I)I"⟩
abbrev cX11_hasPair : ByteArray := prog_11_method_33_code
def yX11_hasPair : MethodName := ⟨RX11, "hasPair", "(Ljava/util/List;II)Z"⟩
abbrev cX11_pair : ByteArray := prog_11_method_34_code
def yX11_pair : MethodName := ⟨RX11, "pair", "(III)I"⟩
abbrev cX11_unpair : ByteArray := prog_11_method_35_code
def yX11_unpair : MethodName := ⟨RX11, "unpair", "(I)I"⟩
abbrev cX11_rank : ByteArray := prog_11_method_36_code
def yX11_rank : MethodName := ⟨RX11, "rank", "(I)I"⟩
abbrev cX11_ofCode : ByteArray := prog_11_method_37_code
def yX11_ofCode : MethodName := ⟨RX11, "ofCode", "(I)I"⟩
abbrev cX11_make : ByteArray := prog_11_method_38_code
def yX11_make : MethodName := ⟨RX11, "make", "(I)I"⟩
abbrev cX11_standard : ByteArray := prog_11_method_39_code
def yX11_standard : MethodName := ⟨RX11, "standard", "(I)I"⟩
abbrev cX11_becoming : ByteArray := prog_11_method_40_code
def yX11_becoming : MethodName := ⟨RX11, "becoming", "(II)I"⟩
abbrev cX11_becomes : ByteArray := prog_11_method_41_code
def yX11_becomes : MethodName := ⟨RX11, "becomes", "(II)I"⟩
abbrev cX11_worlds : ByteArray := prog_11_method_42_code
def yX11_worlds : MethodName := ⟨RX11, "worlds", "(IIZ)I"⟩
abbrev cX11_valueIn : ByteArray := prog_11_method_43_code
def yX11_valueIn : MethodName := ⟨RX11, "valueIn", "(II)I"⟩
abbrev cX11_valueLike : ByteArray := prog_11_method_44_code
def yX11_valueLike : MethodName := ⟨RX11, "valueLike", "(II)I"⟩
abbrev cX11_forcesIn : ByteArray := prog_11_method_45_code
def yX11_forcesIn : MethodName := ⟨RX11, "forcesIn", "(III)Z"⟩
abbrev cX11_forcesLike : ByteArray := prog_11_method_46_code
def yX11_forcesLike : MethodName := ⟨RX11, "forcesLike", "(III)Z"⟩
abbrev cX11_mix : ByteArray := prog_11_method_47_code
def yX11_mix : MethodName := ⟨RX11, "mix", "(IIII)I"⟩
abbrev cX11_isTerm : ByteArray := prog_11_method_48_code
def yX11_isTerm : MethodName := ⟨RX11, "isTerm", "(I)Z"⟩
abbrev cX11_keep : ByteArray := prog_11_method_49_code
def yX11_keep : MethodName := ⟨RX11, "keep", "(LGenericwoodModel$Formula;I)I"⟩
abbrev cX11_atom : ByteArray := prog_11_method_50_code
def yX11_atom : MethodName := ⟨RX11, "atom", "(CII)I"⟩
abbrev cX11_deep : ByteArray := prog_11_method_51_code
def yX11_deep : MethodName := ⟨RX11, "deep", "(I)I"⟩
abbrev cX11_both : ByteArray := prog_11_method_52_code
def yX11_both : MethodName := ⟨RX11, "both", "(CII)I"⟩
abbrev cX11_not : ByteArray := prog_11_method_53_code
def yX11_not : MethodName := ⟨RX11, "not", "(I)I"⟩
abbrev cX11_bind : ByteArray := prog_11_method_54_code
def yX11_bind : MethodName := ⟨RX11, "bind", "(CIII)I"⟩
abbrev cX11_letterOf : ByteArray := prog_11_method_55_code
def yX11_letterOf : MethodName := ⟨RX11, "letterOf", "(I)I"⟩
abbrev cX11_freeOf : ByteArray := prog_11_method_56_code
def yX11_freeOf : MethodName := ⟨RX11, "freeOf", "(I)I"⟩
abbrev cX11_free : ByteArray := prog_11_method_57_code
def yX11_free : MethodName := ⟨RX11, "free", "(I)I"⟩
abbrev cX11_isSo : ByteArray := prog_11_method_58_code
def yX11_isSo : MethodName := ⟨RX11, "isSo", "(II[I)Z"⟩
abbrev cX11_code : ByteArray := prog_11_method_59_code
def yX11_code : MethodName := ⟨RX11, "code", "(II[I)I"⟩
abbrev cX11_valueOf : ByteArray := prog_11_method_60_code
def yX11_valueOf : MethodName := ⟨RX11, "valueOf", "(I)I"⟩
abbrev cX11_value : ByteArray := prog_11_method_61_code
def yX11_value : MethodName := ⟨RX11, "value", "(I)I"⟩
abbrev cX11_forces : ByteArray := prog_11_method_62_code
def yX11_forces : MethodName := ⟨RX11, "forces", "(II)Z"⟩
abbrev cX11_weakIn : ByteArray := prog_11_method_63_code
def yX11_weakIn : MethodName := ⟨RX11, "weakIn", "(III)Z"⟩
abbrev cX11_weakLike : ByteArray := prog_11_method_64_code
def yX11_weakLike : MethodName := ⟨RX11, "weakLike", "(III)Z"⟩
abbrev cX11_nameOf : ByteArray := prog_11_method_65_code
def yX11_nameOf : MethodName := ⟨RX11, "nameOf", "(I[I)I"⟩
abbrev cX11_with : ByteArray := prog_11_method_66_code
def yX11_with : MethodName := ⟨RX11, "with", "([III)[I"⟩
abbrev cX11_weak : ByteArray := prog_11_method_67_code
def yX11_weak : MethodName := ⟨RX11, "weak", "(II[I)Z"⟩
abbrev cX11_weakly : ByteArray := prog_11_method_68_code
def yX11_weakly : MethodName := ⟨RX11, "weakly", "(II)Z"⟩
abbrev cX11_holds : ByteArray := prog_11_method_69_code
def yX11_holds : MethodName := ⟨RX11, "holds", "(II)Z"⟩
abbrev cX11_against : ByteArray := prog_11_method_70_code
def yX11_against : MethodName := ⟨RX11, "against", "(I)I"⟩
abbrev cX11_keepsOrder : ByteArray := prog_11_method_71_code
def yX11_keepsOrder : MethodName := ⟨RX11, "keepsOrder", "()Z"⟩
abbrev cX11_swap : ByteArray := prog_11_method_72_code
def yX11_swap : MethodName := ⟨RX11, "swap", "(II)Z"⟩
abbrev cX11_goes : ByteArray := prog_11_method_73_code
def yX11_goes : MethodName := ⟨RX11, "goes", "(I)I"⟩
abbrev cX11_moved : ByteArray := prog_11_method_74_code
def yX11_moved : MethodName := ⟨RX11, "moved", "(II)I"⟩
abbrev cX11_isFixed : ByteArray := prog_11_method_75_code
def yX11_isFixed : MethodName := ⟨RX11, "isFixed", "(I)Z"⟩
abbrev cX11_clear : ByteArray := prog_11_method_76_code
def yX11_clear : MethodName := ⟨RX11, "clear", "()I"⟩
abbrev cX11_checksum : ByteArray := prog_11_method_77_code
def yX11_checksum : MethodName := ⟨RX11, "checksum", "()J"⟩
abbrev cX11_lastShare : ByteArray := prog_11_method_78_code
def yX11_lastShare : MethodName := ⟨RX11, "lastShare", "()F"⟩
abbrev cX11_meanRank : ByteArray := prog_11_method_79_code
def yX11_meanRank : MethodName := ⟨RX11, "meanRank", "()D"⟩
abbrev cX11_isSound : ByteArray := prog_11_method_80_code
def yX11_isSound : MethodName := ⟨RX11, "isSound", "()Z"⟩
def RJx145de : String := "java/io/Serializable"
def TJx145de : u_T := fun k => match k with
  | _ => ("", "", "", false)
def tyJx145de : Nat → FieldType := fun k => match k with
  | _ => .int
abbrev wsJx145de0 : List Cond := u_ws RJx145de TJx145de 0
theorem nmJx145de : ∀ a, a < 0 → ∀ b, b < 0 → a ≠ b → (TJx145de a).2.1 ≠ (TJx145de b).2.1 := by decide +kernel
theorem tyJx145de_ok : ∀ k, k < 0 → parseFieldDescriptor (TJx145de k).2.2.1 = some (tyJx145de k) := by decide +kernel
def RJx8e188 : String := "java/lang/Cloneable"
def TJx8e188 : u_T := fun k => match k with
  | _ => ("", "", "", false)
def tyJx8e188 : Nat → FieldType := fun k => match k with
  | _ => .int
abbrev wsJx8e1880 : List Cond := u_ws RJx8e188 TJx8e188 0
theorem nmJx8e188 : ∀ a, a < 0 → ∀ b, b < 0 → a ≠ b → (TJx8e188 a).2.1 ≠ (TJx8e188 b).2.1 := by decide +kernel
theorem tyJx8e188_ok : ∀ k, k < 0 → parseFieldDescriptor (TJx8e188 k).2.2.1 = some (tyJx8e188 k) := by decide +kernel
def RJxb160c : String := "java/lang/Comparable"
def TJxb160c : u_T := fun k => match k with
  | _ => ("", "", "", false)
def tyJxb160c : Nat → FieldType := fun k => match k with
  | _ => .int
abbrev wsJxb160c0 : List Cond := u_ws RJxb160c TJxb160c 0
theorem nmJxb160c : ∀ a, a < 0 → ∀ b, b < 0 → a ≠ b → (TJxb160c a).2.1 ≠ (TJxb160c b).2.1 := by decide +kernel
theorem tyJxb160c_ok : ∀ k, k < 0 → parseFieldDescriptor (TJxb160c k).2.2.1 = some (tyJxb160c k) := by decide +kernel
def RJxabbfe : String := "java/lang/Integer$IntegerCache"
def TJxabbfe : u_T := fun k => match k with
  | _ => ("", "", "", false)
def tyJxabbfe : Nat → FieldType := fun k => match k with
  | _ => .int
abbrev wsJxabbfe0 : List Cond := u_ws RJxabbfe TJxabbfe 0
theorem nmJxabbfe : ∀ a, a < 0 → ∀ b, b < 0 → a ≠ b → (TJxabbfe a).2.1 ≠ (TJxabbfe b).2.1 := by decide +kernel
theorem tyJxabbfe_ok : ∀ k, k < 0 → parseFieldDescriptor (TJxabbfe k).2.2.1 = some (tyJxabbfe k) := by decide +kernel
def RJ6 : String := "java/lang/Integer"
def TJ6 : u_T := fun k => match k with
  | _ => ("java/lang/Integer", "value", "I", true)
def tyJ6 : Nat → FieldType := fun k => match k with
  | _ => .int
abbrev wsJ60 : List Cond := u_ws RJ6 TJ6 1
theorem nmJ6 : ∀ a, a < 1 → ∀ b, b < 1 → a ≠ b → (TJ6 a).2.1 ≠ (TJ6 b).2.1 := by decide +kernel
theorem tyJ6_ok : ∀ k, k < 1 → parseFieldDescriptor (TJ6 k).2.2.1 = some (tyJ6 k) := by decide +kernel
abbrev cJ6_valueOf_2dffe : ByteArray := prog_21_method_22_code
def yJ6_valueOf_2dffe : MethodName := ⟨RJ6, "valueOf", "(I)Ljava/lang/Integer;"⟩
abbrev cJ6_init_d00df : ByteArray := prog_21_method_23_code
def yJ6_init_d00df : MethodName := ⟨RJ6, "<init>", "(I)V"⟩
abbrev cJ6_intValue_8abf5 : ByteArray := prog_21_method_27_code
def yJ6_intValue_8abf5 : MethodName := ⟨RJ6, "intValue", "()I"⟩
abbrev cJ6_numberOfTrailingZeros_0f7a4 : ByteArray := prog_21_method_48_code
def yJ6_numberOfTrailingZeros_0f7a4 : MethodName := ⟨RJ6, "numberOfTrailingZeros", "(I)I"⟩
abbrev cJ6_bitCount_0f7a4 : ByteArray := prog_21_method_49_code
def yJ6_bitCount_0f7a4 : MethodName := ⟨RJ6, "bitCount", "(I)I"⟩
def RJxab1ab : String := "java/lang/Iterable"
def TJxab1ab : u_T := fun k => match k with
  | _ => ("", "", "", false)
def tyJxab1ab : Nat → FieldType := fun k => match k with
  | _ => .int
abbrev wsJxab1ab0 : List Cond := u_ws RJxab1ab TJxab1ab 0
theorem nmJxab1ab : ∀ a, a < 0 → ∀ b, b < 0 → a ≠ b → (TJxab1ab a).2.1 ≠ (TJxab1ab b).2.1 := by decide +kernel
theorem tyJxab1ab_ok : ∀ k, k < 0 → parseFieldDescriptor (TJxab1ab k).2.2.1 = some (tyJxab1ab k) := by decide +kernel
def RJ9 : String := "java/lang/Math"
def TJ9 : u_T := fun k => match k with
  | _ => ("", "", "", false)
def tyJ9 : Nat → FieldType := fun k => match k with
  | _ => .int
abbrev wsJ90 : List Cond := u_ws RJ9 TJ9 0
theorem nmJ9 : ∀ a, a < 0 → ∀ b, b < 0 → a ≠ b → (TJ9 a).2.1 ≠ (TJ9 b).2.1 := by decide +kernel
theorem tyJ9_ok : ∀ k, k < 0 → parseFieldDescriptor (TJ9 k).2.2.1 = some (tyJ9 k) := by decide +kernel
abbrev cJ9_max_7cf53 : ByteArray := prog_24_method_65_code
def yJ9_max_7cf53 : MethodName := ⟨RJ9, "max", "(II)I"⟩
abbrev cJ9_min_7cf53 : ByteArray := prog_24_method_69_code
def yJ9_min_7cf53 : MethodName := ⟨RJ9, "min", "(II)I"⟩
def RJxd2413 : String := "java/lang/Number"
def TJxd2413 : u_T := fun k => match k with
  | _ => ("", "", "", false)
def tyJxd2413 : Nat → FieldType := fun k => match k with
  | _ => .int
abbrev wsJxd24130 : List Cond := u_ws RJxd2413 TJxd2413 0
theorem nmJxd2413 : ∀ a, a < 0 → ∀ b, b < 0 → a ≠ b → (TJxd2413 a).2.1 ≠ (TJxd2413 b).2.1 := by decide +kernel
theorem tyJxd2413_ok : ∀ k, k < 0 → parseFieldDescriptor (TJxd2413 k).2.2.1 = some (tyJxd2413 k) := by decide +kernel
abbrev cJxd2413_init_da8c8 : ByteArray := prog_25_method_1_code
def yJxd2413_init_da8c8 : MethodName := ⟨RJxd2413, "<init>", "()V"⟩
def RJ0 : String := "java/lang/String"
def TJ0 : u_T := fun k => match k with
  | _ => ("", "", "", false)
def tyJ0 : Nat → FieldType := fun k => match k with
  | _ => .int
abbrev wsJ00 : List Cond := u_ws RJ0 TJ0 0
theorem nmJ0 : ∀ a, a < 0 → ∀ b, b < 0 → a ≠ b → (TJ0 a).2.1 ≠ (TJ0 b).2.1 := by decide +kernel
theorem tyJ0_ok : ∀ k, k < 0 → parseFieldDescriptor (TJ0 k).2.2.1 = some (tyJ0 k) := by decide +kernel
def RJ10 : String := "java/lang/System"
def TJ10 : u_T := fun k => match k with
  | _ => ("", "", "", false)
def tyJ10 : Nat → FieldType := fun k => match k with
  | _ => .int
abbrev wsJ100 : List Cond := u_ws RJ10 TJ10 0
theorem nmJ10 : ∀ a, a < 0 → ∀ b, b < 0 → a ≠ b → (TJ10 a).2.1 ≠ (TJ10 b).2.1 := by decide +kernel
theorem tyJ10_ok : ∀ k, k < 0 → parseFieldDescriptor (TJ10 k).2.2.1 = some (tyJ10 k) := by decide +kernel
def RJxfd54e : String := "java/lang/constant/Constable"
def TJxfd54e : u_T := fun k => match k with
  | _ => ("", "", "", false)
def tyJxfd54e : Nat → FieldType := fun k => match k with
  | _ => .int
abbrev wsJxfd54e0 : List Cond := u_ws RJxfd54e TJxfd54e 0
theorem nmJxfd54e : ∀ a, a < 0 → ∀ b, b < 0 → a ≠ b → (TJxfd54e a).2.1 ≠ (TJxfd54e b).2.1 := by decide +kernel
theorem tyJxfd54e_ok : ∀ k, k < 0 → parseFieldDescriptor (TJxfd54e k).2.2.1 = some (tyJxfd54e k) := by decide +kernel
def RJx3cf43 : String := "java/lang/constant/ConstantDesc"
def TJx3cf43 : u_T := fun k => match k with
  | _ => ("", "", "", false)
def tyJx3cf43 : Nat → FieldType := fun k => match k with
  | _ => .int
abbrev wsJx3cf430 : List Cond := u_ws RJx3cf43 TJx3cf43 0
theorem nmJx3cf43 : ∀ a, a < 0 → ∀ b, b < 0 → a ≠ b → (TJx3cf43 a).2.1 ≠ (TJx3cf43 b).2.1 := by decide +kernel
theorem tyJx3cf43_ok : ∀ k, k < 0 → parseFieldDescriptor (TJx3cf43 k).2.2.1 = some (tyJx3cf43 k) := by decide +kernel
def RJxa1e45 : String := "java/util/AbstractCollection"
def TJxa1e45 : u_T := fun k => match k with
  | _ => ("", "", "", false)
def tyJxa1e45 : Nat → FieldType := fun k => match k with
  | _ => .int
abbrev wsJxa1e450 : List Cond := u_ws RJxa1e45 TJxa1e45 0
theorem nmJxa1e45 : ∀ a, a < 0 → ∀ b, b < 0 → a ≠ b → (TJxa1e45 a).2.1 ≠ (TJxa1e45 b).2.1 := by decide +kernel
theorem tyJxa1e45_ok : ∀ k, k < 0 → parseFieldDescriptor (TJxa1e45 k).2.2.1 = some (tyJxa1e45 k) := by decide +kernel
abbrev cJxa1e45_init_da8c8 : ByteArray := prog_33_method_1_code
def yJxa1e45_init_da8c8 : MethodName := ⟨RJxa1e45, "<init>", "()V"⟩
def RJxc12de : String := "java/util/AbstractList"
def TJxc12de : u_T := fun k => match k with
  | _ => ("", "", "", false)
def tyJxc12de : Nat → FieldType := fun k => match k with
  | _ => .int
abbrev wsJxc12de0 : List Cond := u_ws RJxc12de TJxc12de 0
theorem nmJxc12de : ∀ a, a < 0 → ∀ b, b < 0 → a ≠ b → (TJxc12de a).2.1 ≠ (TJxc12de b).2.1 := by decide +kernel
theorem tyJxc12de_ok : ∀ k, k < 0 → parseFieldDescriptor (TJxc12de k).2.2.1 = some (tyJxc12de k) := by decide +kernel
abbrev cJxc12de_init_da8c8 : ByteArray := prog_34_method_1_code
def yJxc12de_init_da8c8 : MethodName := ⟨RJxc12de, "<init>", "()V"⟩
def RJx35411 : String := "java/util/ArrayList$Itr"
def TJx35411 : u_T := fun k => match k with
  | 0 => ("java/util/ArrayList$Itr", "cursor", "I", false)
  | 1 => ("java/util/ArrayList$Itr", "lastRet", "I", false)
  | 2 => ("java/util/ArrayList$Itr", "expectedModCount", "I", false)
  | _ => ("java/util/ArrayList$Itr", "this$0", "Ljava/util/ArrayList;", true)
def tyJx35411 : Nat → FieldType := fun k => match k with
  | 0 => .int
  | 1 => .int
  | 2 => .int
  | _ => .object "java/util/ArrayList"
abbrev wsJx354110 : List Cond := u_ws RJx35411 TJx35411 4
theorem nmJx35411 : ∀ a, a < 4 → ∀ b, b < 4 → a ≠ b → (TJx35411 a).2.1 ≠ (TJx35411 b).2.1 := by decide +kernel
theorem tyJx35411_ok : ∀ k, k < 4 → parseFieldDescriptor (TJx35411 k).2.2.1 = some (tyJx35411 k) := by decide +kernel
abbrev cJx35411_init_45d68 : ByteArray := prog_36_method_1_code
def yJx35411_init_45d68 : MethodName := ⟨RJx35411, "<init>", "(Ljava/util/ArrayList;)V"⟩
abbrev cJx35411_hasNext_aae02 : ByteArray := prog_36_method_2_code
def yJx35411_hasNext_aae02 : MethodName := ⟨RJx35411, "hasNext", "()Z"⟩
abbrev cJx35411_next_0502b : ByteArray := prog_36_method_3_code
def yJx35411_next_0502b : MethodName := ⟨RJx35411, "next", "()Ljava/lang/Object;"⟩
abbrev cJx35411_checkForComodification_da8c8 : ByteArray := prog_36_method_6_code
def yJx35411_checkForComodification_da8c8 : MethodName := ⟨RJx35411, "checkForComodification", "()V"⟩
def RJx4a65c : String := "java/util/ArrayList"
def TJx4a65c : u_T := fun k => match k with
  | 0 => ("java/util/AbstractList", "modCount", "I", false)
  | 1 => ("java/util/ArrayList", "elementData", "[Ljava/lang/Object;", false)
  | _ => ("java/util/ArrayList", "size", "I", false)
def tyJx4a65c : Nat → FieldType := fun k => match k with
  | 0 => .int
  | 1 => .array (.object "java/lang/Object")
  | _ => .int
abbrev wsJx4a65c0 : List Cond := u_ws RJx4a65c TJx4a65c 3
theorem nmJx4a65c : ∀ a, a < 3 → ∀ b, b < 3 → a ≠ b → (TJx4a65c a).2.1 ≠ (TJx4a65c b).2.1 := by decide +kernel
theorem tyJx4a65c_ok : ∀ k, k < 3 → parseFieldDescriptor (TJx4a65c k).2.2.1 = some (tyJx4a65c k) := by decide +kernel
abbrev cJx4a65c_init_da8c8 : ByteArray := prog_35_method_2_code
def yJx4a65c_init_da8c8 : MethodName := ⟨RJx4a65c, "<init>", "()V"⟩
abbrev cJx4a65c_grow_92f84 : ByteArray := prog_35_method_6_code
def yJx4a65c_grow_92f84 : MethodName := ⟨RJx4a65c, "grow", "(I)[Ljava/lang/Object;"⟩
abbrev cJx4a65c_grow_d5877 : ByteArray := prog_35_method_7_code
def yJx4a65c_grow_d5877 : MethodName := ⟨RJx4a65c, "grow", "()[Ljava/lang/Object;"⟩
abbrev cJx4a65c_size_8abf5 : ByteArray := prog_35_method_8_code
def yJx4a65c_size_8abf5 : MethodName := ⟨RJx4a65c, "size", "()I"⟩
abbrev cJx4a65c_isEmpty_aae02 : ByteArray := prog_35_method_9_code
def yJx4a65c_isEmpty_aae02 : MethodName := ⟨RJx4a65c, "isEmpty", "()Z"⟩
abbrev cJx4a65c_elementData_915e3 : ByteArray := prog_35_method_18_code
def yJx4a65c_elementData_915e3 : MethodName := ⟨RJx4a65c, "elementData", "(I)Ljava/lang/Object;"⟩
abbrev cJx4a65c_get_915e3 : ByteArray := prog_35_method_20_code
def yJx4a65c_get_915e3 : MethodName := ⟨RJx4a65c, "get", "(I)Ljava/lang/Object;"⟩
abbrev cJx4a65c_set_bcc79 : ByteArray := prog_35_method_23_code
def yJx4a65c_set_bcc79 : MethodName := ⟨RJx4a65c, "set", "(ILjava/lang/Object;)Ljava/lang/Object;"⟩
abbrev cJx4a65c_add_72be8 : ByteArray := prog_35_method_24_code
def yJx4a65c_add_72be8 : MethodName := ⟨RJx4a65c, "add", "(Ljava/lang/Object;[Ljava/lang/Object;I)V"⟩
abbrev cJx4a65c_add_9ea2d : ByteArray := prog_35_method_25_code
def yJx4a65c_add_9ea2d : MethodName := ⟨RJx4a65c, "add", "(Ljava/lang/Object;)Z"⟩
abbrev cJx4a65c_remove_915e3 : ByteArray := prog_35_method_29_code
def yJx4a65c_remove_915e3 : MethodName := ⟨RJx4a65c, "remove", "(I)Ljava/lang/Object;"⟩
abbrev cJx4a65c_fastRemove_b59b0 : ByteArray := prog_35_method_39_code
def yJx4a65c_fastRemove_b59b0 : MethodName := ⟨RJx4a65c, "fastRemove", "([Ljava/lang/Object;I)V"⟩
abbrev cJx4a65c_clear_da8c8 : ByteArray := prog_35_method_40_code
def yJx4a65c_clear_da8c8 : MethodName := ⟨RJx4a65c, "clear", "()V"⟩
abbrev cJx4a65c_iterator_32c93 : ByteArray := prog_35_method_55_code
def yJx4a65c_iterator_32c93 : MethodName := ⟨RJx4a65c, "iterator", "()Ljava/util/Iterator;"⟩
def RJ7 : String := "java/util/Arrays"
def TJ7 : u_T := fun k => match k with
  | _ => ("", "", "", false)
def tyJ7 : Nat → FieldType := fun k => match k with
  | _ => .int
abbrev wsJ70 : List Cond := u_ws RJ7 TJ7 0
theorem nmJ7 : ∀ a, a < 0 → ∀ b, b < 0 → a ≠ b → (TJ7 a).2.1 ≠ (TJ7 b).2.1 := by decide +kernel
theorem tyJ7_ok : ∀ k, k < 0 → parseFieldDescriptor (TJ7 k).2.2.1 = some (tyJ7 k) := by decide +kernel
abbrev cJ7_copyOf_1904c : ByteArray := prog_37_method_119_code
def yJ7_copyOf_1904c : MethodName := ⟨RJ7, "copyOf", "([Ljava/lang/Object;I)[Ljava/lang/Object;"⟩
abbrev cJ7_copyOf_6403c : ByteArray := prog_37_method_120_code
def yJ7_copyOf_6403c : MethodName := ⟨RJ7, "copyOf", "([Ljava/lang/Object;ILjava/lang/Class;)[Ljava/lang/Object;"⟩
def RJx5ef63 : String := "java/util/Collection"
def TJx5ef63 : u_T := fun k => match k with
  | _ => ("", "", "", false)
def tyJx5ef63 : Nat → FieldType := fun k => match k with
  | _ => .int
abbrev wsJx5ef630 : List Cond := u_ws RJx5ef63 TJx5ef63 0
theorem nmJx5ef63 : ∀ a, a < 0 → ∀ b, b < 0 → a ≠ b → (TJx5ef63 a).2.1 ≠ (TJx5ef63 b).2.1 := by decide +kernel
theorem tyJx5ef63_ok : ∀ k, k < 0 → parseFieldDescriptor (TJx5ef63 k).2.2.1 = some (tyJx5ef63 k) := by decide +kernel
def RJx4d0d8 : String := "java/util/Iterator"
def TJx4d0d8 : u_T := fun k => match k with
  | _ => ("", "", "", false)
def tyJx4d0d8 : Nat → FieldType := fun k => match k with
  | _ => .int
abbrev wsJx4d0d80 : List Cond := u_ws RJx4d0d8 TJx4d0d8 0
theorem nmJx4d0d8 : ∀ a, a < 0 → ∀ b, b < 0 → a ≠ b → (TJx4d0d8 a).2.1 ≠ (TJx4d0d8 b).2.1 := by decide +kernel
theorem tyJx4d0d8_ok : ∀ k, k < 0 → parseFieldDescriptor (TJx4d0d8 k).2.2.1 = some (tyJx4d0d8 k) := by decide +kernel
def RJxbd725 : String := "java/util/List"
def TJxbd725 : u_T := fun k => match k with
  | _ => ("", "", "", false)
def tyJxbd725 : Nat → FieldType := fun k => match k with
  | _ => .int
abbrev wsJxbd7250 : List Cond := u_ws RJxbd725 TJxbd725 0
theorem nmJxbd725 : ∀ a, a < 0 → ∀ b, b < 0 → a ≠ b → (TJxbd725 a).2.1 ≠ (TJxbd725 b).2.1 := by decide +kernel
theorem tyJxbd725_ok : ∀ k, k < 0 → parseFieldDescriptor (TJxbd725 k).2.2.1 = some (tyJxbd725 k) := by decide +kernel
def RJ15 : String := "java/util/Objects"
def TJ15 : u_T := fun k => match k with
  | _ => ("", "", "", false)
def tyJ15 : Nat → FieldType := fun k => match k with
  | _ => .int
abbrev wsJ150 : List Cond := u_ws RJ15 TJ15 0
theorem nmJ15 : ∀ a, a < 0 → ∀ b, b < 0 → a ≠ b → (TJ15 a).2.1 ≠ (TJ15 b).2.1 := by decide +kernel
theorem tyJ15_ok : ∀ k, k < 0 → parseFieldDescriptor (TJ15 k).2.2.1 = some (tyJ15 k) := by decide +kernel
abbrev cJ15_checkIndex_7cf53 : ByteArray := prog_42_method_17_code
def yJ15_checkIndex_7cf53 : MethodName := ⟨RJ15, "checkIndex", "(II)I"⟩
def RJxf0a74 : String := "java/util/RandomAccess"
def TJxf0a74 : u_T := fun k => match k with
  | _ => ("", "", "", false)
def tyJxf0a74 : Nat → FieldType := fun k => match k with
  | _ => .int
abbrev wsJxf0a740 : List Cond := u_ws RJxf0a74 TJxf0a74 0
theorem nmJxf0a74 : ∀ a, a < 0 → ∀ b, b < 0 → a ≠ b → (TJxf0a74 a).2.1 ≠ (TJxf0a74 b).2.1 := by decide +kernel
theorem tyJxf0a74_ok : ∀ k, k < 0 → parseFieldDescriptor (TJxf0a74 k).2.2.1 = some (tyJxf0a74 k) := by decide +kernel
def RJxa66e6 : String := "java/util/SequencedCollection"
def TJxa66e6 : u_T := fun k => match k with
  | _ => ("", "", "", false)
def tyJxa66e6 : Nat → FieldType := fun k => match k with
  | _ => .int
abbrev wsJxa66e60 : List Cond := u_ws RJxa66e6 TJxa66e6 0
theorem nmJxa66e6 : ∀ a, a < 0 → ∀ b, b < 0 → a ≠ b → (TJxa66e6 a).2.1 ≠ (TJxa66e6 b).2.1 := by decide +kernel
theorem tyJxa66e6_ok : ∀ k, k < 0 → parseFieldDescriptor (TJxa66e6 k).2.2.1 = some (tyJxa66e6 k) := by decide +kernel
def RJ8 : String := "jdk/internal/util/ArraysSupport"
def TJ8 : u_T := fun k => match k with
  | _ => ("", "", "", false)
def tyJ8 : Nat → FieldType := fun k => match k with
  | _ => .int
abbrev wsJ80 : List Cond := u_ws RJ8 TJ8 0
theorem nmJ8 : ∀ a, a < 0 → ∀ b, b < 0 → a ≠ b → (TJ8 a).2.1 ≠ (TJ8 b).2.1 := by decide +kernel
theorem tyJ8_ok : ∀ k, k < 0 → parseFieldDescriptor (TJ8 k).2.2.1 = some (tyJ8 k) := by decide +kernel
abbrev cJ8_newLength_cabcc : ByteArray := prog_45_method_27_code
def yJ8_newLength_cabcc : MethodName := ⟨RJ8, "newLength", "(III)I"⟩
abbrev cJ8_hugeLength_7cf53 : ByteArray := prog_45_method_28_code
def yJ8_hugeLength_7cf53 : MethodName := ⟨RJ8, "hugeLength", "(II)I"⟩
def RJ3 : String := "jdk/internal/util/Preconditions"
def TJ3 : u_T := fun k => match k with
  | _ => ("", "", "", false)
def tyJ3 : Nat → FieldType := fun k => match k with
  | _ => .int
abbrev wsJ30 : List Cond := u_ws RJ3 TJ3 0
theorem nmJ3 : ∀ a, a < 0 → ∀ b, b < 0 → a ≠ b → (TJ3 a).2.1 ≠ (TJ3 b).2.1 := by decide +kernel
theorem tyJ3_ok : ∀ k, k < 0 → parseFieldDescriptor (TJ3 k).2.2.1 = some (tyJ3 k) := by decide +kernel
abbrev cJ3_checkIndex_8e157 : ByteArray := prog_46_method_11_code
def yJ3_checkIndex_8e157 : MethodName := ⟨RJ3, "checkIndex", "(IILjava/util/function/BiFunction;)I"⟩
def RL : String := "GenericwoodLaw"
abbrev cL_condition : ByteArray := method_3_code
def yL_condition : MethodName := ⟨RL, "condition", "(LGenericwood;[J)I"⟩
abbrev cL_under : ByteArray := method_4_code
def yL_under : MethodName := ⟨RL, "under", "(LGenericwood;II[J)I"⟩
abbrev cL_isBelow : ByteArray := method_5_code
def yL_isBelow : MethodName := ⟨RL, "isBelow", "(LGenericwood;II[J)I"⟩
abbrev cL_fit : ByteArray := method_6_code
def yL_fit : MethodName := ⟨RL, "fit", "(LGenericwood;II[J)I"⟩
abbrev cL_isAntichain : ByteArray := method_7_code
def yL_isAntichain : MethodName := ⟨RL, "isAntichain", "(LGenericwood;I[J)I"⟩
abbrev cL_isDense : ByteArray := method_8_code
def yL_isDense : MethodName := ⟨RL, "isDense", "(LGenericwood;I[J)I"⟩
abbrev cL_isFilter : ByteArray := method_9_code
def yL_isFilter : MethodName := ⟨RL, "isFilter", "(LGenericwood;I[J)I"⟩
abbrev cL_cut : ByteArray := method_10_code
def yL_cut : MethodName := ⟨RL, "cut", "(LGenericwood;I[J)I"⟩
abbrev cL_closure : ByteArray := method_11_code
def yL_closure : MethodName := ⟨RL, "closure", "(LGenericwood;I[J)I"⟩
abbrev cL_filterOf : ByteArray := method_12_code
def yL_filterOf : MethodName := ⟨RL, "filterOf", "(LGenericwood;I[J)I"⟩
abbrev cL_name : ByteArray := method_13_code
def yL_name : MethodName := ⟨RL, "name", "(LGenericwood;[J)I"⟩
abbrev cL_pair : ByteArray := method_14_code
def yL_pair : MethodName := ⟨RL, "pair", "(LGenericwood;III[J)I"⟩
abbrev cL_unpair : ByteArray := method_15_code
def yL_unpair : MethodName := ⟨RL, "unpair", "(LGenericwood;I[J)I"⟩
abbrev cL_rank : ByteArray := method_16_code
def yL_rank : MethodName := ⟨RL, "rank", "(LGenericwood;I[J)I"⟩
abbrev cL_standard : ByteArray := method_17_code
def yL_standard : MethodName := ⟨RL, "standard", "(LGenericwood;I[J)I"⟩
abbrev cL_becomes : ByteArray := method_18_code
def yL_becomes : MethodName := ⟨RL, "becomes", "(LGenericwood;II[J)I"⟩
abbrev cL_valueIn : ByteArray := method_19_code
def yL_valueIn : MethodName := ⟨RL, "valueIn", "(LGenericwood;II[J)I"⟩
abbrev cL_valueLike : ByteArray := method_20_code
def yL_valueLike : MethodName := ⟨RL, "valueLike", "(LGenericwood;II[J)I"⟩
abbrev cL_forcesIn : ByteArray := method_21_code
def yL_forcesIn : MethodName := ⟨RL, "forcesIn", "(LGenericwood;III[J)I"⟩
abbrev cL_forcesLike : ByteArray := method_22_code
def yL_forcesLike : MethodName := ⟨RL, "forcesLike", "(LGenericwood;III[J)I"⟩
abbrev cL_mix : ByteArray := method_23_code
def yL_mix : MethodName := ⟨RL, "mix", "(LGenericwood;IIII[J)I"⟩
abbrev cL_atom : ByteArray := method_24_code
def yL_atom : MethodName := ⟨RL, "atom", "(LGenericwood;CII[J)I"⟩
abbrev cL_both : ByteArray := method_25_code
def yL_both : MethodName := ⟨RL, "both", "(LGenericwood;CII[J)I"⟩
abbrev cL_not : ByteArray := method_26_code
def yL_not : MethodName := ⟨RL, "not", "(LGenericwood;I[J)I"⟩
abbrev cL_bind : ByteArray := method_27_code
def yL_bind : MethodName := ⟨RL, "bind", "(LGenericwood;CIII[J)I"⟩
abbrev cL_free : ByteArray := method_28_code
def yL_free : MethodName := ⟨RL, "free", "(LGenericwood;I[J)I"⟩
abbrev cL_value : ByteArray := method_29_code
def yL_value : MethodName := ⟨RL, "value", "(LGenericwood;I[J)I"⟩
abbrev cL_forces : ByteArray := method_30_code
def yL_forces : MethodName := ⟨RL, "forces", "(LGenericwood;II[J)I"⟩
abbrev cL_weakly : ByteArray := method_31_code
def yL_weakly : MethodName := ⟨RL, "weakly", "(LGenericwood;II[J)I"⟩
abbrev cL_holds : ByteArray := method_32_code
def yL_holds : MethodName := ⟨RL, "holds", "(LGenericwood;II[J)I"⟩
abbrev cL_against : ByteArray := method_33_code
def yL_against : MethodName := ⟨RL, "against", "(LGenericwood;I[J)I"⟩
abbrev cL_swap : ByteArray := method_34_code
def yL_swap : MethodName := ⟨RL, "swap", "(LGenericwood;II[J)I"⟩
abbrev cL_goes : ByteArray := method_35_code
def yL_goes : MethodName := ⟨RL, "goes", "(LGenericwood;I[J)I"⟩
abbrev cL_isFixed : ByteArray := method_36_code
def yL_isFixed : MethodName := ⟨RL, "isFixed", "(LGenericwood;I[J)I"⟩
abbrev cL_lastShare : ByteArray := method_37_code
def yL_lastShare : MethodName := ⟨RL, "lastShare", "(LGenericwood;[D)I"⟩
abbrev cL_meanRank : ByteArray := method_38_code
def yL_meanRank : MethodName := ⟨RL, "meanRank", "(LGenericwood;[D)I"⟩
abbrev cL_law : ByteArray := code
def yL_law : MethodName := ⟨RL, "law", "([I)Z"⟩
abbrev vwCl : List vw_C := [(RJ6, TJ6, 1), (RJx35411, TJx35411, 4), (RJx4a65c, TJx4a65c, 3), (RX0, TX0, 7), (RX1, TX1, 7), (RX2, TX2, 9), (RX3, TX3, 5), (RX4, TX4, 7), (RX6, TX6, 7), (RX7, TX7, 5), (RX8, TX8, 7), (RX9, TX9, 6), (RX10, TX10, 2), (RX11, TX11, 5)]
