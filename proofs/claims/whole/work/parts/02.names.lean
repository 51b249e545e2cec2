/-! ===== BEGIN printed: names, fields, word lists, decode rows ===== -/
def RX0 : String := "DomainKeys"
def TX0 : u_T := fun k => match k with
  | 0 => ("DomainKeys", "candidateP", "I", false)
  | 1 => ("DomainKeys", "candidateQ", "I", false)
  | 2 => ("DomainKeys", "candidateSeed", "J", false)
  | 3 => ("DomainKeys", "candidateCounter", "I", false)
  | 4 => ("DomainKeys", "domainP", "I", false)
  | 5 => ("DomainKeys", "domainQ", "I", false)
  | 6 => ("DomainKeys", "domainG", "I", false)
  | 7 => ("DomainKeys", "secrets", "[I", true)
  | _ => ("DomainKeys", "publicNumbers", "[I", true)
def tyX0 : Nat → FieldType := fun k => match k with
  | 0 => .int
  | 1 => .int
  | 2 => .long
  | 3 => .int
  | 4 => .int
  | 5 => .int
  | 6 => .int
  | 7 => .array .int
  | _ => .array .int
abbrev wsX00 : List Cond := u_ws RX0 TX0 9
theorem nmX0 : ∀ a, a < 9 → ∀ b, b < 9 → a ≠ b → (TX0 a).2.1 ≠ (TX0 b).2.1 := by decide +kernel
theorem tyX0_ok : ∀ k, k < 9 → parseFieldDescriptor (TX0 k).2.2.1 = some (tyX0 k) := by decide +kernel
abbrev cX0_init : ByteArray := prog_1_method_1_code
def yX0_init : MethodName := ⟨RX0, "<init>", "()V"⟩
abbrev cX0_generate : ByteArray := prog_1_method_2_code
def yX0_generate : MethodName := ⟨RX0, "generate", "(J)I"⟩
abbrev cX0_candidate : ByteArray := prog_1_method_3_code
def yX0_candidate : MethodName := ⟨RX0, "candidate", "(I)J"⟩
abbrev cX0_generator : ByteArray := prog_1_method_4_code
def yX0_generator : MethodName := ⟨RX0, "generator", "(I)I"⟩
abbrev cX0_valid : ByteArray := prog_1_method_5_code
def yX0_valid : MethodName := ⟨RX0, "valid", "(IIJI)Z"⟩
abbrev cX0_adopt : ByteArray := prog_1_method_6_code
def yX0_adopt : MethodName := ⟨RX0, "adopt", "(III)V"⟩
abbrev cX0_domain : ByteArray := prog_1_method_7_code
def yX0_domain : MethodName := ⟨RX0, "domain", "(I)I"⟩
abbrev cX0_key : ByteArray := prog_1_method_8_code
def yX0_key : MethodName := ⟨RX0, "key", "(II)I"⟩
abbrev cX0_publicNumber : ByteArray := prog_1_method_9_code
def yX0_publicNumber : MethodName := ⟨RX0, "publicNumber", "(I)I"⟩
abbrev cX0_forget : ByteArray := prog_1_method_10_code
def yX0_forget : MethodName := ⟨RX0, "forget", "(I)V"⟩
abbrev cX0_fits : ByteArray := prog_1_method_11_code
def yX0_fits : MethodName := ⟨RX0, "fits", "(I)Z"⟩
abbrev cX0_digest : ByteArray := prog_1_method_12_code
def yX0_digest : MethodName := ⟨RX0, "digest", "(J)I"⟩
abbrev cX0_sign : ByteArray := prog_1_method_13_code
def yX0_sign : MethodName := ⟨RX0, "sign", "(IJI)J"⟩
abbrev cX0_verify : ByteArray := prog_1_method_14_code
def yX0_verify : MethodName := ⟨RX0, "verify", "(IJII)Z"⟩
abbrev cX0_agree : ByteArray := prog_1_method_15_code
def yX0_agree : MethodName := ⟨RX0, "agree", "(II)I"⟩
abbrev cX0_requireDomain : ByteArray := prog_1_method_16_code
def yX0_requireDomain : MethodName := ⟨RX0, "requireDomain", "()V"⟩
abbrev cX0_requireKey : ByteArray := prog_1_method_17_code
def yX0_requireKey : MethodName := ⟨RX0, "requireKey", "(I)V"⟩
abbrev cX0_clearSlot : ByteArray := prog_1_method_18_code
def yX0_clearSlot : MethodName := ⟨RX0, "clearSlot", "(I)V"⟩
abbrev cX0_isExponent : ByteArray := prog_1_method_19_code
def yX0_isExponent : MethodName := ⟨RX0, "isExponent", "(I)Z"⟩
abbrev cX0_isPeer : ByteArray := prog_1_method_20_code
def yX0_isPeer : MethodName := ⟨RX0, "isPeer", "(I)Z"⟩
abbrev cX0_isSlot : ByteArray := prog_1_method_21_code
def yX0_isSlot : MethodName := ⟨RX0, "isSlot", "(I)Z"⟩
abbrev cX0_isDomain : ByteArray := prog_1_method_22_code
def yX0_isDomain : MethodName := ⟨RX0, "isDomain", "(III)Z"⟩
abbrev cX0_counterFrom : ByteArray := prog_1_method_23_code
def yX0_counterFrom : MethodName := ⟨RX0, "counterFrom", "(J)I"⟩
abbrev cX0_orderFrom : ByteArray := prog_1_method_24_code
def yX0_orderFrom : MethodName := ⟨RX0, "orderFrom", "(J)I"⟩
abbrev cX0_fieldTry : ByteArray := prog_1_method_25_code
def yX0_fieldTry : MethodName := ⟨RX0, "fieldTry", "(JII)I"⟩
abbrev cX0_generatorFrom : ByteArray := prog_1_method_26_code
def yX0_generatorFrom : MethodName := ⟨RX0, "generatorFrom", "(JII)I"⟩
abbrev cX0_isPrime : ByteArray := prog_1_method_27_code
def yX0_isPrime : MethodName := ⟨RX0, "isPrime", "(I)Z"⟩
abbrev cX0_power : ByteArray := prog_1_method_28_code
def yX0_power : MethodName := ⟨RX0, "power", "(III)I"⟩
abbrev cX0_inverse : ByteArray := prog_1_method_29_code
def yX0_inverse : MethodName := ⟨RX0, "inverse", "(II)I"⟩
abbrev cX0_mix : ByteArray := prog_1_method_30_code
def yX0_mix : MethodName := ⟨RX0, "mix", "(JJ)J"⟩
def RX1 : String := "DomainKeysModel"
def TX1 : u_T := fun k => match k with
  | 0 => ("DomainKeysModel", "madeP", "I", false)
  | 1 => ("DomainKeysModel", "madeQ", "I", false)
  | 2 => ("DomainKeysModel", "outcome", "I", false)
  | 3 => ("DomainKeysModel", "hasCandidate", "Z", false)
  | 4 => ("DomainKeysModel", "seed", "J", false)
  | 5 => ("DomainKeysModel", "candidateP", "I", false)
  | 6 => ("DomainKeysModel", "candidateQ", "I", false)
  | 7 => ("DomainKeysModel", "candidateCounter", "I", false)
  | 8 => ("DomainKeysModel", "p", "I", false)
  | 9 => ("DomainKeysModel", "q", "I", false)
  | 10 => ("DomainKeysModel", "g", "I", false)
  | 11 => ("DomainKeysModel", "secrets", "[I", true)
  | _ => ("DomainKeysModel", "thrown", "I", false)
def tyX1 : Nat → FieldType := fun k => match k with
  | 0 => .int
  | 1 => .int
  | 2 => .int
  | 3 => .boolean
  | 4 => .long
  | 5 => .int
  | 6 => .int
  | 7 => .int
  | 8 => .int
  | 9 => .int
  | 10 => .int
  | 11 => .array .int
  | _ => .int
abbrev wsX10 : List Cond := u_ws RX1 TX1 13
theorem nmX1 : ∀ a, a < 13 → ∀ b, b < 13 → a ≠ b → (TX1 a).2.1 ≠ (TX1 b).2.1 := by decide +kernel
theorem tyX1_ok : ∀ k, k < 13 → parseFieldDescriptor (TX1 k).2.2.1 = some (tyX1 k) := by decide +kernel
abbrev cX1_init : ByteArray := prog_3_method_1_code
def yX1_init : MethodName := ⟨RX1, "<init>", "()V"⟩
abbrev cX1_thrown : ByteArray := prog_3_method_2_code
def yX1_thrown : MethodName := ⟨RX1, "thrown", "()I"⟩
abbrev cX1_h : ByteArray := prog_3_method_3_code
def yX1_h : MethodName := ⟨RX1, "h", "(JJ)J"⟩
abbrev cX1_prime : ByteArray := prog_3_method_4_code
def yX1_prime : MethodName := ⟨RX1, "prime", "(I)Z"⟩
abbrev cX1_power : ByteArray := prog_3_method_5_code
def yX1_power : MethodName := ⟨RX1, "power", "(JJJ)J"⟩
abbrev cX1_make : ByteArray := prog_3_method_6_code
def yX1_make : MethodName := ⟨RX1, "make", "(J)V"⟩
abbrev cX1_generate : ByteArray := prog_3_method_7_code
def yX1_generate : MethodName := ⟨RX1, "generate", "(J)I"⟩
abbrev cX1_candidate : ByteArray := prog_3_method_8_code
def yX1_candidate : MethodName := ⟨RX1, "candidate", "(I)J"⟩
abbrev cX1_generator : ByteArray := prog_3_method_9_code
def yX1_generator : MethodName := ⟨RX1, "generator", "(I)I"⟩
abbrev cX1_valid : ByteArray := prog_3_method_10_code
def yX1_valid : MethodName := ⟨RX1, "valid", "(IIJI)Z"⟩
abbrev cX1_adopt : ByteArray := prog_3_method_11_code
def yX1_adopt : MethodName := ⟨RX1, "adopt", "(III)V"⟩
abbrev cX1_domain : ByteArray := prog_3_method_12_code
def yX1_domain : MethodName := ⟨RX1, "domain", "(I)I"⟩
abbrev cX1_hasKey : ByteArray := prog_3_method_13_code
def yX1_hasKey : MethodName := ⟨RX1, "hasKey", "(I)Z"⟩
abbrev cX1_key : ByteArray := prog_3_method_14_code
def yX1_key : MethodName := ⟨RX1, "key", "(II)I"⟩
abbrev cX1_publicNumber : ByteArray := prog_3_method_15_code
def yX1_publicNumber : MethodName := ⟨RX1, "publicNumber", "(I)I"⟩
abbrev cX1_forget : ByteArray := prog_3_method_16_code
def yX1_forget : MethodName := ⟨RX1, "forget", "(I)V"⟩
abbrev cX1_fits : ByteArray := prog_3_method_17_code
def yX1_fits : MethodName := ⟨RX1, "fits", "(I)Z"⟩
abbrev cX1_digestOf : ByteArray := prog_3_method_18_code
def yX1_digestOf : MethodName := ⟨RX1, "digestOf", "(J)J"⟩
abbrev cX1_digest : ByteArray := prog_3_method_19_code
def yX1_digest : MethodName := ⟨RX1, "digest", "(J)I"⟩
abbrev cX1_sign : ByteArray := prog_3_method_20_code
def yX1_sign : MethodName := ⟨RX1, "sign", "(IJI)J"⟩
abbrev cX1_verify : ByteArray := prog_3_method_21_code
def yX1_verify : MethodName := ⟨RX1, "verify", "(IJII)Z"⟩
abbrev cX1_agree : ByteArray := prog_3_method_22_code
def yX1_agree : MethodName := ⟨RX1, "agree", "(II)I"⟩
def RJ0 : String := "java/lang/String"
def TJ0 : u_T := fun k => match k with
  | _ => ("", "", "", false)
def tyJ0 : Nat → FieldType := fun k => match k with
  | _ => .int
abbrev wsJ00 : List Cond := u_ws RJ0 TJ0 0
theorem nmJ0 : ∀ a, a < 0 → ∀ b, b < 0 → a ≠ b → (TJ0 a).2.1 ≠ (TJ0 b).2.1 := by decide +kernel
theorem tyJ0_ok : ∀ k, k < 0 → parseFieldDescriptor (TJ0 k).2.2.1 = some (tyJ0 k) := by decide +kernel
def RL : String := "DomainKeysLaw"
abbrev cL_generator : ByteArray := method_3_code
def yL_generator : MethodName := ⟨RL, "generator", "(LDomainKeys;I[J)I"⟩
abbrev cL_adopt : ByteArray := method_4_code
def yL_adopt : MethodName := ⟨RL, "adopt", "(LDomainKeys;III)I"⟩
abbrev cL_key : ByteArray := method_5_code
def yL_key : MethodName := ⟨RL, "key", "(LDomainKeys;II[J)I"⟩
abbrev cL_publicNumber : ByteArray := method_6_code
def yL_publicNumber : MethodName := ⟨RL, "publicNumber", "(LDomainKeys;I[J)I"⟩
abbrev cL_forget : ByteArray := method_7_code
def yL_forget : MethodName := ⟨RL, "forget", "(LDomainKeys;I)I"⟩
abbrev cL_fits : ByteArray := method_8_code
def yL_fits : MethodName := ⟨RL, "fits", "(LDomainKeys;I[J)I"⟩
abbrev cL_sign : ByteArray := method_9_code
def yL_sign : MethodName := ⟨RL, "sign", "(LDomainKeys;IJI[J)I"⟩
abbrev cL_verify : ByteArray := method_10_code
def yL_verify : MethodName := ⟨RL, "verify", "(LDomainKeys;IJII[J)I"⟩
abbrev cL_agree : ByteArray := method_11_code
def yL_agree : MethodName := ⟨RL, "agree", "(LDomainKeys;II[J)I"⟩
abbrev cL_law : ByteArray := code
def yL_law : MethodName := ⟨RL, "law", "([I)Z"⟩
def wsX0_init : List Cond := .code yX0_init cX0_init 1 none :: ([.methodLink RX0 1 objectInit, .instanceMethod objectInit, .code objectInit ⟨#[0xb1]⟩ 1 none, .arrayClass .int, .fieldLink RX0 9 "DomainKeys" "secrets" "[I", .fieldLink RX0 13 "DomainKeys" "publicNumbers" "[I"] ++ wsX00)
def wsX0_mix : List Cond := .code yX0_mix cX0_mix 6 (some .long) :: ([.constantLong RX0 138 (1442695040888963407), .constantLong RX0 140 (6364136223846793005), .constantLong RX0 142 (2862933555777941757)])
def wsX0_orderFrom : List Cond := .code yX0_orderFrom cX0_orderFrom 2 (some .int) :: ([.methodLink RX0 53 yX0_mix, .static yX0_mix, .initialized RX0, .code yX0_mix cX0_mix 6 (some .long), .constantLong RX0 138 (1442695040888963407), .constantLong RX0 140 (6364136223846793005), .constantLong RX0 142 (2862933555777941757)])
def wsX0_isPrime : List Cond := .code yX0_isPrime cX0_isPrime 2 (some .boolean) :: ([.constant RX0 137 (46340)])
def wsX0_fieldTry : List Cond := .code yX0_fieldTry cX0_fieldTry 6 (some .int) :: ([.constantLong RX0 135 (1073741824), .methodLink RX0 53 yX0_mix, .static yX0_mix, .initialized RX0, .code yX0_mix cX0_mix 6 (some .long), .constantLong RX0 138 (1442695040888963407), .constantLong RX0 140 (6364136223846793005), .constantLong RX0 142 (2862933555777941757)])
def wsX0_counterFrom : List Cond := .code yX0_counterFrom cX0_counterFrom 5 (some .int) :: ([.constant RX0 134 (1073741824), .methodLink RX0 20 yX0_orderFrom, .static yX0_orderFrom, .initialized RX0, .code yX0_orderFrom cX0_orderFrom 2 (some .int), .methodLink RX0 53 yX0_mix, .static yX0_mix, .code yX0_mix cX0_mix 6 (some .long), .constantLong RX0 138 (1442695040888963407), .constantLong RX0 140 (6364136223846793005), .constantLong RX0 142 (2862933555777941757), .methodLink RX0 131 yX0_isPrime, .static yX0_isPrime, .code yX0_isPrime cX0_isPrime 2 (some .boolean), .constant RX0 137 (46340), .methodLink RX0 27 yX0_fieldTry, .static yX0_fieldTry, .code yX0_fieldTry cX0_fieldTry 6 (some .int), .constantLong RX0 135 (1073741824)])
def wsX0_generate_r1 : List Cond := [Cond.fieldLink RX0 23 "DomainKeys" "candidateQ" "I", Cond.fieldLink RX0 31 "DomainKeys" "candidateP" "I", Cond.fieldLink RX0 34 "DomainKeys" "candidateSeed" "J", Cond.fieldLink RX0 38 "DomainKeys" "candidateCounter" "I", Cond.methodLink RX0 16 yX0_counterFrom, Cond.static yX0_counterFrom, Cond.initialized RX0, Cond.code yX0_counterFrom cX0_counterFrom 5 (some .int), Cond.constant RX0 134 (1073741824), Cond.methodLink RX0 20 yX0_orderFrom, Cond.static yX0_orderFrom, Cond.code yX0_orderFrom cX0_orderFrom 2 (some .int), Cond.methodLink RX0 53 yX0_mix, Cond.static yX0_mix, Cond.code yX0_mix cX0_mix 6 (some .long), Cond.constantLong RX0 138 (1442695040888963407), Cond.constantLong RX0 140 (6364136223846793005), Cond.constantLong RX0 142 (2862933555777941757), Cond.methodLink RX0 131 yX0_isPrime, Cond.static yX0_isPrime, Cond.code yX0_isPrime cX0_isPrime 2 (some .boolean), Cond.constant RX0 137 (46340), Cond.methodLink RX0 27 yX0_fieldTry, Cond.static yX0_fieldTry]
def wsX0_generate_r2 : List Cond := [Cond.code yX0_fieldTry cX0_fieldTry 6 (some .int), Cond.constantLong RX0 135 (1073741824)]
def wsX0_generate : List Cond := .code yX0_generate cX0_generate 4 (some .int) :: ((wsX0_generate_r1 ++ wsX0_generate_r2) ++ wsX00)
def wsX0_candidate : List Cond := .code yX0_candidate cX0_candidate 2 (some .long) :: ([.fieldLink RX0 31 "DomainKeys" "candidateP" "I", .fieldLink RX0 23 "DomainKeys" "candidateQ" "I", .fieldLink RX0 34 "DomainKeys" "candidateSeed" "J", .fieldLink RX0 38 "DomainKeys" "candidateCounter" "I"] ++ wsX00)
def wsX0_power : List Cond := .code yX0_power cX0_power 6 (some .int) :: ([])
def wsX0_generatorFrom : List Cond := .code yX0_generatorFrom cX0_generatorFrom 7 (some .int) :: ([.methodLink RX0 53 yX0_mix, .static yX0_mix, .initialized RX0, .code yX0_mix cX0_mix 6 (some .long), .constantLong RX0 138 (1442695040888963407), .constantLong RX0 140 (6364136223846793005), .constantLong RX0 142 (2862933555777941757), .methodLink RX0 96 yX0_power, .static yX0_power, .code yX0_power cX0_power 6 (some .int)])
def wsX0_generator : List Cond := .code yX0_generator cX0_generator 4 (some .int) :: ([.classLink RX0 41 "java/lang/IllegalStateException", .initialized "java/lang/IllegalStateException", .classLink RX0 48 "java/lang/IllegalArgumentException", .initialized "java/lang/IllegalArgumentException", .fieldLink RX0 31 "DomainKeys" "candidateP" "I", .fieldLink RX0 34 "DomainKeys" "candidateSeed" "J", .fieldLink RX0 23 "DomainKeys" "candidateQ" "I", .methodLink RX0 53 yX0_mix, .static yX0_mix, .initialized RX0, .code yX0_mix cX0_mix 6 (some .long), .constantLong RX0 138 (1442695040888963407), .constantLong RX0 140 (6364136223846793005), .constantLong RX0 142 (2862933555777941757), .methodLink RX0 57 yX0_generatorFrom, .static yX0_generatorFrom, .code yX0_generatorFrom cX0_generatorFrom 7 (some .int), .methodLink RX0 96 yX0_power, .static yX0_power, .code yX0_power cX0_power 6 (some .int)] ++ wsX00 ++ (vx_atS RX0 45 "java/lang/IllegalStateException" ["java/lang/RuntimeException", "java/lang/Exception"]).filter goodWord ++ (vx_atS RX0 52 "java/lang/IllegalArgumentException" ["java/lang/RuntimeException", "java/lang/Exception"]).filter goodWord)
def wsX0_valid : List Cond := .code yX0_valid cX0_valid 6 (some .boolean) :: ([.methodLink RX0 20 yX0_orderFrom, .static yX0_orderFrom, .initialized RX0, .code yX0_orderFrom cX0_orderFrom 2 (some .int), .methodLink RX0 53 yX0_mix, .static yX0_mix, .code yX0_mix cX0_mix 6 (some .long), .constantLong RX0 138 (1442695040888963407), .constantLong RX0 140 (6364136223846793005), .constantLong RX0 142 (2862933555777941757), .methodLink RX0 16 yX0_counterFrom, .static yX0_counterFrom, .code yX0_counterFrom cX0_counterFrom 5 (some .int), .constant RX0 134 (1073741824), .methodLink RX0 131 yX0_isPrime, .static yX0_isPrime, .code yX0_isPrime cX0_isPrime 2 (some .boolean), .constant RX0 137 (46340), .methodLink RX0 27 yX0_fieldTry, .static yX0_fieldTry, .code yX0_fieldTry cX0_fieldTry 6 (some .int), .constantLong RX0 135 (1073741824)])
def wsX0_isDomain : List Cond := .code yX0_isDomain cX0_isDomain 3 (some .boolean) :: ([.methodLink RX0 131 yX0_isPrime, .static yX0_isPrime, .initialized RX0, .code yX0_isPrime cX0_isPrime 2 (some .boolean), .constant RX0 137 (46340), .methodLink RX0 96 yX0_power, .static yX0_power, .code yX0_power cX0_power 6 (some .int)])
def wsX0_clearSlot : List Cond := .code yX0_clearSlot cX0_clearSlot 2 none :: ([.fieldLink RX0 9 "DomainKeys" "secrets" "[I", .fieldLink RX0 13 "DomainKeys" "publicNumbers" "[I"] ++ wsX00)
def wsX0_adopt : List Cond := .code yX0_adopt cX0_adopt 5 none :: ([.classLink RX0 48 "java/lang/IllegalArgumentException", .initialized "java/lang/IllegalArgumentException", .fieldLink RX0 66 "DomainKeys" "domainP" "I", .fieldLink RX0 69 "DomainKeys" "domainQ" "I", .fieldLink RX0 72 "DomainKeys" "domainG" "I", .methodLink RX0 60 yX0_isDomain, .static yX0_isDomain, .initialized RX0, .code yX0_isDomain cX0_isDomain 3 (some .boolean), .methodLink RX0 131 yX0_isPrime, .static yX0_isPrime, .code yX0_isPrime cX0_isPrime 2 (some .boolean), .constant RX0 137 (46340), .methodLink RX0 96 yX0_power, .static yX0_power, .code yX0_power cX0_power 6 (some .int), .methodLink RX0 75 yX0_clearSlot, .instanceMethod yX0_clearSlot, .selects RX0 yX0_clearSlot yX0_clearSlot, .code yX0_clearSlot cX0_clearSlot 2 none, .fieldLink RX0 9 "DomainKeys" "secrets" "[I", .fieldLink RX0 13 "DomainKeys" "publicNumbers" "[I"] ++ wsX00 ++ (vx_atS RX0 52 "java/lang/IllegalArgumentException" ["java/lang/RuntimeException", "java/lang/Exception"]).filter goodWord)
def wsX0_domain : List Cond := .code yX0_domain cX0_domain 2 (some .int) :: ([.fieldLink RX0 66 "DomainKeys" "domainP" "I", .fieldLink RX0 69 "DomainKeys" "domainQ" "I", .fieldLink RX0 72 "DomainKeys" "domainG" "I"] ++ wsX00)
def wsX0_requireDomain : List Cond := .code yX0_requireDomain cX0_requireDomain 1 none :: ([.classLink RX0 41 "java/lang/IllegalStateException", .initialized "java/lang/IllegalStateException", .fieldLink RX0 66 "DomainKeys" "domainP" "I"] ++ wsX00 ++ (vx_atS RX0 45 "java/lang/IllegalStateException" ["java/lang/RuntimeException", "java/lang/Exception"]).filter goodWord)
def wsX0_isSlot : List Cond := .code yX0_isSlot cX0_isSlot 1 (some .boolean) :: ([])
def wsX0_isExponent : List Cond := .code yX0_isExponent cX0_isExponent 2 (some .boolean) :: ([.fieldLink RX0 69 "DomainKeys" "domainQ" "I"] ++ wsX00)
def wsX0_key_r1 : List Cond := [Cond.classLink RX0 86 "java/lang/IndexOutOfBoundsException", Cond.initialized "java/lang/IndexOutOfBoundsException", Cond.classLink RX0 48 "java/lang/IllegalArgumentException", Cond.initialized "java/lang/IllegalArgumentException", Cond.fieldLink RX0 9 "DomainKeys" "secrets" "[I", Cond.fieldLink RX0 13 "DomainKeys" "publicNumbers" "[I", Cond.fieldLink RX0 72 "DomainKeys" "domainG" "I", Cond.fieldLink RX0 66 "DomainKeys" "domainP" "I", Cond.methodLink RX0 79 yX0_requireDomain, Cond.instanceMethod yX0_requireDomain, Cond.selects RX0 yX0_requireDomain yX0_requireDomain, Cond.initialized RX0, Cond.code yX0_requireDomain cX0_requireDomain 1 none, Cond.classLink RX0 41 "java/lang/IllegalStateException", Cond.initialized "java/lang/IllegalStateException", Cond.methodLink RX0 82 yX0_isSlot, Cond.static yX0_isSlot, Cond.code yX0_isSlot cX0_isSlot 1 (some .boolean), Cond.methodLink RX0 91 yX0_isExponent, Cond.instanceMethod yX0_isExponent, Cond.selects RX0 yX0_isExponent yX0_isExponent, Cond.code yX0_isExponent cX0_isExponent 2 (some .boolean), Cond.fieldLink RX0 69 "DomainKeys" "domainQ" "I", Cond.methodLink RX0 96 yX0_power]
def wsX0_key_r2 : List Cond := [Cond.static yX0_power, Cond.code yX0_power cX0_power 6 (some .int)]
def wsX0_key : List Cond := .code yX0_key cX0_key 3 (some .int) :: ((wsX0_key_r1 ++ wsX0_key_r2) ++ wsX00 ++ (vx_atS RX0 90 "java/lang/IndexOutOfBoundsException" ["java/lang/RuntimeException", "java/lang/Exception"]).filter goodWord ++ (vx_atS RX0 52 "java/lang/IllegalArgumentException" ["java/lang/RuntimeException", "java/lang/Exception"]).filter goodWord ++ (vx_atS RX0 45 "java/lang/IllegalStateException" ["java/lang/RuntimeException", "java/lang/Exception"]).filter goodWord)
def wsX0_requireKey : List Cond := .code yX0_requireKey cX0_requireKey 2 none :: ([.classLink RX0 126 "java/util/NoSuchElementException", .initialized "java/util/NoSuchElementException", .fieldLink RX0 9 "DomainKeys" "secrets" "[I", .methodLink RX0 82 yX0_isSlot, .static yX0_isSlot, .initialized RX0, .code yX0_isSlot cX0_isSlot 1 (some .boolean)] ++ wsX00 ++ (dk_atX RX0 130 "java/util/NoSuchElementException" ["java/lang/RuntimeException", "java/lang/Exception"]).filter goodWord)
def wsX0_publicNumber : List Cond := .code yX0_publicNumber cX0_publicNumber 2 (some .int) :: ([.fieldLink RX0 13 "DomainKeys" "publicNumbers" "[I", .methodLink RX0 100 yX0_requireKey, .instanceMethod yX0_requireKey, .selects RX0 yX0_requireKey yX0_requireKey, .initialized RX0, .code yX0_requireKey cX0_requireKey 2 none, .classLink RX0 126 "java/util/NoSuchElementException", .initialized "java/util/NoSuchElementException", .fieldLink RX0 9 "DomainKeys" "secrets" "[I", .methodLink RX0 82 yX0_isSlot, .static yX0_isSlot, .code yX0_isSlot cX0_isSlot 1 (some .boolean)] ++ wsX00 ++ (dk_atX RX0 130 "java/util/NoSuchElementException" ["java/lang/RuntimeException", "java/lang/Exception"]).filter goodWord)
def wsX0_forget : List Cond := .code yX0_forget cX0_forget 2 none :: ([.methodLink RX0 100 yX0_requireKey, .instanceMethod yX0_requireKey, .selects RX0 yX0_requireKey yX0_requireKey, .initialized RX0, .code yX0_requireKey cX0_requireKey 2 none, .classLink RX0 126 "java/util/NoSuchElementException", .initialized "java/util/NoSuchElementException", .fieldLink RX0 9 "DomainKeys" "secrets" "[I", .methodLink RX0 82 yX0_isSlot, .static yX0_isSlot, .code yX0_isSlot cX0_isSlot 1 (some .boolean), .methodLink RX0 75 yX0_clearSlot, .instanceMethod yX0_clearSlot, .selects RX0 yX0_clearSlot yX0_clearSlot, .code yX0_clearSlot cX0_clearSlot 2 none, .fieldLink RX0 13 "DomainKeys" "publicNumbers" "[I"] ++ wsX00 ++ (dk_atX RX0 130 "java/util/NoSuchElementException" ["java/lang/RuntimeException", "java/lang/Exception"]).filter goodWord)
def wsX0_isPeer : List Cond := .code yX0_isPeer cX0_isPeer 2 (some .boolean) :: ([.fieldLink RX0 66 "DomainKeys" "domainP" "I"] ++ wsX00)
def wsX0_fits : List Cond := .code yX0_fits cX0_fits 2 (some .boolean) :: ([.fieldLink RX0 69 "DomainKeys" "domainQ" "I", .fieldLink RX0 66 "DomainKeys" "domainP" "I", .methodLink RX0 79 yX0_requireDomain, .instanceMethod yX0_requireDomain, .selects RX0 yX0_requireDomain yX0_requireDomain, .initialized RX0, .code yX0_requireDomain cX0_requireDomain 1 none, .classLink RX0 41 "java/lang/IllegalStateException", .initialized "java/lang/IllegalStateException", .methodLink RX0 103 yX0_isPeer, .instanceMethod yX0_isPeer, .selects RX0 yX0_isPeer yX0_isPeer, .code yX0_isPeer cX0_isPeer 2 (some .boolean), .methodLink RX0 96 yX0_power, .static yX0_power, .code yX0_power cX0_power 6 (some .int)] ++ wsX00 ++ (vx_atS RX0 45 "java/lang/IllegalStateException" ["java/lang/RuntimeException", "java/lang/Exception"]).filter goodWord)
def wsX0_digest : List Cond := .code yX0_digest cX0_digest 3 (some .int) :: ([.constantLong RX0 106 (3), .methodLink RX0 53 yX0_mix, .static yX0_mix, .initialized RX0, .code yX0_mix cX0_mix 6 (some .long), .constantLong RX0 138 (1442695040888963407), .constantLong RX0 140 (6364136223846793005), .constantLong RX0 142 (2862933555777941757)])
def wsX0_inverse : List Cond := .code yX0_inverse cX0_inverse 2 (some .int) :: ([.methodLink RX0 96 yX0_power, .static yX0_power, .initialized RX0, .code yX0_power cX0_power 6 (some .int)])
def wsX0_sign_r1 : List Cond := [Cond.classLink RX0 48 "java/lang/IllegalArgumentException", Cond.initialized "java/lang/IllegalArgumentException", Cond.classLink RX0 117 "java/lang/ArithmeticException", Cond.initialized "java/lang/ArithmeticException", Cond.fieldLink RX0 72 "DomainKeys" "domainG" "I", Cond.fieldLink RX0 66 "DomainKeys" "domainP" "I", Cond.fieldLink RX0 69 "DomainKeys" "domainQ" "I", Cond.fieldLink RX0 9 "DomainKeys" "secrets" "[I", Cond.methodLink RX0 100 yX0_requireKey, Cond.instanceMethod yX0_requireKey, Cond.selects RX0 yX0_requireKey yX0_requireKey, Cond.initialized RX0, Cond.code yX0_requireKey cX0_requireKey 2 none, Cond.classLink RX0 126 "java/util/NoSuchElementException", Cond.initialized "java/util/NoSuchElementException", Cond.methodLink RX0 82 yX0_isSlot, Cond.static yX0_isSlot, Cond.code yX0_isSlot cX0_isSlot 1 (some .boolean), Cond.methodLink RX0 91 yX0_isExponent, Cond.instanceMethod yX0_isExponent, Cond.selects RX0 yX0_isExponent yX0_isExponent, Cond.code yX0_isExponent cX0_isExponent 2 (some .boolean), Cond.methodLink RX0 96 yX0_power, Cond.static yX0_power]
def wsX0_sign_r2 : List Cond := [Cond.code yX0_power cX0_power 6 (some .int), Cond.methodLink RX0 110 yX0_digest, Cond.instanceMethod yX0_digest, Cond.selects RX0 yX0_digest yX0_digest, Cond.code yX0_digest cX0_digest 3 (some .int), Cond.constantLong RX0 106 (3), Cond.methodLink RX0 53 yX0_mix, Cond.static yX0_mix, Cond.code yX0_mix cX0_mix 6 (some .long), Cond.constantLong RX0 138 (1442695040888963407), Cond.constantLong RX0 140 (6364136223846793005), Cond.constantLong RX0 142 (2862933555777941757), Cond.methodLink RX0 113 yX0_inverse, Cond.static yX0_inverse, Cond.code yX0_inverse cX0_inverse 2 (some .int)]
def wsX0_sign : List Cond := .code yX0_sign cX0_sign 11 (some .long) :: ((wsX0_sign_r1 ++ wsX0_sign_r2) ++ wsX00 ++ (vx_atS RX0 52 "java/lang/IllegalArgumentException" ["java/lang/RuntimeException", "java/lang/Exception"]).filter goodWord ++ (vx_atS RX0 121 "java/lang/ArithmeticException" ["java/lang/RuntimeException", "java/lang/Exception"]).filter goodWord ++ (dk_atX RX0 130 "java/util/NoSuchElementException" ["java/lang/RuntimeException", "java/lang/Exception"]).filter goodWord)
def wsX0_verify_r1 : List Cond := [Cond.fieldLink RX0 66 "DomainKeys" "domainP" "I", Cond.fieldLink RX0 69 "DomainKeys" "domainQ" "I", Cond.fieldLink RX0 72 "DomainKeys" "domainG" "I", Cond.methodLink RX0 79 yX0_requireDomain, Cond.instanceMethod yX0_requireDomain, Cond.selects RX0 yX0_requireDomain yX0_requireDomain, Cond.initialized RX0, Cond.code yX0_requireDomain cX0_requireDomain 1 none, Cond.classLink RX0 41 "java/lang/IllegalStateException", Cond.initialized "java/lang/IllegalStateException", Cond.methodLink RX0 91 yX0_isExponent, Cond.instanceMethod yX0_isExponent, Cond.selects RX0 yX0_isExponent yX0_isExponent, Cond.code yX0_isExponent cX0_isExponent 2 (some .boolean), Cond.methodLink RX0 113 yX0_inverse, Cond.static yX0_inverse, Cond.code yX0_inverse cX0_inverse 2 (some .int), Cond.methodLink RX0 96 yX0_power, Cond.static yX0_power, Cond.code yX0_power cX0_power 6 (some .int), Cond.methodLink RX0 110 yX0_digest, Cond.instanceMethod yX0_digest, Cond.selects RX0 yX0_digest yX0_digest, Cond.code yX0_digest cX0_digest 3 (some .int)]
def wsX0_verify_r2 : List Cond := [Cond.constantLong RX0 106 (3), Cond.methodLink RX0 53 yX0_mix, Cond.static yX0_mix, Cond.code yX0_mix cX0_mix 6 (some .long), Cond.constantLong RX0 138 (1442695040888963407), Cond.constantLong RX0 140 (6364136223846793005), Cond.constantLong RX0 142 (2862933555777941757)]
def wsX0_verify : List Cond := .code yX0_verify cX0_verify 12 (some .boolean) :: ((wsX0_verify_r1 ++ wsX0_verify_r2) ++ wsX00 ++ (vx_atS RX0 45 "java/lang/IllegalStateException" ["java/lang/RuntimeException", "java/lang/Exception"]).filter goodWord)
def wsX0_agree : List Cond := .code yX0_agree cX0_agree 4 (some .int) :: ([.classLink RX0 48 "java/lang/IllegalArgumentException", .initialized "java/lang/IllegalArgumentException", .classLink RX0 117 "java/lang/ArithmeticException", .initialized "java/lang/ArithmeticException", .fieldLink RX0 9 "DomainKeys" "secrets" "[I", .fieldLink RX0 66 "DomainKeys" "domainP" "I", .methodLink RX0 100 yX0_requireKey, .instanceMethod yX0_requireKey, .selects RX0 yX0_requireKey yX0_requireKey, .initialized RX0, .code yX0_requireKey cX0_requireKey 2 none, .classLink RX0 126 "java/util/NoSuchElementException", .initialized "java/util/NoSuchElementException", .methodLink RX0 82 yX0_isSlot, .static yX0_isSlot, .code yX0_isSlot cX0_isSlot 1 (some .boolean), .methodLink RX0 103 yX0_isPeer, .instanceMethod yX0_isPeer, .selects RX0 yX0_isPeer yX0_isPeer, .code yX0_isPeer cX0_isPeer 2 (some .boolean), .methodLink RX0 96 yX0_power, .static yX0_power, .code yX0_power cX0_power 6 (some .int)] ++ wsX00 ++ (vx_atS RX0 52 "java/lang/IllegalArgumentException" ["java/lang/RuntimeException", "java/lang/Exception"]).filter goodWord ++ (vx_atS RX0 121 "java/lang/ArithmeticException" ["java/lang/RuntimeException", "java/lang/Exception"]).filter goodWord ++ (dk_atX RX0 130 "java/util/NoSuchElementException" ["java/lang/RuntimeException", "java/lang/Exception"]).filter goodWord)
def wsX1_init : List Cond := .code yX1_init cX1_init 1 none :: ([.methodLink RX1 1 objectInit, .instanceMethod objectInit, .code objectInit ⟨#[0xb1]⟩ 1 none, .arrayClass .int, .fieldLink RX1 7 "DomainKeysModel" "secrets" "[I"] ++ wsX10)
def wsX1_thrown : List Cond := .code yX1_thrown cX1_thrown 1 (some .int) :: ([.fieldLink RX1 13 "DomainKeysModel" "thrown" "I"] ++ wsX10)
def wsX1_h : List Cond := .code yX1_h cX1_h 6 (some .long) :: ([.constantLong RX1 17 (1442695040888963407), .constantLong RX1 19 (6364136223846793005), .constantLong RX1 21 (2862933555777941757)])
def wsX1_prime : List Cond := .code yX1_prime cX1_prime 3 (some .boolean) :: ([.constantLong RX1 23 (3), .constantLong RX1 25 (2)])
def wsX1_power : List Cond := .code yX1_power cX1_power 11 (some .long) :: ([])
def wsX1_make : List Cond := .code yX1_make cX1_make 10 none :: ([.fieldLink RX1 31 "DomainKeysModel" "madeQ" "I", .fieldLink RX1 38 "DomainKeysModel" "outcome" "I", .constantLong RX1 41 (1073741824), .constantLong RX1 25 (2), .fieldLink RX1 43 "DomainKeysModel" "madeP" "I", .methodLink RX1 27 yX1_h, .static yX1_h, .initialized RX1, .code yX1_h cX1_h 6 (some .long), .constantLong RX1 17 (1442695040888963407), .constantLong RX1 19 (6364136223846793005), .constantLong RX1 21 (2862933555777941757), .methodLink RX1 34 yX1_prime, .static yX1_prime, .code yX1_prime cX1_prime 3 (some .boolean), .constantLong RX1 23 (3)] ++ wsX10)
def wsX1_generate_r1 : List Cond := [Cond.fieldLink RX1 13 "DomainKeysModel" "thrown" "I", Cond.fieldLink RX1 38 "DomainKeysModel" "outcome" "I", Cond.fieldLink RX1 50 "DomainKeysModel" "hasCandidate" "Z", Cond.fieldLink RX1 54 "DomainKeysModel" "seed" "J", Cond.fieldLink RX1 43 "DomainKeysModel" "madeP" "I", Cond.fieldLink RX1 58 "DomainKeysModel" "candidateP" "I", Cond.fieldLink RX1 31 "DomainKeysModel" "madeQ" "I", Cond.fieldLink RX1 61 "DomainKeysModel" "candidateQ" "I", Cond.fieldLink RX1 64 "DomainKeysModel" "candidateCounter" "I", Cond.methodLink RX1 46 yX1_make, Cond.instanceMethod yX1_make, Cond.selects RX1 yX1_make yX1_make, Cond.initialized RX1, Cond.code yX1_make cX1_make 10 none, Cond.constantLong RX1 41 (1073741824), Cond.constantLong RX1 25 (2), Cond.methodLink RX1 27 yX1_h, Cond.static yX1_h, Cond.code yX1_h cX1_h 6 (some .long), Cond.constantLong RX1 17 (1442695040888963407), Cond.constantLong RX1 19 (6364136223846793005), Cond.constantLong RX1 21 (2862933555777941757), Cond.methodLink RX1 34 yX1_prime, Cond.static yX1_prime]
def wsX1_generate_r2 : List Cond := [Cond.code yX1_prime cX1_prime 3 (some .boolean), Cond.constantLong RX1 23 (3)]
def wsX1_generate : List Cond := .code yX1_generate cX1_generate 3 (some .int) :: ((wsX1_generate_r1 ++ wsX1_generate_r2) ++ wsX10)
def wsX1_candidate : List Cond := .code yX1_candidate cX1_candidate 2 (some .long) :: ([.fieldLink RX1 13 "DomainKeysModel" "thrown" "I", .fieldLink RX1 50 "DomainKeysModel" "hasCandidate" "Z", .fieldLink RX1 58 "DomainKeysModel" "candidateP" "I", .fieldLink RX1 61 "DomainKeysModel" "candidateQ" "I", .fieldLink RX1 54 "DomainKeysModel" "seed" "J", .fieldLink RX1 64 "DomainKeysModel" "candidateCounter" "I"] ++ wsX10)
def wsX1_generator : List Cond := .code yX1_generator cX1_generator 9 (some .int) :: ([.fieldLink RX1 50 "DomainKeysModel" "hasCandidate" "Z", .fieldLink RX1 13 "DomainKeysModel" "thrown" "I", .fieldLink RX1 54 "DomainKeysModel" "seed" "J", .constantLong RX1 67 (100), .fieldLink RX1 58 "DomainKeysModel" "candidateP" "I", .fieldLink RX1 61 "DomainKeysModel" "candidateQ" "I", .methodLink RX1 27 yX1_h, .static yX1_h, .initialized RX1, .code yX1_h cX1_h 6 (some .long), .constantLong RX1 17 (1442695040888963407), .constantLong RX1 19 (6364136223846793005), .constantLong RX1 21 (2862933555777941757), .methodLink RX1 69 yX1_power, .static yX1_power, .code yX1_power cX1_power 11 (some .long)] ++ wsX10)
def wsX1_valid : List Cond := .code yX1_valid cX1_valid 6 (some .boolean) :: ([.fieldLink RX1 13 "DomainKeysModel" "thrown" "I", .fieldLink RX1 38 "DomainKeysModel" "outcome" "I", .fieldLink RX1 43 "DomainKeysModel" "madeP" "I", .fieldLink RX1 31 "DomainKeysModel" "madeQ" "I", .methodLink RX1 46 yX1_make, .instanceMethod yX1_make, .selects RX1 yX1_make yX1_make, .initialized RX1, .code yX1_make cX1_make 10 none, .constantLong RX1 41 (1073741824), .constantLong RX1 25 (2), .methodLink RX1 27 yX1_h, .static yX1_h, .code yX1_h cX1_h 6 (some .long), .constantLong RX1 17 (1442695040888963407), .constantLong RX1 19 (6364136223846793005), .constantLong RX1 21 (2862933555777941757), .methodLink RX1 34 yX1_prime, .static yX1_prime, .code yX1_prime cX1_prime 3 (some .boolean), .constantLong RX1 23 (3)] ++ wsX10)
def wsX1_adopt : List Cond := .code yX1_adopt cX1_adopt 6 none :: ([.fieldLink RX1 13 "DomainKeysModel" "thrown" "I", .fieldLink RX1 73 "DomainKeysModel" "p" "I", .fieldLink RX1 76 "DomainKeysModel" "q" "I", .fieldLink RX1 79 "DomainKeysModel" "g" "I", .fieldLink RX1 7 "DomainKeysModel" "secrets" "[I", .methodLink RX1 34 yX1_prime, .static yX1_prime, .initialized RX1, .code yX1_prime cX1_prime 3 (some .boolean), .constantLong RX1 23 (3), .constantLong RX1 25 (2), .methodLink RX1 69 yX1_power, .static yX1_power, .code yX1_power cX1_power 11 (some .long)] ++ wsX10)
def wsX1_domain : List Cond := .code yX1_domain cX1_domain 2 (some .int) :: ([.fieldLink RX1 13 "DomainKeysModel" "thrown" "I", .fieldLink RX1 73 "DomainKeysModel" "p" "I", .fieldLink RX1 76 "DomainKeysModel" "q" "I", .fieldLink RX1 79 "DomainKeysModel" "g" "I"] ++ wsX10)
def wsX1_hasKey : List Cond := .code yX1_hasKey cX1_hasKey 2 (some .boolean) :: ([.fieldLink RX1 7 "DomainKeysModel" "secrets" "[I"] ++ wsX10)
def wsX1_key : List Cond := .code yX1_key cX1_key 3 (some .int) :: ([.fieldLink RX1 73 "DomainKeysModel" "p" "I", .fieldLink RX1 76 "DomainKeysModel" "q" "I", .fieldLink RX1 13 "DomainKeysModel" "thrown" "I", .fieldLink RX1 7 "DomainKeysModel" "secrets" "[I", .fieldLink RX1 79 "DomainKeysModel" "g" "I", .methodLink RX1 69 yX1_power, .static yX1_power, .initialized RX1, .code yX1_power cX1_power 11 (some .long)] ++ wsX10)
def wsX1_publicNumber : List Cond := .code yX1_publicNumber cX1_publicNumber 2 (some .int) :: ([.fieldLink RX1 13 "DomainKeysModel" "thrown" "I", .fieldLink RX1 79 "DomainKeysModel" "g" "I", .fieldLink RX1 7 "DomainKeysModel" "secrets" "[I", .fieldLink RX1 73 "DomainKeysModel" "p" "I", .methodLink RX1 82 yX1_hasKey, .instanceMethod yX1_hasKey, .selects RX1 yX1_hasKey yX1_hasKey, .initialized RX1, .code yX1_hasKey cX1_hasKey 2 (some .boolean), .methodLink RX1 69 yX1_power, .static yX1_power, .code yX1_power cX1_power 11 (some .long)] ++ wsX10)
def wsX1_forget : List Cond := .code yX1_forget cX1_forget 2 none :: ([.fieldLink RX1 13 "DomainKeysModel" "thrown" "I", .fieldLink RX1 7 "DomainKeysModel" "secrets" "[I", .methodLink RX1 82 yX1_hasKey, .instanceMethod yX1_hasKey, .selects RX1 yX1_hasKey yX1_hasKey, .initialized RX1, .code yX1_hasKey cX1_hasKey 2 (some .boolean)] ++ wsX10)
def wsX1_fits : List Cond := .code yX1_fits cX1_fits 2 (some .boolean) :: ([.fieldLink RX1 73 "DomainKeysModel" "p" "I", .fieldLink RX1 13 "DomainKeysModel" "thrown" "I", .fieldLink RX1 76 "DomainKeysModel" "q" "I", .methodLink RX1 69 yX1_power, .static yX1_power, .initialized RX1, .code yX1_power cX1_power 11 (some .long)] ++ wsX10)
def wsX1_digestOf : List Cond := .code yX1_digestOf cX1_digestOf 2 (some .long) :: ([.constantLong RX1 23 (3), .methodLink RX1 27 yX1_h, .static yX1_h, .initialized RX1, .code yX1_h cX1_h 6 (some .long), .constantLong RX1 17 (1442695040888963407), .constantLong RX1 19 (6364136223846793005), .constantLong RX1 21 (2862933555777941757)])
def wsX1_digest : List Cond := .code yX1_digest cX1_digest 3 (some .int) :: ([.fieldLink RX1 13 "DomainKeysModel" "thrown" "I", .methodLink RX1 85 yX1_digestOf, .static yX1_digestOf, .initialized RX1, .code yX1_digestOf cX1_digestOf 2 (some .long), .constantLong RX1 23 (3), .methodLink RX1 27 yX1_h, .static yX1_h, .code yX1_h cX1_h 6 (some .long), .constantLong RX1 17 (1442695040888963407), .constantLong RX1 19 (6364136223846793005), .constantLong RX1 21 (2862933555777941757)] ++ wsX10)
def wsX1_sign : List Cond := .code yX1_sign cX1_sign 11 (some .long) :: ([.fieldLink RX1 76 "DomainKeysModel" "q" "I", .fieldLink RX1 13 "DomainKeysModel" "thrown" "I", .fieldLink RX1 79 "DomainKeysModel" "g" "I", .fieldLink RX1 73 "DomainKeysModel" "p" "I", .fieldLink RX1 7 "DomainKeysModel" "secrets" "[I", .constantLong RX1 89 (4294967296), .methodLink RX1 82 yX1_hasKey, .instanceMethod yX1_hasKey, .selects RX1 yX1_hasKey yX1_hasKey, .initialized RX1, .code yX1_hasKey cX1_hasKey 2 (some .boolean), .methodLink RX1 69 yX1_power, .static yX1_power, .code yX1_power cX1_power 11 (some .long), .methodLink RX1 85 yX1_digestOf, .static yX1_digestOf, .code yX1_digestOf cX1_digestOf 2 (some .long), .constantLong RX1 23 (3), .methodLink RX1 27 yX1_h, .static yX1_h, .code yX1_h cX1_h 6 (some .long), .constantLong RX1 17 (1442695040888963407), .constantLong RX1 19 (6364136223846793005), .constantLong RX1 21 (2862933555777941757)] ++ wsX10)
def wsX1_verify : List Cond := .code yX1_verify cX1_verify 14 (some .boolean) :: ([.fieldLink RX1 73 "DomainKeysModel" "p" "I", .fieldLink RX1 13 "DomainKeysModel" "thrown" "I", .fieldLink RX1 76 "DomainKeysModel" "q" "I", .fieldLink RX1 79 "DomainKeysModel" "g" "I", .methodLink RX1 69 yX1_power, .static yX1_power, .initialized RX1, .code yX1_power cX1_power 11 (some .long), .methodLink RX1 85 yX1_digestOf, .static yX1_digestOf, .code yX1_digestOf cX1_digestOf 2 (some .long), .constantLong RX1 23 (3), .methodLink RX1 27 yX1_h, .static yX1_h, .code yX1_h cX1_h 6 (some .long), .constantLong RX1 17 (1442695040888963407), .constantLong RX1 19 (6364136223846793005), .constantLong RX1 21 (2862933555777941757)] ++ wsX10)
def wsX1_agree : List Cond := .code yX1_agree cX1_agree 5 (some .int) :: ([.fieldLink RX1 73 "DomainKeysModel" "p" "I", .fieldLink RX1 13 "DomainKeysModel" "thrown" "I", .fieldLink RX1 7 "DomainKeysModel" "secrets" "[I", .methodLink RX1 82 yX1_hasKey, .instanceMethod yX1_hasKey, .selects RX1 yX1_hasKey yX1_hasKey, .initialized RX1, .code yX1_hasKey cX1_hasKey 2 (some .boolean), .methodLink RX1 69 yX1_power, .static yX1_power, .code yX1_power cX1_power 11 (some .long)] ++ wsX10)
def wsL_generator_r1 : List Cond := [Cond.classLink RL 13 "java/lang/IllegalStateException", Cond.classLink RL 15 "java/lang/IllegalArgumentException", Cond.methodLink RL 7 yX0_generator, Cond.instanceMethod yX0_generator, Cond.selects RX0 yX0_generator yX0_generator, Cond.initialized RX0, Cond.code yX0_generator cX0_generator 4 (some .int), Cond.classLink RX0 41 "java/lang/IllegalStateException", Cond.initialized "java/lang/IllegalStateException", Cond.classLink RX0 48 "java/lang/IllegalArgumentException", Cond.initialized "java/lang/IllegalArgumentException", Cond.fieldLink RX0 31 "DomainKeys" "candidateP" "I", Cond.fieldLink RX0 34 "DomainKeys" "candidateSeed" "J", Cond.fieldLink RX0 23 "DomainKeys" "candidateQ" "I", Cond.methodLink RX0 53 yX0_mix, Cond.static yX0_mix, Cond.code yX0_mix cX0_mix 6 (some .long), Cond.constantLong RX0 138 (1442695040888963407), Cond.constantLong RX0 140 (6364136223846793005), Cond.constantLong RX0 142 (2862933555777941757), Cond.methodLink RX0 57 yX0_generatorFrom, Cond.static yX0_generatorFrom, Cond.code yX0_generatorFrom cX0_generatorFrom 7 (some .int), Cond.methodLink RX0 96 yX0_power]
def wsL_generator_r2 : List Cond := [Cond.static yX0_power, Cond.code yX0_power cX0_power 6 (some .int)]
def wsL_generator : List Cond := .codeWith yL_generator cL_generator 4 (some .int) [(0, 9, 12, 13), (0, 9, 15, 15)] :: ((wsL_generator_r1 ++ wsL_generator_r2) ++ wsX00 ++ (vx_atS RX0 45 "java/lang/IllegalStateException" ["java/lang/RuntimeException", "java/lang/Exception"]).filter goodWord ++ (vx_atS RX0 52 "java/lang/IllegalArgumentException" ["java/lang/RuntimeException", "java/lang/Exception"]).filter goodWord)
def wsL_adopt_r1 : List Cond := [Cond.classLink RL 15 "java/lang/IllegalArgumentException", Cond.methodLink RL 17 yX0_adopt, Cond.instanceMethod yX0_adopt, Cond.selects RX0 yX0_adopt yX0_adopt, Cond.initialized RX0, Cond.code yX0_adopt cX0_adopt 5 none, Cond.classLink RX0 48 "java/lang/IllegalArgumentException", Cond.initialized "java/lang/IllegalArgumentException", Cond.fieldLink RX0 66 "DomainKeys" "domainP" "I", Cond.fieldLink RX0 69 "DomainKeys" "domainQ" "I", Cond.fieldLink RX0 72 "DomainKeys" "domainG" "I", Cond.methodLink RX0 60 yX0_isDomain, Cond.static yX0_isDomain, Cond.code yX0_isDomain cX0_isDomain 3 (some .boolean), Cond.methodLink RX0 131 yX0_isPrime, Cond.static yX0_isPrime, Cond.code yX0_isPrime cX0_isPrime 2 (some .boolean), Cond.constant RX0 137 (46340), Cond.methodLink RX0 96 yX0_power, Cond.static yX0_power, Cond.code yX0_power cX0_power 6 (some .int), Cond.methodLink RX0 75 yX0_clearSlot, Cond.instanceMethod yX0_clearSlot, Cond.selects RX0 yX0_clearSlot yX0_clearSlot]
def wsL_adopt_r2 : List Cond := [Cond.code yX0_clearSlot cX0_clearSlot 2 none, Cond.fieldLink RX0 9 "DomainKeys" "secrets" "[I", Cond.fieldLink RX0 13 "DomainKeys" "publicNumbers" "[I"]
def wsL_adopt : List Cond := .codeWith yL_adopt cL_adopt 5 (some .int) [(0, 7, 10, 15)] :: ((wsL_adopt_r1 ++ wsL_adopt_r2) ++ wsX00 ++ (vx_atS RX0 52 "java/lang/IllegalArgumentException" ["java/lang/RuntimeException", "java/lang/Exception"]).filter goodWord)
def wsL_key_r1 : List Cond := [Cond.classLink RL 13 "java/lang/IllegalStateException", Cond.classLink RL 25 "java/lang/IndexOutOfBoundsException", Cond.classLink RL 15 "java/lang/IllegalArgumentException", Cond.methodLink RL 21 yX0_key, Cond.instanceMethod yX0_key, Cond.selects RX0 yX0_key yX0_key, Cond.initialized RX0, Cond.code yX0_key cX0_key 3 (some .int), Cond.classLink RX0 86 "java/lang/IndexOutOfBoundsException", Cond.initialized "java/lang/IndexOutOfBoundsException", Cond.classLink RX0 48 "java/lang/IllegalArgumentException", Cond.initialized "java/lang/IllegalArgumentException", Cond.fieldLink RX0 9 "DomainKeys" "secrets" "[I", Cond.fieldLink RX0 13 "DomainKeys" "publicNumbers" "[I", Cond.fieldLink RX0 72 "DomainKeys" "domainG" "I", Cond.fieldLink RX0 66 "DomainKeys" "domainP" "I", Cond.methodLink RX0 79 yX0_requireDomain, Cond.instanceMethod yX0_requireDomain, Cond.selects RX0 yX0_requireDomain yX0_requireDomain, Cond.code yX0_requireDomain cX0_requireDomain 1 none, Cond.classLink RX0 41 "java/lang/IllegalStateException", Cond.initialized "java/lang/IllegalStateException", Cond.methodLink RX0 82 yX0_isSlot, Cond.static yX0_isSlot]
def wsL_key_r2 : List Cond := [Cond.code yX0_isSlot cX0_isSlot 1 (some .boolean), Cond.methodLink RX0 91 yX0_isExponent, Cond.instanceMethod yX0_isExponent, Cond.selects RX0 yX0_isExponent yX0_isExponent, Cond.code yX0_isExponent cX0_isExponent 2 (some .boolean), Cond.fieldLink RX0 69 "DomainKeys" "domainQ" "I", Cond.methodLink RX0 96 yX0_power, Cond.static yX0_power, Cond.code yX0_power cX0_power 6 (some .int)]
def wsL_key : List Cond := .codeWith yL_key cL_key 5 (some .int) [(0, 10, 13, 13), (0, 10, 17, 25), (0, 10, 21, 15)] :: ((wsL_key_r1 ++ wsL_key_r2) ++ wsX00 ++ (vx_atS RX0 90 "java/lang/IndexOutOfBoundsException" ["java/lang/RuntimeException", "java/lang/Exception"]).filter goodWord ++ (vx_atS RX0 52 "java/lang/IllegalArgumentException" ["java/lang/RuntimeException", "java/lang/Exception"]).filter goodWord ++ (vx_atS RX0 45 "java/lang/IllegalStateException" ["java/lang/RuntimeException", "java/lang/Exception"]).filter goodWord)
def wsL_publicNumber : List Cond := .codeWith yL_publicNumber cL_publicNumber 4 (some .int) [(0, 9, 12, 30)] :: ([.classLink RL 30 "java/util/NoSuchElementException", .methodLink RL 27 yX0_publicNumber, .instanceMethod yX0_publicNumber, .selects RX0 yX0_publicNumber yX0_publicNumber, .initialized RX0, .code yX0_publicNumber cX0_publicNumber 2 (some .int), .fieldLink RX0 13 "DomainKeys" "publicNumbers" "[I", .methodLink RX0 100 yX0_requireKey, .instanceMethod yX0_requireKey, .selects RX0 yX0_requireKey yX0_requireKey, .code yX0_requireKey cX0_requireKey 2 none, .classLink RX0 126 "java/util/NoSuchElementException", .initialized "java/util/NoSuchElementException", .fieldLink RX0 9 "DomainKeys" "secrets" "[I", .methodLink RX0 82 yX0_isSlot, .static yX0_isSlot, .code yX0_isSlot cX0_isSlot 1 (some .boolean)] ++ wsX00 ++ (dk_atX RX0 130 "java/util/NoSuchElementException" ["java/lang/RuntimeException", "java/lang/Exception"]).filter goodWord)
def wsL_forget : List Cond := .codeWith yL_forget cL_forget 3 (some .int) [(0, 5, 8, 30)] :: ([.classLink RL 30 "java/util/NoSuchElementException", .methodLink RL 32 yX0_forget, .instanceMethod yX0_forget, .selects RX0 yX0_forget yX0_forget, .initialized RX0, .code yX0_forget cX0_forget 2 none, .methodLink RX0 100 yX0_requireKey, .instanceMethod yX0_requireKey, .selects RX0 yX0_requireKey yX0_requireKey, .code yX0_requireKey cX0_requireKey 2 none, .classLink RX0 126 "java/util/NoSuchElementException", .initialized "java/util/NoSuchElementException", .fieldLink RX0 9 "DomainKeys" "secrets" "[I", .methodLink RX0 82 yX0_isSlot, .static yX0_isSlot, .code yX0_isSlot cX0_isSlot 1 (some .boolean), .methodLink RX0 75 yX0_clearSlot, .instanceMethod yX0_clearSlot, .selects RX0 yX0_clearSlot yX0_clearSlot, .code yX0_clearSlot cX0_clearSlot 2 none, .fieldLink RX0 13 "DomainKeys" "publicNumbers" "[I"] ++ wsX00 ++ (dk_atX RX0 130 "java/util/NoSuchElementException" ["java/lang/RuntimeException", "java/lang/Exception"]).filter goodWord)
def wsL_fits : List Cond := .codeWith yL_fits cL_fits 4 (some .int) [(0, 16, 19, 13)] :: ([.classLink RL 13 "java/lang/IllegalStateException", .methodLink RL 36 yX0_fits, .instanceMethod yX0_fits, .selects RX0 yX0_fits yX0_fits, .initialized RX0, .code yX0_fits cX0_fits 2 (some .boolean), .fieldLink RX0 69 "DomainKeys" "domainQ" "I", .fieldLink RX0 66 "DomainKeys" "domainP" "I", .methodLink RX0 79 yX0_requireDomain, .instanceMethod yX0_requireDomain, .selects RX0 yX0_requireDomain yX0_requireDomain, .code yX0_requireDomain cX0_requireDomain 1 none, .classLink RX0 41 "java/lang/IllegalStateException", .initialized "java/lang/IllegalStateException", .methodLink RX0 103 yX0_isPeer, .instanceMethod yX0_isPeer, .selects RX0 yX0_isPeer yX0_isPeer, .code yX0_isPeer cX0_isPeer 2 (some .boolean), .methodLink RX0 96 yX0_power, .static yX0_power, .code yX0_power cX0_power 6 (some .int)] ++ wsX00 ++ (vx_atS RX0 45 "java/lang/IllegalStateException" ["java/lang/RuntimeException", "java/lang/Exception"]).filter goodWord)
def wsL_sign_r1 : List Cond := [Cond.classLink RL 30 "java/util/NoSuchElementException", Cond.classLink RL 15 "java/lang/IllegalArgumentException", Cond.classLink RL 44 "java/lang/ArithmeticException", Cond.methodLink RL 40 yX0_sign, Cond.instanceMethod yX0_sign, Cond.selects RX0 yX0_sign yX0_sign, Cond.initialized RX0, Cond.code yX0_sign cX0_sign 11 (some .long), Cond.classLink RX0 48 "java/lang/IllegalArgumentException", Cond.initialized "java/lang/IllegalArgumentException", Cond.classLink RX0 117 "java/lang/ArithmeticException", Cond.initialized "java/lang/ArithmeticException", Cond.fieldLink RX0 72 "DomainKeys" "domainG" "I", Cond.fieldLink RX0 66 "DomainKeys" "domainP" "I", Cond.fieldLink RX0 69 "DomainKeys" "domainQ" "I", Cond.fieldLink RX0 9 "DomainKeys" "secrets" "[I", Cond.methodLink RX0 100 yX0_requireKey, Cond.instanceMethod yX0_requireKey, Cond.selects RX0 yX0_requireKey yX0_requireKey, Cond.code yX0_requireKey cX0_requireKey 2 none, Cond.classLink RX0 126 "java/util/NoSuchElementException", Cond.initialized "java/util/NoSuchElementException", Cond.methodLink RX0 82 yX0_isSlot, Cond.static yX0_isSlot]
def wsL_sign_r2 : List Cond := [Cond.code yX0_isSlot cX0_isSlot 1 (some .boolean), Cond.methodLink RX0 91 yX0_isExponent, Cond.instanceMethod yX0_isExponent, Cond.selects RX0 yX0_isExponent yX0_isExponent, Cond.code yX0_isExponent cX0_isExponent 2 (some .boolean), Cond.methodLink RX0 96 yX0_power, Cond.static yX0_power, Cond.code yX0_power cX0_power 6 (some .int), Cond.methodLink RX0 110 yX0_digest, Cond.instanceMethod yX0_digest, Cond.selects RX0 yX0_digest yX0_digest, Cond.code yX0_digest cX0_digest 3 (some .int), Cond.constantLong RX0 106 (3), Cond.methodLink RX0 53 yX0_mix, Cond.static yX0_mix, Cond.code yX0_mix cX0_mix 6 (some .long), Cond.constantLong RX0 138 (1442695040888963407), Cond.constantLong RX0 140 (6364136223846793005), Cond.constantLong RX0 142 (2862933555777941757), Cond.methodLink RX0 113 yX0_inverse, Cond.static yX0_inverse, Cond.code yX0_inverse cX0_inverse 2 (some .int)]
def wsL_sign : List Cond := .codeWith yL_sign cL_sign 7 (some .int) [(0, 12, 15, 30), (0, 12, 19, 15), (0, 12, 23, 44)] :: ((wsL_sign_r1 ++ wsL_sign_r2) ++ wsX00 ++ (vx_atS RX0 52 "java/lang/IllegalArgumentException" ["java/lang/RuntimeException", "java/lang/Exception"]).filter goodWord ++ (vx_atS RX0 121 "java/lang/ArithmeticException" ["java/lang/RuntimeException", "java/lang/Exception"]).filter goodWord ++ (dk_atX RX0 130 "java/util/NoSuchElementException" ["java/lang/RuntimeException", "java/lang/Exception"]).filter goodWord)
def wsL_verify_r1 : List Cond := [Cond.classLink RL 13 "java/lang/IllegalStateException", Cond.methodLink RL 46 yX0_verify, Cond.instanceMethod yX0_verify, Cond.selects RX0 yX0_verify yX0_verify, Cond.initialized RX0, Cond.code yX0_verify cX0_verify 12 (some .boolean), Cond.fieldLink RX0 66 "DomainKeys" "domainP" "I", Cond.fieldLink RX0 69 "DomainKeys" "domainQ" "I", Cond.fieldLink RX0 72 "DomainKeys" "domainG" "I", Cond.methodLink RX0 79 yX0_requireDomain, Cond.instanceMethod yX0_requireDomain, Cond.selects RX0 yX0_requireDomain yX0_requireDomain, Cond.code yX0_requireDomain cX0_requireDomain 1 none, Cond.classLink RX0 41 "java/lang/IllegalStateException", Cond.initialized "java/lang/IllegalStateException", Cond.methodLink RX0 91 yX0_isExponent, Cond.instanceMethod yX0_isExponent, Cond.selects RX0 yX0_isExponent yX0_isExponent, Cond.code yX0_isExponent cX0_isExponent 2 (some .boolean), Cond.methodLink RX0 113 yX0_inverse, Cond.static yX0_inverse, Cond.code yX0_inverse cX0_inverse 2 (some .int), Cond.methodLink RX0 96 yX0_power, Cond.static yX0_power]
def wsL_verify_r2 : List Cond := [Cond.code yX0_power cX0_power 6 (some .int), Cond.methodLink RX0 110 yX0_digest, Cond.instanceMethod yX0_digest, Cond.selects RX0 yX0_digest yX0_digest, Cond.code yX0_digest cX0_digest 3 (some .int), Cond.constantLong RX0 106 (3), Cond.methodLink RX0 53 yX0_mix, Cond.static yX0_mix, Cond.code yX0_mix cX0_mix 6 (some .long), Cond.constantLong RX0 138 (1442695040888963407), Cond.constantLong RX0 140 (6364136223846793005), Cond.constantLong RX0 142 (2862933555777941757)]
def wsL_verify : List Cond := .codeWith yL_verify cL_verify 8 (some .int) [(0, 22, 25, 13)] :: ((wsL_verify_r1 ++ wsL_verify_r2) ++ wsX00 ++ (vx_atS RX0 45 "java/lang/IllegalStateException" ["java/lang/RuntimeException", "java/lang/Exception"]).filter goodWord)
def wsL_agree_r1 : List Cond := [Cond.classLink RL 30 "java/util/NoSuchElementException", Cond.classLink RL 15 "java/lang/IllegalArgumentException", Cond.classLink RL 44 "java/lang/ArithmeticException", Cond.methodLink RL 50 yX0_agree, Cond.instanceMethod yX0_agree, Cond.selects RX0 yX0_agree yX0_agree, Cond.initialized RX0, Cond.code yX0_agree cX0_agree 4 (some .int), Cond.classLink RX0 48 "java/lang/IllegalArgumentException", Cond.initialized "java/lang/IllegalArgumentException", Cond.classLink RX0 117 "java/lang/ArithmeticException", Cond.initialized "java/lang/ArithmeticException", Cond.fieldLink RX0 9 "DomainKeys" "secrets" "[I", Cond.fieldLink RX0 66 "DomainKeys" "domainP" "I", Cond.methodLink RX0 100 yX0_requireKey, Cond.instanceMethod yX0_requireKey, Cond.selects RX0 yX0_requireKey yX0_requireKey, Cond.code yX0_requireKey cX0_requireKey 2 none, Cond.classLink RX0 126 "java/util/NoSuchElementException", Cond.initialized "java/util/NoSuchElementException", Cond.methodLink RX0 82 yX0_isSlot, Cond.static yX0_isSlot, Cond.code yX0_isSlot cX0_isSlot 1 (some .boolean), Cond.methodLink RX0 103 yX0_isPeer]
def wsL_agree_r2 : List Cond := [Cond.instanceMethod yX0_isPeer, Cond.selects RX0 yX0_isPeer yX0_isPeer, Cond.code yX0_isPeer cX0_isPeer 2 (some .boolean), Cond.methodLink RX0 96 yX0_power, Cond.static yX0_power, Cond.code yX0_power cX0_power 6 (some .int)]
def wsL_agree : List Cond := .codeWith yL_agree cL_agree 5 (some .int) [(0, 10, 13, 30), (0, 10, 17, 15), (0, 10, 21, 44)] :: ((wsL_agree_r1 ++ wsL_agree_r2) ++ wsX00 ++ (vx_atS RX0 52 "java/lang/IllegalArgumentException" ["java/lang/RuntimeException", "java/lang/Exception"]).filter goodWord ++ (vx_atS RX0 121 "java/lang/ArithmeticException" ["java/lang/RuntimeException", "java/lang/Exception"]).filter goodWord ++ (dk_atX RX0 130 "java/util/NoSuchElementException" ["java/lang/RuntimeException", "java/lang/Exception"]).filter goodWord)
def wsL_law0_r1 : List Cond := [Cond.classLink RL 8 RX0, Cond.instantiable RX0 9, Cond.initialized RX0, Cond.classLink RL 54 RX1, Cond.instantiable RX1 13, Cond.initialized RX1, Cond.arrayClass .long, Cond.constantLong RL 57 (4294967295), Cond.methodLink RL 53 yX0_init, Cond.instanceMethod yX0_init, Cond.code yX0_init cX0_init 1 none, Cond.methodLink RX0 1 objectInit, Cond.instanceMethod objectInit, Cond.code objectInit ⟨#[0xb1]⟩ 1 none, Cond.arrayClass .int, Cond.fieldLink RX0 9 "DomainKeys" "secrets" "[I", Cond.fieldLink RX0 13 "DomainKeys" "publicNumbers" "[I", Cond.methodLink RL 56 yX1_init, Cond.instanceMethod yX1_init, Cond.code yX1_init cX1_init 1 none, Cond.methodLink RX1 1 objectInit, Cond.fieldLink RX1 7 "DomainKeysModel" "secrets" "[I", Cond.methodLink RL 59 yX0_generate, Cond.instanceMethod yX0_generate]
def wsL_law0_r2 : List Cond := [Cond.selects RX0 yX0_generate yX0_generate, Cond.code yX0_generate cX0_generate 4 (some .int), Cond.fieldLink RX0 23 "DomainKeys" "candidateQ" "I", Cond.fieldLink RX0 31 "DomainKeys" "candidateP" "I", Cond.fieldLink RX0 34 "DomainKeys" "candidateSeed" "J", Cond.fieldLink RX0 38 "DomainKeys" "candidateCounter" "I", Cond.methodLink RX0 16 yX0_counterFrom, Cond.static yX0_counterFrom, Cond.code yX0_counterFrom cX0_counterFrom 5 (some .int), Cond.constant RX0 134 (1073741824), Cond.methodLink RX0 20 yX0_orderFrom, Cond.static yX0_orderFrom, Cond.code yX0_orderFrom cX0_orderFrom 2 (some .int), Cond.methodLink RX0 53 yX0_mix, Cond.static yX0_mix, Cond.code yX0_mix cX0_mix 6 (some .long), Cond.constantLong RX0 138 (1442695040888963407), Cond.constantLong RX0 140 (6364136223846793005), Cond.constantLong RX0 142 (2862933555777941757), Cond.methodLink RX0 131 yX0_isPrime, Cond.static yX0_isPrime, Cond.code yX0_isPrime cX0_isPrime 2 (some .boolean), Cond.constant RX0 137 (46340), Cond.methodLink RX0 27 yX0_fieldTry]
def wsL_law0_r3 : List Cond := [Cond.static yX0_fieldTry, Cond.code yX0_fieldTry cX0_fieldTry 6 (some .int), Cond.constantLong RX0 135 (1073741824), Cond.methodLink RL 63 yX1_generate, Cond.instanceMethod yX1_generate, Cond.selects RX1 yX1_generate yX1_generate, Cond.code yX1_generate cX1_generate 3 (some .int), Cond.fieldLink RX1 13 "DomainKeysModel" "thrown" "I", Cond.fieldLink RX1 38 "DomainKeysModel" "outcome" "I", Cond.fieldLink RX1 50 "DomainKeysModel" "hasCandidate" "Z", Cond.fieldLink RX1 54 "DomainKeysModel" "seed" "J", Cond.fieldLink RX1 43 "DomainKeysModel" "madeP" "I", Cond.fieldLink RX1 58 "DomainKeysModel" "candidateP" "I", Cond.fieldLink RX1 31 "DomainKeysModel" "madeQ" "I", Cond.fieldLink RX1 61 "DomainKeysModel" "candidateQ" "I", Cond.fieldLink RX1 64 "DomainKeysModel" "candidateCounter" "I", Cond.methodLink RX1 46 yX1_make, Cond.instanceMethod yX1_make, Cond.selects RX1 yX1_make yX1_make, Cond.code yX1_make cX1_make 10 none, Cond.constantLong RX1 41 (1073741824), Cond.constantLong RX1 25 (2), Cond.methodLink RX1 27 yX1_h, Cond.static yX1_h]
def wsL_law0_r4 : List Cond := [Cond.code yX1_h cX1_h 6 (some .long), Cond.constantLong RX1 17 (1442695040888963407), Cond.constantLong RX1 19 (6364136223846793005), Cond.constantLong RX1 21 (2862933555777941757), Cond.methodLink RX1 34 yX1_prime, Cond.static yX1_prime, Cond.code yX1_prime cX1_prime 3 (some .boolean), Cond.constantLong RX1 23 (3), Cond.methodLink RL 64 yX0_candidate, Cond.instanceMethod yX0_candidate, Cond.selects RX0 yX0_candidate yX0_candidate, Cond.code yX0_candidate cX0_candidate 2 (some .long), Cond.methodLink RL 68 yX1_candidate, Cond.instanceMethod yX1_candidate, Cond.selects RX1 yX1_candidate yX1_candidate, Cond.code yX1_candidate cX1_candidate 2 (some .long), Cond.methodLink RL 69 yL_generator, Cond.static yL_generator, Cond.initialized RL, Cond.codeWith yL_generator cL_generator 4 (some .int) [(0, 9, 12, 13), (0, 9, 15, 15)], Cond.classLink RL 13 "java/lang/IllegalStateException", Cond.classLink RL 15 "java/lang/IllegalArgumentException", Cond.methodLink RL 7 yX0_generator, Cond.instanceMethod yX0_generator]
def wsL_law0_r5 : List Cond := [Cond.selects RX0 yX0_generator yX0_generator, Cond.code yX0_generator cX0_generator 4 (some .int), Cond.classLink RX0 41 "java/lang/IllegalStateException", Cond.initialized "java/lang/IllegalStateException", Cond.classLink RX0 48 "java/lang/IllegalArgumentException", Cond.initialized "java/lang/IllegalArgumentException", Cond.methodLink RX0 57 yX0_generatorFrom, Cond.static yX0_generatorFrom, Cond.code yX0_generatorFrom cX0_generatorFrom 7 (some .int), Cond.methodLink RX0 96 yX0_power, Cond.static yX0_power, Cond.code yX0_power cX0_power 6 (some .int), Cond.methodLink RL 74 yX1_generator, Cond.instanceMethod yX1_generator, Cond.selects RX1 yX1_generator yX1_generator, Cond.code yX1_generator cX1_generator 9 (some .int), Cond.constantLong RX1 67 (100), Cond.methodLink RX1 69 yX1_power, Cond.static yX1_power, Cond.code yX1_power cX1_power 11 (some .long), Cond.methodLink RL 75 yX1_thrown, Cond.instanceMethod yX1_thrown, Cond.selects RX1 yX1_thrown yX1_thrown, Cond.code yX1_thrown cX1_thrown 1 (some .int)]
def wsL_law0_r6 : List Cond := [Cond.methodLink RL 79 yX0_valid, Cond.instanceMethod yX0_valid, Cond.selects RX0 yX0_valid yX0_valid, Cond.code yX0_valid cX0_valid 6 (some .boolean), Cond.methodLink RL 83 yX1_valid, Cond.instanceMethod yX1_valid, Cond.selects RX1 yX1_valid yX1_valid, Cond.code yX1_valid cX1_valid 6 (some .boolean), Cond.methodLink RL 84 yL_adopt, Cond.static yL_adopt, Cond.codeWith yL_adopt cL_adopt 5 (some .int) [(0, 7, 10, 15)], Cond.methodLink RL 17 yX0_adopt, Cond.instanceMethod yX0_adopt, Cond.selects RX0 yX0_adopt yX0_adopt, Cond.code yX0_adopt cX0_adopt 5 none, Cond.fieldLink RX0 66 "DomainKeys" "domainP" "I", Cond.fieldLink RX0 69 "DomainKeys" "domainQ" "I", Cond.fieldLink RX0 72 "DomainKeys" "domainG" "I", Cond.methodLink RX0 60 yX0_isDomain, Cond.static yX0_isDomain, Cond.code yX0_isDomain cX0_isDomain 3 (some .boolean), Cond.methodLink RX0 75 yX0_clearSlot, Cond.instanceMethod yX0_clearSlot, Cond.selects RX0 yX0_clearSlot yX0_clearSlot]
def wsL_law0_r7 : List Cond := [Cond.code yX0_clearSlot cX0_clearSlot 2 none, Cond.methodLink RL 87 yX1_adopt, Cond.instanceMethod yX1_adopt, Cond.selects RX1 yX1_adopt yX1_adopt, Cond.code yX1_adopt cX1_adopt 6 none, Cond.fieldLink RX1 73 "DomainKeysModel" "p" "I", Cond.fieldLink RX1 76 "DomainKeysModel" "q" "I", Cond.fieldLink RX1 79 "DomainKeysModel" "g" "I", Cond.methodLink RL 88 yX0_domain, Cond.instanceMethod yX0_domain, Cond.selects RX0 yX0_domain yX0_domain, Cond.code yX0_domain cX0_domain 2 (some .int), Cond.methodLink RL 91 yX1_domain, Cond.instanceMethod yX1_domain, Cond.selects RX1 yX1_domain yX1_domain, Cond.code yX1_domain cX1_domain 2 (some .int), Cond.methodLink RL 92 yL_key, Cond.static yL_key, Cond.codeWith yL_key cL_key 5 (some .int) [(0, 10, 13, 13), (0, 10, 17, 25), (0, 10, 21, 15)], Cond.classLink RL 25 "java/lang/IndexOutOfBoundsException", Cond.methodLink RL 21 yX0_key, Cond.instanceMethod yX0_key, Cond.selects RX0 yX0_key yX0_key, Cond.code yX0_key cX0_key 3 (some .int)]
def wsL_law0_r8 : List Cond := [Cond.classLink RX0 86 "java/lang/IndexOutOfBoundsException", Cond.initialized "java/lang/IndexOutOfBoundsException", Cond.methodLink RX0 79 yX0_requireDomain, Cond.instanceMethod yX0_requireDomain, Cond.selects RX0 yX0_requireDomain yX0_requireDomain, Cond.code yX0_requireDomain cX0_requireDomain 1 none, Cond.methodLink RX0 82 yX0_isSlot, Cond.static yX0_isSlot, Cond.code yX0_isSlot cX0_isSlot 1 (some .boolean), Cond.methodLink RX0 91 yX0_isExponent, Cond.instanceMethod yX0_isExponent, Cond.selects RX0 yX0_isExponent yX0_isExponent, Cond.code yX0_isExponent cX0_isExponent 2 (some .boolean), Cond.methodLink RL 95 yX1_key, Cond.instanceMethod yX1_key, Cond.selects RX1 yX1_key yX1_key, Cond.code yX1_key cX1_key 3 (some .int), Cond.methodLink RL 96 yL_publicNumber, Cond.static yL_publicNumber, Cond.codeWith yL_publicNumber cL_publicNumber 4 (some .int) [(0, 9, 12, 30)], Cond.classLink RL 30 "java/util/NoSuchElementException", Cond.methodLink RL 27 yX0_publicNumber, Cond.instanceMethod yX0_publicNumber, Cond.selects RX0 yX0_publicNumber yX0_publicNumber]
def wsL_law0_r9 : List Cond := [Cond.code yX0_publicNumber cX0_publicNumber 2 (some .int), Cond.methodLink RX0 100 yX0_requireKey, Cond.instanceMethod yX0_requireKey, Cond.selects RX0 yX0_requireKey yX0_requireKey, Cond.code yX0_requireKey cX0_requireKey 2 none, Cond.classLink RX0 126 "java/util/NoSuchElementException", Cond.initialized "java/util/NoSuchElementException", Cond.methodLink RL 98 yX1_publicNumber, Cond.instanceMethod yX1_publicNumber, Cond.selects RX1 yX1_publicNumber yX1_publicNumber, Cond.code yX1_publicNumber cX1_publicNumber 2 (some .int), Cond.methodLink RX1 82 yX1_hasKey, Cond.instanceMethod yX1_hasKey, Cond.selects RX1 yX1_hasKey yX1_hasKey, Cond.code yX1_hasKey cX1_hasKey 2 (some .boolean), Cond.methodLink RL 99 yL_forget, Cond.static yL_forget, Cond.codeWith yL_forget cL_forget 3 (some .int) [(0, 5, 8, 30)], Cond.methodLink RL 32 yX0_forget, Cond.instanceMethod yX0_forget, Cond.selects RX0 yX0_forget yX0_forget, Cond.code yX0_forget cX0_forget 2 none, Cond.methodLink RL 102 yX1_forget, Cond.instanceMethod yX1_forget]
def wsL_law0_r10 : List Cond := [Cond.selects RX1 yX1_forget yX1_forget, Cond.code yX1_forget cX1_forget 2 none, Cond.methodLink RL 103 yL_fits, Cond.static yL_fits, Cond.codeWith yL_fits cL_fits 4 (some .int) [(0, 16, 19, 13)], Cond.methodLink RL 36 yX0_fits, Cond.instanceMethod yX0_fits, Cond.selects RX0 yX0_fits yX0_fits, Cond.code yX0_fits cX0_fits 2 (some .boolean), Cond.methodLink RX0 103 yX0_isPeer, Cond.instanceMethod yX0_isPeer, Cond.selects RX0 yX0_isPeer yX0_isPeer, Cond.code yX0_isPeer cX0_isPeer 2 (some .boolean), Cond.methodLink RL 105 yX1_fits, Cond.instanceMethod yX1_fits, Cond.selects RX1 yX1_fits yX1_fits, Cond.code yX1_fits cX1_fits 2 (some .boolean), Cond.methodLink RL 106 yX0_digest, Cond.instanceMethod yX0_digest, Cond.selects RX0 yX0_digest yX0_digest, Cond.code yX0_digest cX0_digest 3 (some .int), Cond.constantLong RX0 106 (3), Cond.methodLink RL 109 yX1_digest, Cond.instanceMethod yX1_digest]
def wsL_law0_r11 : List Cond := [Cond.selects RX1 yX1_digest yX1_digest, Cond.code yX1_digest cX1_digest 3 (some .int), Cond.methodLink RX1 85 yX1_digestOf, Cond.static yX1_digestOf, Cond.code yX1_digestOf cX1_digestOf 2 (some .long), Cond.methodLink RL 110 yL_sign, Cond.static yL_sign, Cond.codeWith yL_sign cL_sign 7 (some .int) [(0, 12, 15, 30), (0, 12, 19, 15), (0, 12, 23, 44)], Cond.classLink RL 44 "java/lang/ArithmeticException", Cond.methodLink RL 40 yX0_sign, Cond.instanceMethod yX0_sign, Cond.selects RX0 yX0_sign yX0_sign, Cond.code yX0_sign cX0_sign 11 (some .long), Cond.classLink RX0 117 "java/lang/ArithmeticException", Cond.initialized "java/lang/ArithmeticException", Cond.methodLink RX0 110 yX0_digest, Cond.methodLink RX0 113 yX0_inverse, Cond.static yX0_inverse, Cond.code yX0_inverse cX0_inverse 2 (some .int), Cond.methodLink RL 113 yX1_sign, Cond.instanceMethod yX1_sign, Cond.selects RX1 yX1_sign yX1_sign, Cond.code yX1_sign cX1_sign 11 (some .long), Cond.constantLong RX1 89 (4294967296)]
def wsL_law0_r12 : List Cond := [Cond.methodLink RL 114 yL_verify, Cond.static yL_verify, Cond.codeWith yL_verify cL_verify 8 (some .int) [(0, 22, 25, 13)], Cond.methodLink RL 46 yX0_verify, Cond.instanceMethod yX0_verify, Cond.selects RX0 yX0_verify yX0_verify, Cond.code yX0_verify cX0_verify 12 (some .boolean), Cond.methodLink RL 117 yX1_verify, Cond.instanceMethod yX1_verify, Cond.selects RX1 yX1_verify yX1_verify, Cond.code yX1_verify cX1_verify 14 (some .boolean), Cond.methodLink RL 118 yL_agree, Cond.static yL_agree, Cond.codeWith yL_agree cL_agree 5 (some .int) [(0, 10, 13, 30), (0, 10, 17, 15), (0, 10, 21, 44)], Cond.methodLink RL 50 yX0_agree, Cond.instanceMethod yX0_agree, Cond.selects RX0 yX0_agree yX0_agree, Cond.code yX0_agree cX0_agree 4 (some .int), Cond.methodLink RL 120 yX1_agree, Cond.instanceMethod yX1_agree, Cond.selects RX1 yX1_agree yX1_agree, Cond.code yX1_agree cX1_agree 5 (some .int)]
def wsL_law0 : List Cond := (wsL_law0_r1 ++ (wsL_law0_r2 ++ (wsL_law0_r3 ++ (wsL_law0_r4 ++ (wsL_law0_r5 ++ (wsL_law0_r6 ++ (wsL_law0_r7 ++ (wsL_law0_r8 ++ (wsL_law0_r9 ++ (wsL_law0_r10 ++ (wsL_law0_r11 ++ wsL_law0_r12))))))))))) ++ wsX00 ++ wsX10 ++ ([] : List Cond)
def wsL_law : List Cond := wsL_law0 ++ (vx_atS RX0 45 "java/lang/IllegalStateException" ["java/lang/RuntimeException", "java/lang/Exception"]).filter goodWord ++ (vx_atS RX0 52 "java/lang/IllegalArgumentException" ["java/lang/RuntimeException", "java/lang/Exception"]).filter goodWord ++ (vx_atS RX0 90 "java/lang/IndexOutOfBoundsException" ["java/lang/RuntimeException", "java/lang/Exception"]).filter goodWord ++ (dk_atX RX0 130 "java/util/NoSuchElementException" ["java/lang/RuntimeException", "java/lang/Exception"]).filter goodWord ++ (vx_atS RX0 121 "java/lang/ArithmeticException" ["java/lang/RuntimeException", "java/lang/Exception"]).filter goodWord
set_option maxRecDepth 20000 in
theorem wsL_law_in0 : ∀ w ∈ wsL_law0, w ∈ lw_tbl := fun w h => (goodIn_p wsL_law0 [23, 26, 345, 59, 62, 65, 68, 74, 78, 394, 398, 401, 407, 84, 414, 106, 195, 198, 418, 422, 390, 88, 426, 205, 208, 213, 430, 92, 434, 221, 225, 228, 248, 438, 257, 261, 442, 446, 284, 450, 291, 295, 454, 96, 458, 461, 303, 308, 465, 331, 470, 338, 474] (by decide +kernel) (by decide +kernel) w h).1
theorem wsL_law_x0 : ∀ w ∈ (vx_atS RX0 45 "java/lang/IllegalStateException" ["java/lang/RuntimeException", "java/lang/Exception"]).filter goodWord, w ∈ lw_tbl := by decide +kernel
theorem wsL_law_x1 : ∀ w ∈ (vx_atS RX0 52 "java/lang/IllegalArgumentException" ["java/lang/RuntimeException", "java/lang/Exception"]).filter goodWord, w ∈ lw_tbl := by decide +kernel
theorem wsL_law_x2 : ∀ w ∈ (vx_atS RX0 90 "java/lang/IndexOutOfBoundsException" ["java/lang/RuntimeException", "java/lang/Exception"]).filter goodWord, w ∈ lw_tbl := by decide +kernel
theorem wsL_law_x3 : ∀ w ∈ (dk_atX RX0 130 "java/util/NoSuchElementException" ["java/lang/RuntimeException", "java/lang/Exception"]).filter goodWord, w ∈ lw_tbl := by decide +kernel
theorem wsL_law_x4 : ∀ w ∈ (vx_atS RX0 121 "java/lang/ArithmeticException" ["java/lang/RuntimeException", "java/lang/Exception"]).filter goodWord, w ∈ lw_tbl := by decide +kernel
theorem wsL_law_in : ∀ w ∈ wsL_law, w ∈ lw_tbl := fun w h => (List.mem_append.mp h).elim (fun h => (List.mem_append.mp h).elim (fun h => (List.mem_append.mp h).elim (fun h => (List.mem_append.mp h).elim (fun h => (List.mem_append.mp h).elim (fun h => wsL_law_in0 w h) (fun h => wsL_law_x0 w h)) (fun h => wsL_law_x1 w h)) (fun h => wsL_law_x2 w h)) (fun h => wsL_law_x3 w h)) (fun h => wsL_law_x4 w h)
theorem inlX0 : ∀ w ∈ wsX00, w ∈ wsL_law := fun _ h => List.mem_append_left _ (List.mem_append_left _ (List.mem_append_left _ (List.mem_append_left _ (List.mem_append_left _ (List.mem_append_left _ (List.mem_append_left _ (List.mem_append_right _ h)))))))
theorem inX0 : ∀ w ∈ wsX00, w ∈ lw_tbl := fun w h => wsL_law_in w (inlX0 w h)
theorem inlX1 : ∀ w ∈ wsX10, w ∈ wsL_law := fun _ h => List.mem_append_left _ (List.mem_append_left _ (List.mem_append_left _ (List.mem_append_left _ (List.mem_append_left _ (List.mem_append_left _ (List.mem_append_right _ h))))))
theorem inX1 : ∀ w ∈ wsX10, w ∈ lw_tbl := fun w h => wsL_law_in w (inlX1 w h)
theorem inJ0 : ∀ w ∈ wsJ00, w ∈ lw_tbl := by decide +kernel
theorem dX0_init_0 : decode cX0_init 0 = .ok (.aload_n 0, 1) := by decide +kernel
theorem dX0_init_1 : decode cX0_init 1 = .ok (.invokespecial 1, 3) := by decide +kernel
theorem dX0_init_4 : decode cX0_init 4 = .ok (.aload_n 0, 1) := by decide +kernel
theorem dX0_init_5 : decode cX0_init 5 = .ok (.bipush 8, 2) := by decide +kernel
theorem dX0_init_7 : decode cX0_init 7 = .ok (.newarray .int, 2) := by decide +kernel
theorem dX0_init_9 : decode cX0_init 9 = .ok (.putfield 9, 3) := by decide +kernel
theorem dX0_init_12 : decode cX0_init 12 = .ok (.aload_n 0, 1) := by decide +kernel
theorem dX0_init_13 : decode cX0_init 13 = .ok (.bipush 8, 2) := by decide +kernel
theorem dX0_init_15 : decode cX0_init 15 = .ok (.newarray .int, 2) := by decide +kernel
theorem dX0_init_17 : decode cX0_init 17 = .ok (.putfield 13, 3) := by decide +kernel
theorem dX0_init_20 : decode cX0_init 20 = .ok (.return_, 1) := by decide +kernel
set_option maxRecDepth 20000 in
theorem ggX0_generate_X0_counterFrom : GoodIn wsX0_generate wsX0_counterFrom := goodIn_r _ [8, 9, 10, 11, 7, 12, 13, 14, 15, 16, 17, 18, 19, 20, 21, 22, 23, 24, 25, 26] (by decide +kernel) (by decide +kernel)
set_option maxRecDepth 20000 in
theorem gX0_generate_X0_counterFrom : GoodIn wsX0_generate (va_wsS RX0 16 yX0_counterFrom wsX0_counterFrom) := goodIn_app (goodIn_of _ (by decide +kernel)) ggX0_generate_X0_counterFrom
set_option maxRecDepth 20000 in
theorem ggX0_generate_X0_orderFrom : GoodIn wsX0_generate wsX0_orderFrom := goodIn_r _ [12, 13, 14, 7, 15, 16, 17, 18] (by decide +kernel) (by decide +kernel)
set_option maxRecDepth 20000 in
theorem gX0_generate_X0_orderFrom : GoodIn wsX0_generate (va_wsS RX0 20 yX0_orderFrom wsX0_orderFrom) := goodIn_app (goodIn_of _ (by decide +kernel)) ggX0_generate_X0_orderFrom
set_option maxRecDepth 20000 in
theorem ggX0_generate_X0_fieldTry : GoodIn wsX0_generate wsX0_fieldTry := goodIn_r _ [25, 26, 13, 14, 7, 15, 16, 17, 18] (by decide +kernel) (by decide +kernel)
set_option maxRecDepth 20000 in
theorem gX0_generate_X0_fieldTry : GoodIn wsX0_generate (va_wsS RX0 27 yX0_fieldTry wsX0_fieldTry) := goodIn_app (goodIn_of _ (by decide +kernel)) ggX0_generate_X0_fieldTry
theorem dX0_generate_0 : decode cX0_generate 0 = .ok (.lload_n 1, 1) := by decide +kernel
theorem dX0_generate_1 : decode cX0_generate 1 = .ok (.invokestatic 16, 3) := by decide +kernel
theorem dX0_generate_4 : decode cX0_generate 4 = .ok (.istore_n 3, 1) := by decide +kernel
theorem dX0_generate_5 : decode cX0_generate 5 = .ok (.iload_n 3, 1) := by decide +kernel
theorem dX0_generate_6 : decode cX0_generate 6 = .ok (.ifCond .lt 34, 3) := by decide +kernel
theorem dX0_generate_9 : decode cX0_generate 9 = .ok (.aload_n 0, 1) := by decide +kernel
theorem dX0_generate_10 : decode cX0_generate 10 = .ok (.lload_n 1, 1) := by decide +kernel
theorem dX0_generate_11 : decode cX0_generate 11 = .ok (.invokestatic 20, 3) := by decide +kernel
theorem dX0_generate_14 : decode cX0_generate 14 = .ok (.putfield 23, 3) := by decide +kernel
theorem dX0_generate_17 : decode cX0_generate 17 = .ok (.aload_n 0, 1) := by decide +kernel
theorem dX0_generate_18 : decode cX0_generate 18 = .ok (.lload_n 1, 1) := by decide +kernel
theorem dX0_generate_19 : decode cX0_generate 19 = .ok (.aload_n 0, 1) := by decide +kernel
theorem dX0_generate_20 : decode cX0_generate 20 = .ok (.getfield 23, 3) := by decide +kernel
theorem dX0_generate_23 : decode cX0_generate 23 = .ok (.iload_n 3, 1) := by decide +kernel
theorem dX0_generate_24 : decode cX0_generate 24 = .ok (.invokestatic 27, 3) := by decide +kernel
theorem dX0_generate_27 : decode cX0_generate 27 = .ok (.putfield 31, 3) := by decide +kernel
theorem dX0_generate_30 : decode cX0_generate 30 = .ok (.aload_n 0, 1) := by decide +kernel
theorem dX0_generate_31 : decode cX0_generate 31 = .ok (.lload_n 1, 1) := by decide +kernel
theorem dX0_generate_32 : decode cX0_generate 32 = .ok (.putfield 34, 3) := by decide +kernel
theorem dX0_generate_35 : decode cX0_generate 35 = .ok (.aload_n 0, 1) := by decide +kernel
theorem dX0_generate_36 : decode cX0_generate 36 = .ok (.iload_n 3, 1) := by decide +kernel
theorem dX0_generate_37 : decode cX0_generate 37 = .ok (.putfield 38, 3) := by decide +kernel
theorem dX0_generate_40 : decode cX0_generate 40 = .ok (.iload_n 3, 1) := by decide +kernel
theorem dX0_generate_41 : decode cX0_generate 41 = .ok (.ireturn, 1) := by decide +kernel
theorem dX0_candidate_0 : decode cX0_candidate 0 = .ok (.iload_n 1, 1) := by decide +kernel
theorem dX0_candidate_1 : decode cX0_candidate 1 = .ok (.tableswitch 54 0 3 #[31, 37, 43, 48], 31) := by decide +kernel
theorem dX0_candidate_32 : decode cX0_candidate 32 = .ok (.aload_n 0, 1) := by decide +kernel
theorem dX0_candidate_33 : decode cX0_candidate 33 = .ok (.getfield 31, 3) := by decide +kernel
theorem dX0_candidate_36 : decode cX0_candidate 36 = .ok (.i2l, 1) := by decide +kernel
theorem dX0_candidate_37 : decode cX0_candidate 37 = .ok (.lreturn, 1) := by decide +kernel
theorem dX0_candidate_38 : decode cX0_candidate 38 = .ok (.aload_n 0, 1) := by decide +kernel
theorem dX0_candidate_39 : decode cX0_candidate 39 = .ok (.getfield 23, 3) := by decide +kernel
theorem dX0_candidate_42 : decode cX0_candidate 42 = .ok (.i2l, 1) := by decide +kernel
theorem dX0_candidate_43 : decode cX0_candidate 43 = .ok (.lreturn, 1) := by decide +kernel
theorem dX0_candidate_44 : decode cX0_candidate 44 = .ok (.aload_n 0, 1) := by decide +kernel
theorem dX0_candidate_45 : decode cX0_candidate 45 = .ok (.getfield 34, 3) := by decide +kernel
theorem dX0_candidate_48 : decode cX0_candidate 48 = .ok (.lreturn, 1) := by decide +kernel
theorem dX0_candidate_49 : decode cX0_candidate 49 = .ok (.aload_n 0, 1) := by decide +kernel
theorem dX0_candidate_50 : decode cX0_candidate 50 = .ok (.getfield 38, 3) := by decide +kernel
theorem dX0_candidate_53 : decode cX0_candidate 53 = .ok (.i2l, 1) := by decide +kernel
theorem dX0_candidate_54 : decode cX0_candidate 54 = .ok (.lreturn, 1) := by decide +kernel
theorem dX0_candidate_55 : decode cX0_candidate 55 = .ok (.lconst 0, 1) := by decide +kernel
theorem dX0_candidate_56 : decode cX0_candidate 56 = .ok (.lreturn, 1) := by decide +kernel
set_option maxRecDepth 20000 in
theorem ggX0_generator_X0_mix : GoodIn wsX0_generator wsX0_mix := goodIn_r _ [11, 12, 13, 14] (by decide +kernel) (by decide +kernel)
set_option maxRecDepth 20000 in
theorem gX0_generator_X0_mix : GoodIn wsX0_generator (va_wsS RX0 53 yX0_mix wsX0_mix) := goodIn_app (goodIn_of _ (by decide +kernel)) ggX0_generator_X0_mix
set_option maxRecDepth 20000 in
theorem ggX0_generator_X0_generatorFrom : GoodIn wsX0_generator wsX0_generatorFrom := goodIn_r _ [17, 8, 9, 10, 11, 12, 13, 14, 18, 19, 20] (by decide +kernel) (by decide +kernel)
set_option maxRecDepth 20000 in
theorem gX0_generator_X0_generatorFrom : GoodIn wsX0_generator (va_wsS RX0 57 yX0_generatorFrom wsX0_generatorFrom) := goodIn_app (goodIn_of _ (by decide +kernel)) ggX0_generator_X0_generatorFrom
theorem dX0_generator_0 : decode cX0_generator 0 = .ok (.aload_n 0, 1) := by decide +kernel
theorem dX0_generator_1 : decode cX0_generator 1 = .ok (.getfield 31, 3) := by decide +kernel
theorem dX0_generator_4 : decode cX0_generator 4 = .ok (.ifCond .ne 13, 3) := by decide +kernel
theorem dX0_generator_7 : decode cX0_generator 7 = .ok (.new 41, 3) := by decide +kernel
theorem dX0_generator_10 : decode cX0_generator 10 = .ok (.dup, 1) := by decide +kernel
theorem dX0_generator_11 : decode cX0_generator 11 = .ok (.ldc 43, 2) := by decide +kernel
theorem dX0_generator_13 : decode cX0_generator 13 = .ok (.invokespecial 45, 3) := by decide +kernel
theorem dX0_generator_16 : decode cX0_generator 16 = .ok (.athrow, 1) := by decide +kernel
theorem dX0_generator_17 : decode cX0_generator 17 = .ok (.iload_n 1, 1) := by decide +kernel
theorem dX0_generator_18 : decode cX0_generator 18 = .ok (.ifCond .lt 10, 3) := by decide +kernel
theorem dX0_generator_21 : decode cX0_generator 21 = .ok (.iload_n 1, 1) := by decide +kernel
theorem dX0_generator_22 : decode cX0_generator 22 = .ok (.sipush 256, 3) := by decide +kernel
theorem dX0_generator_25 : decode cX0_generator 25 = .ok (.if_icmp .lt 13, 3) := by decide +kernel
theorem dX0_generator_28 : decode cX0_generator 28 = .ok (.new 48, 3) := by decide +kernel
theorem dX0_generator_31 : decode cX0_generator 31 = .ok (.dup, 1) := by decide +kernel
theorem dX0_generator_32 : decode cX0_generator 32 = .ok (.ldc 50, 2) := by decide +kernel
theorem dX0_generator_34 : decode cX0_generator 34 = .ok (.invokespecial 52, 3) := by decide +kernel
theorem dX0_generator_37 : decode cX0_generator 37 = .ok (.athrow, 1) := by decide +kernel
theorem dX0_generator_38 : decode cX0_generator 38 = .ok (.aload_n 0, 1) := by decide +kernel
theorem dX0_generator_39 : decode cX0_generator 39 = .ok (.getfield 34, 3) := by decide +kernel
theorem dX0_generator_42 : decode cX0_generator 42 = .ok (.bipush 100, 2) := by decide +kernel
theorem dX0_generator_44 : decode cX0_generator 44 = .ok (.iload_n 1, 1) := by decide +kernel
theorem dX0_generator_45 : decode cX0_generator 45 = .ok (.iadd, 1) := by decide +kernel
theorem dX0_generator_46 : decode cX0_generator 46 = .ok (.i2l, 1) := by decide +kernel
theorem dX0_generator_47 : decode cX0_generator 47 = .ok (.invokestatic 53, 3) := by decide +kernel
theorem dX0_generator_50 : decode cX0_generator 50 = .ok (.lstore_n 2, 1) := by decide +kernel
theorem dX0_generator_51 : decode cX0_generator 51 = .ok (.lload_n 2, 1) := by decide +kernel
theorem dX0_generator_52 : decode cX0_generator 52 = .ok (.aload_n 0, 1) := by decide +kernel
theorem dX0_generator_53 : decode cX0_generator 53 = .ok (.getfield 31, 3) := by decide +kernel
theorem dX0_generator_56 : decode cX0_generator 56 = .ok (.aload_n 0, 1) := by decide +kernel
theorem dX0_generator_57 : decode cX0_generator 57 = .ok (.getfield 31, 3) := by decide +kernel
theorem dX0_generator_60 : decode cX0_generator 60 = .ok (.iconst 1, 1) := by decide +kernel
theorem dX0_generator_61 : decode cX0_generator 61 = .ok (.isub, 1) := by decide +kernel
theorem dX0_generator_62 : decode cX0_generator 62 = .ok (.aload_n 0, 1) := by decide +kernel
theorem dX0_generator_63 : decode cX0_generator 63 = .ok (.getfield 23, 3) := by decide +kernel
theorem dX0_generator_66 : decode cX0_generator 66 = .ok (.idiv, 1) := by decide +kernel
theorem dX0_generator_67 : decode cX0_generator 67 = .ok (.invokestatic 57, 3) := by decide +kernel
theorem dX0_generator_70 : decode cX0_generator 70 = .ok (.ireturn, 1) := by decide +kernel
set_option maxRecDepth 20000 in
theorem ggX0_valid_X0_orderFrom : GoodIn wsX0_valid wsX0_orderFrom := goodIn_r _ [4, 5, 6, 3, 7, 8, 9, 10] (by decide +kernel) (by decide +kernel)
set_option maxRecDepth 20000 in
theorem gX0_valid_X0_orderFrom : GoodIn wsX0_valid (va_wsS RX0 20 yX0_orderFrom wsX0_orderFrom) := goodIn_app (goodIn_of _ (by decide +kernel)) ggX0_valid_X0_orderFrom
set_option maxRecDepth 20000 in
theorem ggX0_valid_X0_counterFrom : GoodIn wsX0_valid wsX0_counterFrom := goodIn_r _ [13, 14, 1, 2, 3, 4, 5, 6, 7, 8, 9, 10, 15, 16, 17, 18, 19, 20, 21, 22] (by decide +kernel) (by decide +kernel)
set_option maxRecDepth 20000 in
theorem gX0_valid_X0_counterFrom : GoodIn wsX0_valid (va_wsS RX0 16 yX0_counterFrom wsX0_counterFrom) := goodIn_app (goodIn_of _ (by decide +kernel)) ggX0_valid_X0_counterFrom
set_option maxRecDepth 20000 in
theorem ggX0_valid_X0_fieldTry : GoodIn wsX0_valid wsX0_fieldTry := goodIn_r _ [21, 22, 5, 6, 3, 7, 8, 9, 10] (by decide +kernel) (by decide +kernel)
set_option maxRecDepth 20000 in
theorem gX0_valid_X0_fieldTry : GoodIn wsX0_valid (va_wsS RX0 27 yX0_fieldTry wsX0_fieldTry) := goodIn_app (goodIn_of _ (by decide +kernel)) ggX0_valid_X0_fieldTry
theorem dX0_valid_0 : decode cX0_valid 0 = .ok (.iload 5, 2) := by decide +kernel
theorem dX0_valid_2 : decode cX0_valid 2 = .ok (.ifCond .lt 35, 3) := by decide +kernel
theorem dX0_valid_5 : decode cX0_valid 5 = .ok (.iload_n 2, 1) := by decide +kernel
theorem dX0_valid_6 : decode cX0_valid 6 = .ok (.lload_n 3, 1) := by decide +kernel
theorem dX0_valid_7 : decode cX0_valid 7 = .ok (.invokestatic 20, 3) := by decide +kernel
theorem dX0_valid_10 : decode cX0_valid 10 = .ok (.if_icmp .ne 27, 3) := by decide +kernel
theorem dX0_valid_13 : decode cX0_valid 13 = .ok (.iload 5, 2) := by decide +kernel
theorem dX0_valid_15 : decode cX0_valid 15 = .ok (.lload_n 3, 1) := by decide +kernel
theorem dX0_valid_16 : decode cX0_valid 16 = .ok (.invokestatic 16, 3) := by decide +kernel
theorem dX0_valid_19 : decode cX0_valid 19 = .ok (.if_icmp .ne 18, 3) := by decide +kernel
theorem dX0_valid_22 : decode cX0_valid 22 = .ok (.iload_n 1, 1) := by decide +kernel
theorem dX0_valid_23 : decode cX0_valid 23 = .ok (.lload_n 3, 1) := by decide +kernel
theorem dX0_valid_24 : decode cX0_valid 24 = .ok (.iload_n 2, 1) := by decide +kernel
theorem dX0_valid_25 : decode cX0_valid 25 = .ok (.iload 5, 2) := by decide +kernel
theorem dX0_valid_27 : decode cX0_valid 27 = .ok (.invokestatic 27, 3) := by decide +kernel
theorem dX0_valid_30 : decode cX0_valid 30 = .ok (.if_icmp .ne 7, 3) := by decide +kernel
theorem dX0_valid_33 : decode cX0_valid 33 = .ok (.iconst 1, 1) := by decide +kernel
theorem dX0_valid_34 : decode cX0_valid 34 = .ok (.goto 4, 3) := by decide +kernel
theorem dX0_valid_37 : decode cX0_valid 37 = .ok (.iconst 0, 1) := by decide +kernel
theorem dX0_valid_38 : decode cX0_valid 38 = .ok (.ireturn, 1) := by decide +kernel
set_option maxRecDepth 20000 in
theorem ggX0_adopt_X0_isDomain : GoodIn wsX0_adopt wsX0_isDomain := goodIn_r _ [9, 10, 11, 8, 12, 13, 14, 15, 16] (by decide +kernel) (by decide +kernel)
set_option maxRecDepth 20000 in
theorem gX0_adopt_X0_isDomain : GoodIn wsX0_adopt (va_wsS RX0 60 yX0_isDomain wsX0_isDomain) := goodIn_app (goodIn_of _ (by decide +kernel)) ggX0_adopt_X0_isDomain
set_option maxRecDepth 20000 in
theorem ggX0_adopt_X0_clearSlot : GoodIn wsX0_adopt wsX0_clearSlot := goodIn_r _ [20, 21, 22, 23, 24, 25, 26, 27, 28, 29, 30, 31] (by decide +kernel) (by decide +kernel)
set_option maxRecDepth 20000 in
theorem gX0_adopt_X0_clearSlot : GoodIn wsX0_adopt (wsV RX0 75 RX0 yX0_clearSlot wsX0_clearSlot) := goodIn_app (goodIn_of _ (by decide +kernel)) ggX0_adopt_X0_clearSlot
theorem dX0_adopt_0 : decode cX0_adopt 0 = .ok (.iload_n 1, 1) := by decide +kernel
theorem dX0_adopt_1 : decode cX0_adopt 1 = .ok (.iload_n 2, 1) := by decide +kernel
theorem dX0_adopt_2 : decode cX0_adopt 2 = .ok (.iload_n 3, 1) := by decide +kernel
theorem dX0_adopt_3 : decode cX0_adopt 3 = .ok (.invokestatic 60, 3) := by decide +kernel
theorem dX0_adopt_6 : decode cX0_adopt 6 = .ok (.ifCond .ne 13, 3) := by decide +kernel
theorem dX0_adopt_9 : decode cX0_adopt 9 = .ok (.new 48, 3) := by decide +kernel
theorem dX0_adopt_12 : decode cX0_adopt 12 = .ok (.dup, 1) := by decide +kernel
theorem dX0_adopt_13 : decode cX0_adopt 13 = .ok (.ldc 64, 2) := by decide +kernel
theorem dX0_adopt_15 : decode cX0_adopt 15 = .ok (.invokespecial 52, 3) := by decide +kernel
theorem dX0_adopt_18 : decode cX0_adopt 18 = .ok (.athrow, 1) := by decide +kernel
theorem dX0_adopt_19 : decode cX0_adopt 19 = .ok (.aload_n 0, 1) := by decide +kernel
theorem dX0_adopt_20 : decode cX0_adopt 20 = .ok (.iload_n 1, 1) := by decide +kernel
theorem dX0_adopt_21 : decode cX0_adopt 21 = .ok (.putfield 66, 3) := by decide +kernel
theorem dX0_adopt_24 : decode cX0_adopt 24 = .ok (.aload_n 0, 1) := by decide +kernel
theorem dX0_adopt_25 : decode cX0_adopt 25 = .ok (.iload_n 2, 1) := by decide +kernel
theorem dX0_adopt_26 : decode cX0_adopt 26 = .ok (.putfield 69, 3) := by decide +kernel
theorem dX0_adopt_29 : decode cX0_adopt 29 = .ok (.aload_n 0, 1) := by decide +kernel
theorem dX0_adopt_30 : decode cX0_adopt 30 = .ok (.iload_n 3, 1) := by decide +kernel
theorem dX0_adopt_31 : decode cX0_adopt 31 = .ok (.putfield 72, 3) := by decide +kernel
theorem dX0_adopt_34 : decode cX0_adopt 34 = .ok (.iconst 0, 1) := by decide +kernel
theorem dX0_adopt_35 : decode cX0_adopt 35 = .ok (.istore 4, 2) := by decide +kernel
theorem dX0_adopt_37 : decode cX0_adopt 37 = .ok (.iload 4, 2) := by decide +kernel
theorem dX0_adopt_39 : decode cX0_adopt 39 = .ok (.bipush 8, 2) := by decide +kernel
theorem dX0_adopt_41 : decode cX0_adopt 41 = .ok (.if_icmp .ge 15, 3) := by decide +kernel
theorem dX0_adopt_44 : decode cX0_adopt 44 = .ok (.aload_n 0, 1) := by decide +kernel
theorem dX0_adopt_45 : decode cX0_adopt 45 = .ok (.iload 4, 2) := by decide +kernel
theorem dX0_adopt_47 : decode cX0_adopt 47 = .ok (.invokevirtual 75, 3) := by decide +kernel
theorem dX0_adopt_50 : decode cX0_adopt 50 = .ok (.iinc 4 1, 3) := by decide +kernel
theorem dX0_adopt_53 : decode cX0_adopt 53 = .ok (.goto (-16), 3) := by decide +kernel
theorem dX0_adopt_56 : decode cX0_adopt 56 = .ok (.return_, 1) := by decide +kernel
theorem dX0_domain_0 : decode cX0_domain 0 = .ok (.iload_n 1, 1) := by decide +kernel
theorem dX0_domain_1 : decode cX0_domain 1 = .ok (.tableswitch 42 0 2 #[27, 32, 37], 27) := by decide +kernel
theorem dX0_domain_28 : decode cX0_domain 28 = .ok (.aload_n 0, 1) := by decide +kernel
theorem dX0_domain_29 : decode cX0_domain 29 = .ok (.getfield 66, 3) := by decide +kernel
theorem dX0_domain_32 : decode cX0_domain 32 = .ok (.ireturn, 1) := by decide +kernel
theorem dX0_domain_33 : decode cX0_domain 33 = .ok (.aload_n 0, 1) := by decide +kernel
theorem dX0_domain_34 : decode cX0_domain 34 = .ok (.getfield 69, 3) := by decide +kernel
theorem dX0_domain_37 : decode cX0_domain 37 = .ok (.ireturn, 1) := by decide +kernel
theorem dX0_domain_38 : decode cX0_domain 38 = .ok (.aload_n 0, 1) := by decide +kernel
theorem dX0_domain_39 : decode cX0_domain 39 = .ok (.getfield 72, 3) := by decide +kernel
theorem dX0_domain_42 : decode cX0_domain 42 = .ok (.ireturn, 1) := by decide +kernel
theorem dX0_domain_43 : decode cX0_domain 43 = .ok (.iconst 0, 1) := by decide +kernel
theorem dX0_domain_44 : decode cX0_domain 44 = .ok (.ireturn, 1) := by decide +kernel
set_option maxRecDepth 20000 in
theorem ggX0_key_X0_requireDomain : GoodIn wsX0_key wsX0_requireDomain := goodIn_ca (goodIn_r _ [13, 14, 15, 8, 27, 28, 29, 30, 31, 32, 33, 34, 35] (by decide +kernel) (by decide +kernel)) (goodIn_sub (fun _ h => List.mem_cons_of_mem _ (List.mem_append_right _ h)) (by decide +kernel))
set_option maxRecDepth 20000 in
theorem gX0_key_X0_requireDomain : GoodIn wsX0_key (wsV RX0 79 RX0 yX0_requireDomain wsX0_requireDomain) := goodIn_app (goodIn_of _ (by decide +kernel)) ggX0_key_X0_requireDomain
set_option maxRecDepth 20000 in
theorem ggX0_key_X0_isSlot : GoodIn wsX0_key wsX0_isSlot := goodIn_r _ [18] (by decide +kernel) (by decide +kernel)
set_option maxRecDepth 20000 in
theorem gX0_key_X0_isSlot : GoodIn wsX0_key (va_wsS RX0 82 yX0_isSlot wsX0_isSlot) := goodIn_app (goodIn_of _ (by decide +kernel)) ggX0_key_X0_isSlot
set_option maxRecDepth 20000 in
theorem ggX0_key_X0_isExponent : GoodIn wsX0_key wsX0_isExponent := goodIn_r _ [22, 23, 27, 28, 29, 30, 31, 32, 33, 34, 35] (by decide +kernel) (by decide +kernel)
set_option maxRecDepth 20000 in
theorem gX0_key_X0_isExponent : GoodIn wsX0_key (wsV RX0 91 RX0 yX0_isExponent wsX0_isExponent) := goodIn_app (goodIn_of _ (by decide +kernel)) ggX0_key_X0_isExponent
set_option maxRecDepth 20000 in
theorem ggX0_key_X0_power : GoodIn wsX0_key wsX0_power := goodIn_r _ [26] (by decide +kernel) (by decide +kernel)
set_option maxRecDepth 20000 in
theorem gX0_key_X0_power : GoodIn wsX0_key (va_wsS RX0 96 yX0_power wsX0_power) := goodIn_app (goodIn_of _ (by decide +kernel)) ggX0_key_X0_power
theorem dX0_key_0 : decode cX0_key 0 = .ok (.aload_n 0, 1) := by decide +kernel
theorem dX0_key_1 : decode cX0_key 1 = .ok (.invokevirtual 79, 3) := by decide +kernel
theorem dX0_key_4 : decode cX0_key 4 = .ok (.iload_n 1, 1) := by decide +kernel
theorem dX0_key_5 : decode cX0_key 5 = .ok (.invokestatic 82, 3) := by decide +kernel
theorem dX0_key_8 : decode cX0_key 8 = .ok (.ifCond .ne 13, 3) := by decide +kernel
theorem dX0_key_11 : decode cX0_key 11 = .ok (.new 86, 3) := by decide +kernel
theorem dX0_key_14 : decode cX0_key 14 = .ok (.dup, 1) := by decide +kernel
theorem dX0_key_15 : decode cX0_key 15 = .ok (.ldc 88, 2) := by decide +kernel
theorem dX0_key_17 : decode cX0_key 17 = .ok (.invokespecial 90, 3) := by decide +kernel
theorem dX0_key_20 : decode cX0_key 20 = .ok (.athrow, 1) := by decide +kernel
theorem dX0_key_21 : decode cX0_key 21 = .ok (.aload_n 0, 1) := by decide +kernel
theorem dX0_key_22 : decode cX0_key 22 = .ok (.iload_n 2, 1) := by decide +kernel
theorem dX0_key_23 : decode cX0_key 23 = .ok (.invokevirtual 91, 3) := by decide +kernel
theorem dX0_key_26 : decode cX0_key 26 = .ok (.ifCond .ne 13, 3) := by decide +kernel
theorem dX0_key_29 : decode cX0_key 29 = .ok (.new 48, 3) := by decide +kernel
theorem dX0_key_32 : decode cX0_key 32 = .ok (.dup, 1) := by decide +kernel
theorem dX0_key_33 : decode cX0_key 33 = .ok (.ldc 94, 2) := by decide +kernel
theorem dX0_key_35 : decode cX0_key 35 = .ok (.invokespecial 52, 3) := by decide +kernel
theorem dX0_key_38 : decode cX0_key 38 = .ok (.athrow, 1) := by decide +kernel
theorem dX0_key_39 : decode cX0_key 39 = .ok (.aload_n 0, 1) := by decide +kernel
theorem dX0_key_40 : decode cX0_key 40 = .ok (.getfield 9, 3) := by decide +kernel
theorem dX0_key_43 : decode cX0_key 43 = .ok (.iload_n 1, 1) := by decide +kernel
theorem dX0_key_44 : decode cX0_key 44 = .ok (.iload_n 2, 1) := by decide +kernel
theorem dX0_key_45 : decode cX0_key 45 = .ok (.iastore, 1) := by decide +kernel
theorem dX0_key_46 : decode cX0_key 46 = .ok (.aload_n 0, 1) := by decide +kernel
theorem dX0_key_47 : decode cX0_key 47 = .ok (.getfield 13, 3) := by decide +kernel
theorem dX0_key_50 : decode cX0_key 50 = .ok (.iload_n 1, 1) := by decide +kernel
theorem dX0_key_51 : decode cX0_key 51 = .ok (.aload_n 0, 1) := by decide +kernel
theorem dX0_key_52 : decode cX0_key 52 = .ok (.getfield 72, 3) := by decide +kernel
theorem dX0_key_55 : decode cX0_key 55 = .ok (.iload_n 2, 1) := by decide +kernel
theorem dX0_key_56 : decode cX0_key 56 = .ok (.aload_n 0, 1) := by decide +kernel
theorem dX0_key_57 : decode cX0_key 57 = .ok (.getfield 66, 3) := by decide +kernel
theorem dX0_key_60 : decode cX0_key 60 = .ok (.invokestatic 96, 3) := by decide +kernel
theorem dX0_key_63 : decode cX0_key 63 = .ok (.iastore, 1) := by decide +kernel
theorem dX0_key_64 : decode cX0_key 64 = .ok (.aload_n 0, 1) := by decide +kernel
theorem dX0_key_65 : decode cX0_key 65 = .ok (.getfield 13, 3) := by decide +kernel
theorem dX0_key_68 : decode cX0_key 68 = .ok (.iload_n 1, 1) := by decide +kernel
theorem dX0_key_69 : decode cX0_key 69 = .ok (.iaload, 1) := by decide +kernel
theorem dX0_key_70 : decode cX0_key 70 = .ok (.ireturn, 1) := by decide +kernel
set_option maxRecDepth 20000 in
theorem ggX0_publicNumber_X0_requireKey : GoodIn wsX0_publicNumber wsX0_requireKey := goodIn_ca (goodIn_r _ [6, 7, 8, 9, 10, 11, 5, 12, 13, 14, 15, 16, 17, 18, 19, 20, 21] (by decide +kernel) (by decide +kernel)) (goodIn_sub (fun _ h => List.mem_cons_of_mem _ (List.mem_append_right _ h)) (by decide +kernel))
set_option maxRecDepth 20000 in
theorem gX0_publicNumber_X0_requireKey : GoodIn wsX0_publicNumber (wsV RX0 100 RX0 yX0_requireKey wsX0_requireKey) := goodIn_app (goodIn_of _ (by decide +kernel)) ggX0_publicNumber_X0_requireKey
theorem dX0_publicNumber_0 : decode cX0_publicNumber 0 = .ok (.aload_n 0, 1) := by decide +kernel
theorem dX0_publicNumber_1 : decode cX0_publicNumber 1 = .ok (.iload_n 1, 1) := by decide +kernel
theorem dX0_publicNumber_2 : decode cX0_publicNumber 2 = .ok (.invokevirtual 100, 3) := by decide +kernel
theorem dX0_publicNumber_5 : decode cX0_publicNumber 5 = .ok (.aload_n 0, 1) := by decide +kernel
theorem dX0_publicNumber_6 : decode cX0_publicNumber 6 = .ok (.getfield 13, 3) := by decide +kernel
theorem dX0_publicNumber_9 : decode cX0_publicNumber 9 = .ok (.iload_n 1, 1) := by decide +kernel
theorem dX0_publicNumber_10 : decode cX0_publicNumber 10 = .ok (.iaload, 1) := by decide +kernel
theorem dX0_publicNumber_11 : decode cX0_publicNumber 11 = .ok (.ireturn, 1) := by decide +kernel
set_option maxRecDepth 20000 in
theorem ggX0_forget_X0_requireKey : GoodIn wsX0_forget wsX0_requireKey := goodIn_ca (goodIn_r _ [5, 6, 7, 8, 9, 10, 4, 11, 17, 18, 19, 20, 21, 22, 23, 24, 25] (by decide +kernel) (by decide +kernel)) (goodIn_sub (fun _ h => List.mem_cons_of_mem _ (List.mem_append_right _ h)) (by decide +kernel))
set_option maxRecDepth 20000 in
theorem gX0_forget_X0_requireKey : GoodIn wsX0_forget (wsV RX0 100 RX0 yX0_requireKey wsX0_requireKey) := goodIn_app (goodIn_of _ (by decide +kernel)) ggX0_forget_X0_requireKey
set_option maxRecDepth 20000 in
theorem ggX0_forget_X0_clearSlot : GoodIn wsX0_forget wsX0_clearSlot := goodIn_r _ [15, 8, 16, 17, 18, 19, 20, 21, 22, 23, 24, 25] (by decide +kernel) (by decide +kernel)
set_option maxRecDepth 20000 in
theorem gX0_forget_X0_clearSlot : GoodIn wsX0_forget (wsV RX0 75 RX0 yX0_clearSlot wsX0_clearSlot) := goodIn_app (goodIn_of _ (by decide +kernel)) ggX0_forget_X0_clearSlot
theorem dX0_forget_0 : decode cX0_forget 0 = .ok (.aload_n 0, 1) := by decide +kernel
theorem dX0_forget_1 : decode cX0_forget 1 = .ok (.iload_n 1, 1) := by decide +kernel
theorem dX0_forget_2 : decode cX0_forget 2 = .ok (.invokevirtual 100, 3) := by decide +kernel
theorem dX0_forget_5 : decode cX0_forget 5 = .ok (.aload_n 0, 1) := by decide +kernel
theorem dX0_forget_6 : decode cX0_forget 6 = .ok (.iload_n 1, 1) := by decide +kernel
theorem dX0_forget_7 : decode cX0_forget 7 = .ok (.invokevirtual 75, 3) := by decide +kernel
theorem dX0_forget_10 : decode cX0_forget 10 = .ok (.return_, 1) := by decide +kernel
set_option maxRecDepth 20000 in
theorem ggX0_fits_X0_requireDomain : GoodIn wsX0_fits wsX0_requireDomain := goodIn_ca (goodIn_r _ [7, 8, 9, 2, 17, 18, 19, 20, 21, 22, 23, 24, 25] (by decide +kernel) (by decide +kernel)) (goodIn_sub (fun _ h => List.mem_cons_of_mem _ (List.mem_append_right _ h)) (by decide +kernel))
set_option maxRecDepth 20000 in
theorem gX0_fits_X0_requireDomain : GoodIn wsX0_fits (wsV RX0 79 RX0 yX0_requireDomain wsX0_requireDomain) := goodIn_app (goodIn_of _ (by decide +kernel)) ggX0_fits_X0_requireDomain
set_option maxRecDepth 20000 in
theorem ggX0_fits_X0_isPeer : GoodIn wsX0_fits wsX0_isPeer := goodIn_r _ [13, 2, 17, 18, 19, 20, 21, 22, 23, 24, 25] (by decide +kernel) (by decide +kernel)
set_option maxRecDepth 20000 in
theorem gX0_fits_X0_isPeer : GoodIn wsX0_fits (wsV RX0 103 RX0 yX0_isPeer wsX0_isPeer) := goodIn_app (goodIn_of _ (by decide +kernel)) ggX0_fits_X0_isPeer
set_option maxRecDepth 20000 in
theorem ggX0_fits_X0_power : GoodIn wsX0_fits wsX0_power := goodIn_r _ [16] (by decide +kernel) (by decide +kernel)
set_option maxRecDepth 20000 in
theorem gX0_fits_X0_power : GoodIn wsX0_fits (va_wsS RX0 96 yX0_power wsX0_power) := goodIn_app (goodIn_of _ (by decide +kernel)) ggX0_fits_X0_power
theorem dX0_fits_0 : decode cX0_fits 0 = .ok (.aload_n 0, 1) := by decide +kernel
theorem dX0_fits_1 : decode cX0_fits 1 = .ok (.invokevirtual 79, 3) := by decide +kernel
theorem dX0_fits_4 : decode cX0_fits 4 = .ok (.aload_n 0, 1) := by decide +kernel
theorem dX0_fits_5 : decode cX0_fits 5 = .ok (.iload_n 1, 1) := by decide +kernel
theorem dX0_fits_6 : decode cX0_fits 6 = .ok (.invokevirtual 103, 3) := by decide +kernel
theorem dX0_fits_9 : decode cX0_fits 9 = .ok (.ifCond .eq 23, 3) := by decide +kernel
theorem dX0_fits_12 : decode cX0_fits 12 = .ok (.iload_n 1, 1) := by decide +kernel
theorem dX0_fits_13 : decode cX0_fits 13 = .ok (.aload_n 0, 1) := by decide +kernel
theorem dX0_fits_14 : decode cX0_fits 14 = .ok (.getfield 69, 3) := by decide +kernel
theorem dX0_fits_17 : decode cX0_fits 17 = .ok (.aload_n 0, 1) := by decide +kernel
theorem dX0_fits_18 : decode cX0_fits 18 = .ok (.getfield 66, 3) := by decide +kernel
theorem dX0_fits_21 : decode cX0_fits 21 = .ok (.invokestatic 96, 3) := by decide +kernel
theorem dX0_fits_24 : decode cX0_fits 24 = .ok (.iconst 1, 1) := by decide +kernel
theorem dX0_fits_25 : decode cX0_fits 25 = .ok (.if_icmp .ne 7, 3) := by decide +kernel
theorem dX0_fits_28 : decode cX0_fits 28 = .ok (.iconst 1, 1) := by decide +kernel
theorem dX0_fits_29 : decode cX0_fits 29 = .ok (.goto 4, 3) := by decide +kernel
theorem dX0_fits_32 : decode cX0_fits 32 = .ok (.iconst 0, 1) := by decide +kernel
theorem dX0_fits_33 : decode cX0_fits 33 = .ok (.ireturn, 1) := by decide +kernel
set_option maxRecDepth 20000 in
theorem ggX0_digest_X0_mix : GoodIn wsX0_digest wsX0_mix := goodIn_r _ [5, 6, 7, 8] (by decide +kernel) (by decide +kernel)
set_option maxRecDepth 20000 in
theorem gX0_digest_X0_mix : GoodIn wsX0_digest (va_wsS RX0 53 yX0_mix wsX0_mix) := goodIn_app (goodIn_of _ (by decide +kernel)) ggX0_digest_X0_mix
theorem dX0_digest_0 : decode cX0_digest 0 = .ok (.lload_n 1, 1) := by decide +kernel
theorem dX0_digest_1 : decode cX0_digest 1 = .ok (.ldc2_w 106, 3) := by decide +kernel
theorem dX0_digest_4 : decode cX0_digest 4 = .ok (.invokestatic 53, 3) := by decide +kernel
theorem dX0_digest_7 : decode cX0_digest 7 = .ok (.bipush 49, 2) := by decide +kernel
theorem dX0_digest_9 : decode cX0_digest 9 = .ok (.lushr, 1) := by decide +kernel
theorem dX0_digest_10 : decode cX0_digest 10 = .ok (.l2i, 1) := by decide +kernel
theorem dX0_digest_11 : decode cX0_digest 11 = .ok (.ireturn, 1) := by decide +kernel
set_option maxRecDepth 20000 in
theorem ggX0_sign_X0_requireKey : GoodIn wsX0_sign wsX0_requireKey := goodIn_ca (goodIn_r _ [13, 14, 15, 8, 16, 17, 12, 18, 40, 41, 42, 43, 44, 45, 46, 47, 48] (by decide +kernel) (by decide +kernel)) (goodIn_sub (fun _ h => List.mem_cons_of_mem _ (List.mem_append_right _ h)) (by decide +kernel))
set_option maxRecDepth 20000 in
theorem gX0_sign_X0_requireKey : GoodIn wsX0_sign (wsV RX0 100 RX0 yX0_requireKey wsX0_requireKey) := goodIn_app (goodIn_of _ (by decide +kernel)) ggX0_sign_X0_requireKey
set_option maxRecDepth 20000 in
theorem ggX0_sign_X0_isExponent : GoodIn wsX0_sign wsX0_isExponent := goodIn_r _ [22, 7, 40, 41, 42, 43, 44, 45, 46, 47, 48] (by decide +kernel) (by decide +kernel)
set_option maxRecDepth 20000 in
theorem gX0_sign_X0_isExponent : GoodIn wsX0_sign (wsV RX0 91 RX0 yX0_isExponent wsX0_isExponent) := goodIn_app (goodIn_of _ (by decide +kernel)) ggX0_sign_X0_isExponent
set_option maxRecDepth 20000 in
theorem ggX0_sign_X0_power : GoodIn wsX0_sign wsX0_power := goodIn_r _ [25] (by decide +kernel) (by decide +kernel)
set_option maxRecDepth 20000 in
theorem gX0_sign_X0_power : GoodIn wsX0_sign (va_wsS RX0 96 yX0_power wsX0_power) := goodIn_app (goodIn_of _ (by decide +kernel)) ggX0_sign_X0_power
set_option maxRecDepth 20000 in
theorem ggX0_sign_X0_digest : GoodIn wsX0_sign wsX0_digest := goodIn_r _ [29, 30, 31, 32, 12, 33, 34, 35, 36] (by decide +kernel) (by decide +kernel)
set_option maxRecDepth 20000 in
theorem gX0_sign_X0_digest : GoodIn wsX0_sign (wsV RX0 110 RX0 yX0_digest wsX0_digest) := goodIn_app (goodIn_of _ (by decide +kernel)) ggX0_sign_X0_digest
set_option maxRecDepth 20000 in
theorem ggX0_sign_X0_inverse : GoodIn wsX0_sign wsX0_inverse := goodIn_r _ [39, 23, 24, 12, 25] (by decide +kernel) (by decide +kernel)
set_option maxRecDepth 20000 in
theorem gX0_sign_X0_inverse : GoodIn wsX0_sign (va_wsS RX0 113 yX0_inverse wsX0_inverse) := goodIn_app (goodIn_of _ (by decide +kernel)) ggX0_sign_X0_inverse
theorem dX0_sign_0 : decode cX0_sign 0 = .ok (.aload_n 0, 1) := by decide +kernel
theorem dX0_sign_1 : decode cX0_sign 1 = .ok (.iload_n 1, 1) := by decide +kernel
theorem dX0_sign_2 : decode cX0_sign 2 = .ok (.invokevirtual 100, 3) := by decide +kernel
theorem dX0_sign_5 : decode cX0_sign 5 = .ok (.aload_n 0, 1) := by decide +kernel
theorem dX0_sign_6 : decode cX0_sign 6 = .ok (.iload 4, 2) := by decide +kernel
theorem dX0_sign_8 : decode cX0_sign 8 = .ok (.invokevirtual 91, 3) := by decide +kernel
theorem dX0_sign_11 : decode cX0_sign 11 = .ok (.ifCond .ne 13, 3) := by decide +kernel
theorem dX0_sign_14 : decode cX0_sign 14 = .ok (.new 48, 3) := by decide +kernel
theorem dX0_sign_17 : decode cX0_sign 17 = .ok (.dup, 1) := by decide +kernel
theorem dX0_sign_18 : decode cX0_sign 18 = .ok (.ldc 108, 2) := by decide +kernel
theorem dX0_sign_20 : decode cX0_sign 20 = .ok (.invokespecial 52, 3) := by decide +kernel
theorem dX0_sign_23 : decode cX0_sign 23 = .ok (.athrow, 1) := by decide +kernel
theorem dX0_sign_24 : decode cX0_sign 24 = .ok (.aload_n 0, 1) := by decide +kernel
theorem dX0_sign_25 : decode cX0_sign 25 = .ok (.getfield 72, 3) := by decide +kernel
theorem dX0_sign_28 : decode cX0_sign 28 = .ok (.iload 4, 2) := by decide +kernel
theorem dX0_sign_30 : decode cX0_sign 30 = .ok (.aload_n 0, 1) := by decide +kernel
theorem dX0_sign_31 : decode cX0_sign 31 = .ok (.getfield 66, 3) := by decide +kernel
theorem dX0_sign_34 : decode cX0_sign 34 = .ok (.invokestatic 96, 3) := by decide +kernel
theorem dX0_sign_37 : decode cX0_sign 37 = .ok (.aload_n 0, 1) := by decide +kernel
theorem dX0_sign_38 : decode cX0_sign 38 = .ok (.getfield 69, 3) := by decide +kernel
theorem dX0_sign_41 : decode cX0_sign 41 = .ok (.irem, 1) := by decide +kernel
theorem dX0_sign_42 : decode cX0_sign 42 = .ok (.i2l, 1) := by decide +kernel
theorem dX0_sign_43 : decode cX0_sign 43 = .ok (.lstore 5, 2) := by decide +kernel
theorem dX0_sign_45 : decode cX0_sign 45 = .ok (.aload_n 0, 1) := by decide +kernel
theorem dX0_sign_46 : decode cX0_sign 46 = .ok (.lload_n 2, 1) := by decide +kernel
theorem dX0_sign_47 : decode cX0_sign 47 = .ok (.invokevirtual 110, 3) := by decide +kernel
theorem dX0_sign_50 : decode cX0_sign 50 = .ok (.i2l, 1) := by decide +kernel
theorem dX0_sign_51 : decode cX0_sign 51 = .ok (.aload_n 0, 1) := by decide +kernel
theorem dX0_sign_52 : decode cX0_sign 52 = .ok (.getfield 9, 3) := by decide +kernel
theorem dX0_sign_55 : decode cX0_sign 55 = .ok (.iload_n 1, 1) := by decide +kernel
theorem dX0_sign_56 : decode cX0_sign 56 = .ok (.iaload, 1) := by decide +kernel
theorem dX0_sign_57 : decode cX0_sign 57 = .ok (.i2l, 1) := by decide +kernel
theorem dX0_sign_58 : decode cX0_sign 58 = .ok (.lload 5, 2) := by decide +kernel
theorem dX0_sign_60 : decode cX0_sign 60 = .ok (.lmul, 1) := by decide +kernel
theorem dX0_sign_61 : decode cX0_sign 61 = .ok (.ladd, 1) := by decide +kernel
theorem dX0_sign_62 : decode cX0_sign 62 = .ok (.lstore 7, 2) := by decide +kernel
theorem dX0_sign_64 : decode cX0_sign 64 = .ok (.lload 7, 2) := by decide +kernel
theorem dX0_sign_66 : decode cX0_sign 66 = .ok (.aload_n 0, 1) := by decide +kernel
theorem dX0_sign_67 : decode cX0_sign 67 = .ok (.getfield 69, 3) := by decide +kernel
theorem dX0_sign_70 : decode cX0_sign 70 = .ok (.i2l, 1) := by decide +kernel
theorem dX0_sign_71 : decode cX0_sign 71 = .ok (.lrem, 1) := by decide +kernel
theorem dX0_sign_72 : decode cX0_sign 72 = .ok (.iload 4, 2) := by decide +kernel
theorem dX0_sign_74 : decode cX0_sign 74 = .ok (.aload_n 0, 1) := by decide +kernel
theorem dX0_sign_75 : decode cX0_sign 75 = .ok (.getfield 69, 3) := by decide +kernel
theorem dX0_sign_78 : decode cX0_sign 78 = .ok (.invokestatic 113, 3) := by decide +kernel
theorem dX0_sign_81 : decode cX0_sign 81 = .ok (.i2l, 1) := by decide +kernel
theorem dX0_sign_82 : decode cX0_sign 82 = .ok (.lmul, 1) := by decide +kernel
theorem dX0_sign_83 : decode cX0_sign 83 = .ok (.aload_n 0, 1) := by decide +kernel
theorem dX0_sign_84 : decode cX0_sign 84 = .ok (.getfield 69, 3) := by decide +kernel
theorem dX0_sign_87 : decode cX0_sign 87 = .ok (.i2l, 1) := by decide +kernel
theorem dX0_sign_88 : decode cX0_sign 88 = .ok (.lrem, 1) := by decide +kernel
theorem dX0_sign_89 : decode cX0_sign 89 = .ok (.lstore 9, 2) := by decide +kernel
theorem dX0_sign_91 : decode cX0_sign 91 = .ok (.lload 5, 2) := by decide +kernel
theorem dX0_sign_93 : decode cX0_sign 93 = .ok (.lconst 0, 1) := by decide +kernel
theorem dX0_sign_94 : decode cX0_sign 94 = .ok (.lcmp, 1) := by decide +kernel
theorem dX0_sign_95 : decode cX0_sign 95 = .ok (.ifCond .eq 10, 3) := by decide +kernel
theorem dX0_sign_98 : decode cX0_sign 98 = .ok (.lload 9, 2) := by decide +kernel
theorem dX0_sign_100 : decode cX0_sign 100 = .ok (.lconst 0, 1) := by decide +kernel
theorem dX0_sign_101 : decode cX0_sign 101 = .ok (.lcmp, 1) := by decide +kernel
theorem dX0_sign_102 : decode cX0_sign 102 = .ok (.ifCond .ne 13, 3) := by decide +kernel
theorem dX0_sign_105 : decode cX0_sign 105 = .ok (.new 117, 3) := by decide +kernel
theorem dX0_sign_108 : decode cX0_sign 108 = .ok (.dup, 1) := by decide +kernel
theorem dX0_sign_109 : decode cX0_sign 109 = .ok (.ldc 119, 2) := by decide +kernel
theorem dX0_sign_111 : decode cX0_sign 111 = .ok (.invokespecial 121, 3) := by decide +kernel
theorem dX0_sign_114 : decode cX0_sign 114 = .ok (.athrow, 1) := by decide +kernel
theorem dX0_sign_115 : decode cX0_sign 115 = .ok (.lload 5, 2) := by decide +kernel
theorem dX0_sign_117 : decode cX0_sign 117 = .ok (.bipush 32, 2) := by decide +kernel
theorem dX0_sign_119 : decode cX0_sign 119 = .ok (.lshl, 1) := by decide +kernel
theorem dX0_sign_120 : decode cX0_sign 120 = .ok (.lload 9, 2) := by decide +kernel
theorem dX0_sign_122 : decode cX0_sign 122 = .ok (.ladd, 1) := by decide +kernel
theorem dX0_sign_123 : decode cX0_sign 123 = .ok (.lreturn, 1) := by decide +kernel
set_option maxRecDepth 20000 in
theorem ggX0_verify_X0_requireDomain : GoodIn wsX0_verify wsX0_requireDomain := goodIn_ca (goodIn_r _ [8, 9, 10, 1, 32, 33, 34, 35, 36, 37, 38, 39, 40] (by decide +kernel) (by decide +kernel)) (goodIn_sub (fun _ h => List.mem_cons_of_mem _ (List.mem_append_right _ h)) (by decide +kernel))
set_option maxRecDepth 20000 in
theorem gX0_verify_X0_requireDomain : GoodIn wsX0_verify (wsV RX0 79 RX0 yX0_requireDomain wsX0_requireDomain) := goodIn_app (goodIn_of _ (by decide +kernel)) ggX0_verify_X0_requireDomain
set_option maxRecDepth 20000 in
theorem ggX0_verify_X0_isExponent : GoodIn wsX0_verify wsX0_isExponent := goodIn_r _ [14, 2, 32, 33, 34, 35, 36, 37, 38, 39, 40] (by decide +kernel) (by decide +kernel)
set_option maxRecDepth 20000 in
theorem gX0_verify_X0_isExponent : GoodIn wsX0_verify (wsV RX0 91 RX0 yX0_isExponent wsX0_isExponent) := goodIn_app (goodIn_of _ (by decide +kernel)) ggX0_verify_X0_isExponent
set_option maxRecDepth 20000 in
theorem ggX0_verify_X0_inverse : GoodIn wsX0_verify wsX0_inverse := goodIn_r _ [17, 18, 19, 7, 20] (by decide +kernel) (by decide +kernel)
set_option maxRecDepth 20000 in
theorem gX0_verify_X0_inverse : GoodIn wsX0_verify (va_wsS RX0 113 yX0_inverse wsX0_inverse) := goodIn_app (goodIn_of _ (by decide +kernel)) ggX0_verify_X0_inverse
set_option maxRecDepth 20000 in
theorem ggX0_verify_X0_digest : GoodIn wsX0_verify wsX0_digest := goodIn_r _ [24, 25, 26, 27, 7, 28, 29, 30, 31] (by decide +kernel) (by decide +kernel)
set_option maxRecDepth 20000 in
theorem gX0_verify_X0_digest : GoodIn wsX0_verify (wsV RX0 110 RX0 yX0_digest wsX0_digest) := goodIn_app (goodIn_of _ (by decide +kernel)) ggX0_verify_X0_digest
set_option maxRecDepth 20000 in
theorem ggX0_verify_X0_power : GoodIn wsX0_verify wsX0_power := goodIn_r _ [20] (by decide +kernel) (by decide +kernel)
set_option maxRecDepth 20000 in
theorem gX0_verify_X0_power : GoodIn wsX0_verify (va_wsS RX0 96 yX0_power wsX0_power) := goodIn_app (goodIn_of _ (by decide +kernel)) ggX0_verify_X0_power
theorem dX0_verify_0 : decode cX0_verify 0 = .ok (.aload_n 0, 1) := by decide +kernel
theorem dX0_verify_1 : decode cX0_verify 1 = .ok (.invokevirtual 79, 3) := by decide +kernel
theorem dX0_verify_4 : decode cX0_verify 4 = .ok (.iload_n 1, 1) := by decide +kernel
theorem dX0_verify_5 : decode cX0_verify 5 = .ok (.iconst 1, 1) := by decide +kernel
theorem dX0_verify_6 : decode cX0_verify 6 = .ok (.if_icmp .lt 29, 3) := by decide +kernel
theorem dX0_verify_9 : decode cX0_verify 9 = .ok (.iload_n 1, 1) := by decide +kernel
theorem dX0_verify_10 : decode cX0_verify 10 = .ok (.aload_n 0, 1) := by decide +kernel
theorem dX0_verify_11 : decode cX0_verify 11 = .ok (.getfield 66, 3) := by decide +kernel
theorem dX0_verify_14 : decode cX0_verify 14 = .ok (.if_icmp .ge 21, 3) := by decide +kernel
theorem dX0_verify_17 : decode cX0_verify 17 = .ok (.aload_n 0, 1) := by decide +kernel
theorem dX0_verify_18 : decode cX0_verify 18 = .ok (.iload 4, 2) := by decide +kernel
theorem dX0_verify_20 : decode cX0_verify 20 = .ok (.invokevirtual 91, 3) := by decide +kernel
theorem dX0_verify_23 : decode cX0_verify 23 = .ok (.ifCond .eq 12, 3) := by decide +kernel
theorem dX0_verify_26 : decode cX0_verify 26 = .ok (.aload_n 0, 1) := by decide +kernel
theorem dX0_verify_27 : decode cX0_verify 27 = .ok (.iload 5, 2) := by decide +kernel
theorem dX0_verify_29 : decode cX0_verify 29 = .ok (.invokevirtual 91, 3) := by decide +kernel
theorem dX0_verify_32 : decode cX0_verify 32 = .ok (.ifCond .ne 5, 3) := by decide +kernel
theorem dX0_verify_35 : decode cX0_verify 35 = .ok (.iconst 0, 1) := by decide +kernel
theorem dX0_verify_36 : decode cX0_verify 36 = .ok (.ireturn, 1) := by decide +kernel
theorem dX0_verify_37 : decode cX0_verify 37 = .ok (.iload 5, 2) := by decide +kernel
theorem dX0_verify_39 : decode cX0_verify 39 = .ok (.aload_n 0, 1) := by decide +kernel
theorem dX0_verify_40 : decode cX0_verify 40 = .ok (.getfield 69, 3) := by decide +kernel
theorem dX0_verify_43 : decode cX0_verify 43 = .ok (.invokestatic 113, 3) := by decide +kernel
theorem dX0_verify_46 : decode cX0_verify 46 = .ok (.i2l, 1) := by decide +kernel
theorem dX0_verify_47 : decode cX0_verify 47 = .ok (.lstore 6, 2) := by decide +kernel
theorem dX0_verify_49 : decode cX0_verify 49 = .ok (.aload_n 0, 1) := by decide +kernel
theorem dX0_verify_50 : decode cX0_verify 50 = .ok (.lload_n 2, 1) := by decide +kernel
theorem dX0_verify_51 : decode cX0_verify 51 = .ok (.invokevirtual 110, 3) := by decide +kernel
theorem dX0_verify_54 : decode cX0_verify 54 = .ok (.i2l, 1) := by decide +kernel
theorem dX0_verify_55 : decode cX0_verify 55 = .ok (.lload 6, 2) := by decide +kernel
theorem dX0_verify_57 : decode cX0_verify 57 = .ok (.lmul, 1) := by decide +kernel
theorem dX0_verify_58 : decode cX0_verify 58 = .ok (.aload_n 0, 1) := by decide +kernel
theorem dX0_verify_59 : decode cX0_verify 59 = .ok (.getfield 69, 3) := by decide +kernel
theorem dX0_verify_62 : decode cX0_verify 62 = .ok (.i2l, 1) := by decide +kernel
theorem dX0_verify_63 : decode cX0_verify 63 = .ok (.lrem, 1) := by decide +kernel
theorem dX0_verify_64 : decode cX0_verify 64 = .ok (.l2i, 1) := by decide +kernel
theorem dX0_verify_65 : decode cX0_verify 65 = .ok (.istore 8, 2) := by decide +kernel
theorem dX0_verify_67 : decode cX0_verify 67 = .ok (.iload 4, 2) := by decide +kernel
theorem dX0_verify_69 : decode cX0_verify 69 = .ok (.i2l, 1) := by decide +kernel
theorem dX0_verify_70 : decode cX0_verify 70 = .ok (.lload 6, 2) := by decide +kernel
theorem dX0_verify_72 : decode cX0_verify 72 = .ok (.lmul, 1) := by decide +kernel
theorem dX0_verify_73 : decode cX0_verify 73 = .ok (.aload_n 0, 1) := by decide +kernel
theorem dX0_verify_74 : decode cX0_verify 74 = .ok (.getfield 69, 3) := by decide +kernel
theorem dX0_verify_77 : decode cX0_verify 77 = .ok (.i2l, 1) := by decide +kernel
theorem dX0_verify_78 : decode cX0_verify 78 = .ok (.lrem, 1) := by decide +kernel
theorem dX0_verify_79 : decode cX0_verify 79 = .ok (.l2i, 1) := by decide +kernel
theorem dX0_verify_80 : decode cX0_verify 80 = .ok (.istore 9, 2) := by decide +kernel
theorem dX0_verify_82 : decode cX0_verify 82 = .ok (.aload_n 0, 1) := by decide +kernel
theorem dX0_verify_83 : decode cX0_verify 83 = .ok (.getfield 72, 3) := by decide +kernel
theorem dX0_verify_86 : decode cX0_verify 86 = .ok (.iload 8, 2) := by decide +kernel
theorem dX0_verify_88 : decode cX0_verify 88 = .ok (.aload_n 0, 1) := by decide +kernel
theorem dX0_verify_89 : decode cX0_verify 89 = .ok (.getfield 66, 3) := by decide +kernel
theorem dX0_verify_92 : decode cX0_verify 92 = .ok (.invokestatic 96, 3) := by decide +kernel
theorem dX0_verify_95 : decode cX0_verify 95 = .ok (.i2l, 1) := by decide +kernel
theorem dX0_verify_96 : decode cX0_verify 96 = .ok (.iload_n 1, 1) := by decide +kernel
theorem dX0_verify_97 : decode cX0_verify 97 = .ok (.iload 9, 2) := by decide +kernel
theorem dX0_verify_99 : decode cX0_verify 99 = .ok (.aload_n 0, 1) := by decide +kernel
theorem dX0_verify_100 : decode cX0_verify 100 = .ok (.getfield 66, 3) := by decide +kernel
theorem dX0_verify_103 : decode cX0_verify 103 = .ok (.invokestatic 96, 3) := by decide +kernel
theorem dX0_verify_106 : decode cX0_verify 106 = .ok (.i2l, 1) := by decide +kernel
theorem dX0_verify_107 : decode cX0_verify 107 = .ok (.lmul, 1) := by decide +kernel
theorem dX0_verify_108 : decode cX0_verify 108 = .ok (.aload_n 0, 1) := by decide +kernel
theorem dX0_verify_109 : decode cX0_verify 109 = .ok (.getfield 66, 3) := by decide +kernel
theorem dX0_verify_112 : decode cX0_verify 112 = .ok (.i2l, 1) := by decide +kernel
theorem dX0_verify_113 : decode cX0_verify 113 = .ok (.lrem, 1) := by decide +kernel
theorem dX0_verify_114 : decode cX0_verify 114 = .ok (.lstore 10, 2) := by decide +kernel
theorem dX0_verify_116 : decode cX0_verify 116 = .ok (.iload 4, 2) := by decide +kernel
theorem dX0_verify_118 : decode cX0_verify 118 = .ok (.i2l, 1) := by decide +kernel
theorem dX0_verify_119 : decode cX0_verify 119 = .ok (.lload 10, 2) := by decide +kernel
theorem dX0_verify_121 : decode cX0_verify 121 = .ok (.aload_n 0, 1) := by decide +kernel
theorem dX0_verify_122 : decode cX0_verify 122 = .ok (.getfield 69, 3) := by decide +kernel
theorem dX0_verify_125 : decode cX0_verify 125 = .ok (.i2l, 1) := by decide +kernel
theorem dX0_verify_126 : decode cX0_verify 126 = .ok (.lrem, 1) := by decide +kernel
theorem dX0_verify_127 : decode cX0_verify 127 = .ok (.lcmp, 1) := by decide +kernel
theorem dX0_verify_128 : decode cX0_verify 128 = .ok (.ifCond .ne 7, 3) := by decide +kernel
theorem dX0_verify_131 : decode cX0_verify 131 = .ok (.iconst 1, 1) := by decide +kernel
theorem dX0_verify_132 : decode cX0_verify 132 = .ok (.goto 4, 3) := by decide +kernel
theorem dX0_verify_135 : decode cX0_verify 135 = .ok (.iconst 0, 1) := by decide +kernel
theorem dX0_verify_136 : decode cX0_verify 136 = .ok (.ireturn, 1) := by decide +kernel
set_option maxRecDepth 20000 in
theorem ggX0_agree_X0_requireKey : GoodIn wsX0_agree wsX0_requireKey := goodIn_ca (goodIn_r _ [11, 12, 13, 5, 14, 15, 10, 16, 24, 25, 26, 27, 28, 29, 30, 31, 32] (by decide +kernel) (by decide +kernel)) (goodIn_sub (fun _ h => List.mem_cons_of_mem _ (List.mem_append_right _ h)) (by decide +kernel))
set_option maxRecDepth 20000 in
theorem gX0_agree_X0_requireKey : GoodIn wsX0_agree (wsV RX0 100 RX0 yX0_requireKey wsX0_requireKey) := goodIn_app (goodIn_of _ (by decide +kernel)) ggX0_agree_X0_requireKey
set_option maxRecDepth 20000 in
theorem ggX0_agree_X0_isPeer : GoodIn wsX0_agree wsX0_isPeer := goodIn_r _ [20, 6, 24, 25, 26, 27, 28, 29, 30, 31, 32] (by decide +kernel) (by decide +kernel)
set_option maxRecDepth 20000 in
theorem gX0_agree_X0_isPeer : GoodIn wsX0_agree (wsV RX0 103 RX0 yX0_isPeer wsX0_isPeer) := goodIn_app (goodIn_of _ (by decide +kernel)) ggX0_agree_X0_isPeer
set_option maxRecDepth 20000 in
theorem ggX0_agree_X0_power : GoodIn wsX0_agree wsX0_power := goodIn_r _ [23] (by decide +kernel) (by decide +kernel)
set_option maxRecDepth 20000 in
theorem gX0_agree_X0_power : GoodIn wsX0_agree (va_wsS RX0 96 yX0_power wsX0_power) := goodIn_app (goodIn_of _ (by decide +kernel)) ggX0_agree_X0_power
theorem dX0_agree_0 : decode cX0_agree 0 = .ok (.aload_n 0, 1) := by decide +kernel
theorem dX0_agree_1 : decode cX0_agree 1 = .ok (.iload_n 1, 1) := by decide +kernel
theorem dX0_agree_2 : decode cX0_agree 2 = .ok (.invokevirtual 100, 3) := by decide +kernel
theorem dX0_agree_5 : decode cX0_agree 5 = .ok (.aload_n 0, 1) := by decide +kernel
theorem dX0_agree_6 : decode cX0_agree 6 = .ok (.iload_n 2, 1) := by decide +kernel
theorem dX0_agree_7 : decode cX0_agree 7 = .ok (.invokevirtual 103, 3) := by decide +kernel
theorem dX0_agree_10 : decode cX0_agree 10 = .ok (.ifCond .ne 13, 3) := by decide +kernel
theorem dX0_agree_13 : decode cX0_agree 13 = .ok (.new 48, 3) := by decide +kernel
theorem dX0_agree_16 : decode cX0_agree 16 = .ok (.dup, 1) := by decide +kernel
theorem dX0_agree_17 : decode cX0_agree 17 = .ok (.ldc 122, 2) := by decide +kernel
theorem dX0_agree_19 : decode cX0_agree 19 = .ok (.invokespecial 52, 3) := by decide +kernel
theorem dX0_agree_22 : decode cX0_agree 22 = .ok (.athrow, 1) := by decide +kernel
theorem dX0_agree_23 : decode cX0_agree 23 = .ok (.iload_n 2, 1) := by decide +kernel
theorem dX0_agree_24 : decode cX0_agree 24 = .ok (.aload_n 0, 1) := by decide +kernel
theorem dX0_agree_25 : decode cX0_agree 25 = .ok (.getfield 9, 3) := by decide +kernel
theorem dX0_agree_28 : decode cX0_agree 28 = .ok (.iload_n 1, 1) := by decide +kernel
theorem dX0_agree_29 : decode cX0_agree 29 = .ok (.iaload, 1) := by decide +kernel
theorem dX0_agree_30 : decode cX0_agree 30 = .ok (.aload_n 0, 1) := by decide +kernel
theorem dX0_agree_31 : decode cX0_agree 31 = .ok (.getfield 66, 3) := by decide +kernel
theorem dX0_agree_34 : decode cX0_agree 34 = .ok (.invokestatic 96, 3) := by decide +kernel
theorem dX0_agree_37 : decode cX0_agree 37 = .ok (.istore_n 3, 1) := by decide +kernel
theorem dX0_agree_38 : decode cX0_agree 38 = .ok (.iload_n 3, 1) := by decide +kernel
theorem dX0_agree_39 : decode cX0_agree 39 = .ok (.iconst 1, 1) := by decide +kernel
theorem dX0_agree_40 : decode cX0_agree 40 = .ok (.if_icmp .ne 13, 3) := by decide +kernel
theorem dX0_agree_43 : decode cX0_agree 43 = .ok (.new 117, 3) := by decide +kernel
theorem dX0_agree_46 : decode cX0_agree 46 = .ok (.dup, 1) := by decide +kernel
theorem dX0_agree_47 : decode cX0_agree 47 = .ok (.ldc 124, 2) := by decide +kernel
theorem dX0_agree_49 : decode cX0_agree 49 = .ok (.invokespecial 121, 3) := by decide +kernel
theorem dX0_agree_52 : decode cX0_agree 52 = .ok (.athrow, 1) := by decide +kernel
theorem dX0_agree_53 : decode cX0_agree 53 = .ok (.iload_n 3, 1) := by decide +kernel
theorem dX0_agree_54 : decode cX0_agree 54 = .ok (.ireturn, 1) := by decide +kernel
theorem dX0_requireDomain_0 : decode cX0_requireDomain 0 = .ok (.aload_n 0, 1) := by decide +kernel
theorem dX0_requireDomain_1 : decode cX0_requireDomain 1 = .ok (.getfield 66, 3) := by decide +kernel
theorem dX0_requireDomain_4 : decode cX0_requireDomain 4 = .ok (.ifCond .ne 13, 3) := by decide +kernel
theorem dX0_requireDomain_7 : decode cX0_requireDomain 7 = .ok (.new 41, 3) := by decide +kernel
theorem dX0_requireDomain_10 : decode cX0_requireDomain 10 = .ok (.dup, 1) := by decide +kernel
theorem dX0_requireDomain_11 : decode cX0_requireDomain 11 = .ok (.ldc 64, 2) := by decide +kernel
theorem dX0_requireDomain_13 : decode cX0_requireDomain 13 = .ok (.invokespecial 45, 3) := by decide +kernel
theorem dX0_requireDomain_16 : decode cX0_requireDomain 16 = .ok (.athrow, 1) := by decide +kernel
theorem dX0_requireDomain_17 : decode cX0_requireDomain 17 = .ok (.return_, 1) := by decide +kernel
set_option maxRecDepth 20000 in
theorem ggX0_requireKey_X0_isSlot : GoodIn wsX0_requireKey wsX0_isSlot := goodIn_r _ [7] (by decide +kernel) (by decide +kernel)
set_option maxRecDepth 20000 in
theorem gX0_requireKey_X0_isSlot : GoodIn wsX0_requireKey (va_wsS RX0 82 yX0_isSlot wsX0_isSlot) := goodIn_app (goodIn_of _ (by decide +kernel)) ggX0_requireKey_X0_isSlot
theorem dX0_requireKey_0 : decode cX0_requireKey 0 = .ok (.iload_n 1, 1) := by decide +kernel
theorem dX0_requireKey_1 : decode cX0_requireKey 1 = .ok (.invokestatic 82, 3) := by decide +kernel
theorem dX0_requireKey_4 : decode cX0_requireKey 4 = .ok (.ifCond .eq 12, 3) := by decide +kernel
theorem dX0_requireKey_7 : decode cX0_requireKey 7 = .ok (.aload_n 0, 1) := by decide +kernel
theorem dX0_requireKey_8 : decode cX0_requireKey 8 = .ok (.getfield 9, 3) := by decide +kernel
theorem dX0_requireKey_11 : decode cX0_requireKey 11 = .ok (.iload_n 1, 1) := by decide +kernel
theorem dX0_requireKey_12 : decode cX0_requireKey 12 = .ok (.iaload, 1) := by decide +kernel
theorem dX0_requireKey_13 : decode cX0_requireKey 13 = .ok (.ifCond .ne 13, 3) := by decide +kernel
theorem dX0_requireKey_16 : decode cX0_requireKey 16 = .ok (.new 126, 3) := by decide +kernel
theorem dX0_requireKey_19 : decode cX0_requireKey 19 = .ok (.dup, 1) := by decide +kernel
theorem dX0_requireKey_20 : decode cX0_requireKey 20 = .ok (.ldc 128, 2) := by decide +kernel
theorem dX0_requireKey_22 : decode cX0_requireKey 22 = .ok (.invokespecial 130, 3) := by decide +kernel
theorem dX0_requireKey_25 : decode cX0_requireKey 25 = .ok (.athrow, 1) := by decide +kernel
theorem dX0_requireKey_26 : decode cX0_requireKey 26 = .ok (.return_, 1) := by decide +kernel
theorem dX0_clearSlot_0 : decode cX0_clearSlot 0 = .ok (.aload_n 0, 1) := by decide +kernel
theorem dX0_clearSlot_1 : decode cX0_clearSlot 1 = .ok (.getfield 9, 3) := by decide +kernel
theorem dX0_clearSlot_4 : decode cX0_clearSlot 4 = .ok (.iload_n 1, 1) := by decide +kernel
theorem dX0_clearSlot_5 : decode cX0_clearSlot 5 = .ok (.iconst 0, 1) := by decide +kernel
theorem dX0_clearSlot_6 : decode cX0_clearSlot 6 = .ok (.iastore, 1) := by decide +kernel
theorem dX0_clearSlot_7 : decode cX0_clearSlot 7 = .ok (.aload_n 0, 1) := by decide +kernel
theorem dX0_clearSlot_8 : decode cX0_clearSlot 8 = .ok (.getfield 13, 3) := by decide +kernel
theorem dX0_clearSlot_11 : decode cX0_clearSlot 11 = .ok (.iload_n 1, 1) := by decide +kernel
theorem dX0_clearSlot_12 : decode cX0_clearSlot 12 = .ok (.iconst 0, 1) := by decide +kernel
theorem dX0_clearSlot_13 : decode cX0_clearSlot 13 = .ok (.iastore, 1) := by decide +kernel
theorem dX0_clearSlot_14 : decode cX0_clearSlot 14 = .ok (.return_, 1) := by decide +kernel
theorem dX0_isExponent_0 : decode cX0_isExponent 0 = .ok (.iload_n 1, 1) := by decide +kernel
theorem dX0_isExponent_1 : decode cX0_isExponent 1 = .ok (.iconst 1, 1) := by decide +kernel
theorem dX0_isExponent_2 : decode cX0_isExponent 2 = .ok (.if_icmp .lt 15, 3) := by decide +kernel
theorem dX0_isExponent_5 : decode cX0_isExponent 5 = .ok (.iload_n 1, 1) := by decide +kernel
theorem dX0_isExponent_6 : decode cX0_isExponent 6 = .ok (.aload_n 0, 1) := by decide +kernel
theorem dX0_isExponent_7 : decode cX0_isExponent 7 = .ok (.getfield 69, 3) := by decide +kernel
theorem dX0_isExponent_10 : decode cX0_isExponent 10 = .ok (.if_icmp .ge 7, 3) := by decide +kernel
theorem dX0_isExponent_13 : decode cX0_isExponent 13 = .ok (.iconst 1, 1) := by decide +kernel
theorem dX0_isExponent_14 : decode cX0_isExponent 14 = .ok (.goto 4, 3) := by decide +kernel
theorem dX0_isExponent_17 : decode cX0_isExponent 17 = .ok (.iconst 0, 1) := by decide +kernel
theorem dX0_isExponent_18 : decode cX0_isExponent 18 = .ok (.ireturn, 1) := by decide +kernel
theorem dX0_isPeer_0 : decode cX0_isPeer 0 = .ok (.iload_n 1, 1) := by decide +kernel
theorem dX0_isPeer_1 : decode cX0_isPeer 1 = .ok (.iconst 2, 1) := by decide +kernel
theorem dX0_isPeer_2 : decode cX0_isPeer 2 = .ok (.if_icmp .lt 17, 3) := by decide +kernel
theorem dX0_isPeer_5 : decode cX0_isPeer 5 = .ok (.iload_n 1, 1) := by decide +kernel
theorem dX0_isPeer_6 : decode cX0_isPeer 6 = .ok (.aload_n 0, 1) := by decide +kernel
theorem dX0_isPeer_7 : decode cX0_isPeer 7 = .ok (.getfield 66, 3) := by decide +kernel
theorem dX0_isPeer_10 : decode cX0_isPeer 10 = .ok (.iconst 2, 1) := by decide +kernel
theorem dX0_isPeer_11 : decode cX0_isPeer 11 = .ok (.isub, 1) := by decide +kernel
theorem dX0_isPeer_12 : decode cX0_isPeer 12 = .ok (.if_icmp .gt 7, 3) := by decide +kernel
theorem dX0_isPeer_15 : decode cX0_isPeer 15 = .ok (.iconst 1, 1) := by decide +kernel
theorem dX0_isPeer_16 : decode cX0_isPeer 16 = .ok (.goto 4, 3) := by decide +kernel
theorem dX0_isPeer_19 : decode cX0_isPeer 19 = .ok (.iconst 0, 1) := by decide +kernel
theorem dX0_isPeer_20 : decode cX0_isPeer 20 = .ok (.ireturn, 1) := by decide +kernel
theorem dX0_isSlot_0 : decode cX0_isSlot 0 = .ok (.iload_n 0, 1) := by decide +kernel
theorem dX0_isSlot_1 : decode cX0_isSlot 1 = .ok (.ifCond .lt 13, 3) := by decide +kernel
theorem dX0_isSlot_4 : decode cX0_isSlot 4 = .ok (.iload_n 0, 1) := by decide +kernel
theorem dX0_isSlot_5 : decode cX0_isSlot 5 = .ok (.bipush 8, 2) := by decide +kernel
theorem dX0_isSlot_7 : decode cX0_isSlot 7 = .ok (.if_icmp .ge 7, 3) := by decide +kernel
theorem dX0_isSlot_10 : decode cX0_isSlot 10 = .ok (.iconst 1, 1) := by decide +kernel
theorem dX0_isSlot_11 : decode cX0_isSlot 11 = .ok (.goto 4, 3) := by decide +kernel
theorem dX0_isSlot_14 : decode cX0_isSlot 14 = .ok (.iconst 0, 1) := by decide +kernel
theorem dX0_isSlot_15 : decode cX0_isSlot 15 = .ok (.ireturn, 1) := by decide +kernel
set_option maxRecDepth 20000 in
theorem ggX0_isDomain_X0_isPrime : GoodIn wsX0_isDomain wsX0_isPrime := goodIn_r _ [4, 5] (by decide +kernel) (by decide +kernel)
set_option maxRecDepth 20000 in
theorem gX0_isDomain_X0_isPrime : GoodIn wsX0_isDomain (va_wsS RX0 131 yX0_isPrime wsX0_isPrime) := goodIn_app (goodIn_of _ (by decide +kernel)) ggX0_isDomain_X0_isPrime
set_option maxRecDepth 20000 in
theorem ggX0_isDomain_X0_power : GoodIn wsX0_isDomain wsX0_power := goodIn_r _ [8] (by decide +kernel) (by decide +kernel)
set_option maxRecDepth 20000 in
theorem gX0_isDomain_X0_power : GoodIn wsX0_isDomain (va_wsS RX0 96 yX0_power wsX0_power) := goodIn_app (goodIn_of _ (by decide +kernel)) ggX0_isDomain_X0_power
theorem dX0_isDomain_0 : decode cX0_isDomain 0 = .ok (.iload_n 1, 1) := by decide +kernel
theorem dX0_isDomain_1 : decode cX0_isDomain 1 = .ok (.iconst 3, 1) := by decide +kernel
theorem dX0_isDomain_2 : decode cX0_isDomain 2 = .ok (.if_icmp .lt 13, 3) := by decide +kernel
theorem dX0_isDomain_5 : decode cX0_isDomain 5 = .ok (.iload_n 2, 1) := by decide +kernel
theorem dX0_isDomain_6 : decode cX0_isDomain 6 = .ok (.iconst 2, 1) := by decide +kernel
theorem dX0_isDomain_7 : decode cX0_isDomain 7 = .ok (.if_icmp .lt 8, 3) := by decide +kernel
theorem dX0_isDomain_10 : decode cX0_isDomain 10 = .ok (.iload_n 2, 1) := by decide +kernel
theorem dX0_isDomain_11 : decode cX0_isDomain 11 = .ok (.iload_n 0, 1) := by decide +kernel
theorem dX0_isDomain_12 : decode cX0_isDomain 12 = .ok (.if_icmp .lt 5, 3) := by decide +kernel
theorem dX0_isDomain_15 : decode cX0_isDomain 15 = .ok (.iconst 0, 1) := by decide +kernel
theorem dX0_isDomain_16 : decode cX0_isDomain 16 = .ok (.ireturn, 1) := by decide +kernel
theorem dX0_isDomain_17 : decode cX0_isDomain 17 = .ok (.iload_n 0, 1) := by decide +kernel
theorem dX0_isDomain_18 : decode cX0_isDomain 18 = .ok (.iconst 1, 1) := by decide +kernel
theorem dX0_isDomain_19 : decode cX0_isDomain 19 = .ok (.isub, 1) := by decide +kernel
theorem dX0_isDomain_20 : decode cX0_isDomain 20 = .ok (.iload_n 1, 1) := by decide +kernel
theorem dX0_isDomain_21 : decode cX0_isDomain 21 = .ok (.irem, 1) := by decide +kernel
theorem dX0_isDomain_22 : decode cX0_isDomain 22 = .ok (.ifCond .ne 31, 3) := by decide +kernel
theorem dX0_isDomain_25 : decode cX0_isDomain 25 = .ok (.iload_n 1, 1) := by decide +kernel
theorem dX0_isDomain_26 : decode cX0_isDomain 26 = .ok (.invokestatic 131, 3) := by decide +kernel
theorem dX0_isDomain_29 : decode cX0_isDomain 29 = .ok (.ifCond .eq 24, 3) := by decide +kernel
theorem dX0_isDomain_32 : decode cX0_isDomain 32 = .ok (.iload_n 0, 1) := by decide +kernel
theorem dX0_isDomain_33 : decode cX0_isDomain 33 = .ok (.invokestatic 131, 3) := by decide +kernel
theorem dX0_isDomain_36 : decode cX0_isDomain 36 = .ok (.ifCond .eq 17, 3) := by decide +kernel
theorem dX0_isDomain_39 : decode cX0_isDomain 39 = .ok (.iload_n 2, 1) := by decide +kernel
theorem dX0_isDomain_40 : decode cX0_isDomain 40 = .ok (.iload_n 1, 1) := by decide +kernel
theorem dX0_isDomain_41 : decode cX0_isDomain 41 = .ok (.iload_n 0, 1) := by decide +kernel
theorem dX0_isDomain_42 : decode cX0_isDomain 42 = .ok (.invokestatic 96, 3) := by decide +kernel
theorem dX0_isDomain_45 : decode cX0_isDomain 45 = .ok (.iconst 1, 1) := by decide +kernel
theorem dX0_isDomain_46 : decode cX0_isDomain 46 = .ok (.if_icmp .ne 7, 3) := by decide +kernel
theorem dX0_isDomain_49 : decode cX0_isDomain 49 = .ok (.iconst 1, 1) := by decide +kernel
theorem dX0_isDomain_50 : decode cX0_isDomain 50 = .ok (.goto 4, 3) := by decide +kernel
theorem dX0_isDomain_53 : decode cX0_isDomain 53 = .ok (.iconst 0, 1) := by decide +kernel
theorem dX0_isDomain_54 : decode cX0_isDomain 54 = .ok (.ireturn, 1) := by decide +kernel
set_option maxRecDepth 20000 in
theorem ggX0_counterFrom_X0_orderFrom : GoodIn wsX0_counterFrom wsX0_orderFrom := goodIn_r _ [5, 6, 7, 4, 8, 9, 10, 11] (by decide +kernel) (by decide +kernel)
set_option maxRecDepth 20000 in
theorem gX0_counterFrom_X0_orderFrom : GoodIn wsX0_counterFrom (va_wsS RX0 20 yX0_orderFrom wsX0_orderFrom) := goodIn_app (goodIn_of _ (by decide +kernel)) ggX0_counterFrom_X0_orderFrom
set_option maxRecDepth 20000 in
theorem ggX0_counterFrom_X0_isPrime : GoodIn wsX0_counterFrom wsX0_isPrime := goodIn_r _ [14, 15] (by decide +kernel) (by decide +kernel)
set_option maxRecDepth 20000 in
theorem gX0_counterFrom_X0_isPrime : GoodIn wsX0_counterFrom (va_wsS RX0 131 yX0_isPrime wsX0_isPrime) := goodIn_app (goodIn_of _ (by decide +kernel)) ggX0_counterFrom_X0_isPrime
set_option maxRecDepth 20000 in
theorem ggX0_counterFrom_X0_fieldTry : GoodIn wsX0_counterFrom wsX0_fieldTry := goodIn_r _ [18, 19, 6, 7, 4, 8, 9, 10, 11] (by decide +kernel) (by decide +kernel)
set_option maxRecDepth 20000 in
theorem gX0_counterFrom_X0_fieldTry : GoodIn wsX0_counterFrom (va_wsS RX0 27 yX0_fieldTry wsX0_fieldTry) := goodIn_app (goodIn_of _ (by decide +kernel)) ggX0_counterFrom_X0_fieldTry
theorem dX0_counterFrom_0 : decode cX0_counterFrom 0 = .ok (.lload_n 0, 1) := by decide +kernel
theorem dX0_counterFrom_1 : decode cX0_counterFrom 1 = .ok (.invokestatic 20, 3) := by decide +kernel
theorem dX0_counterFrom_4 : decode cX0_counterFrom 4 = .ok (.istore_n 2, 1) := by decide +kernel
theorem dX0_counterFrom_5 : decode cX0_counterFrom 5 = .ok (.iload_n 2, 1) := by decide +kernel
theorem dX0_counterFrom_6 : decode cX0_counterFrom 6 = .ok (.invokestatic 131, 3) := by decide +kernel
theorem dX0_counterFrom_9 : decode cX0_counterFrom 9 = .ok (.ifCond .ne 5, 3) := by decide +kernel
theorem dX0_counterFrom_12 : decode cX0_counterFrom 12 = .ok (.iconst (-1), 1) := by decide +kernel
theorem dX0_counterFrom_13 : decode cX0_counterFrom 13 = .ok (.ireturn, 1) := by decide +kernel
theorem dX0_counterFrom_14 : decode cX0_counterFrom 14 = .ok (.iconst 0, 1) := by decide +kernel
theorem dX0_counterFrom_15 : decode cX0_counterFrom 15 = .ok (.istore_n 3, 1) := by decide +kernel
theorem dX0_counterFrom_16 : decode cX0_counterFrom 16 = .ok (.iload_n 3, 1) := by decide +kernel
theorem dX0_counterFrom_17 : decode cX0_counterFrom 17 = .ok (.bipush 64, 2) := by decide +kernel
theorem dX0_counterFrom_19 : decode cX0_counterFrom 19 = .ok (.if_icmp .ge 34, 3) := by decide +kernel
theorem dX0_counterFrom_22 : decode cX0_counterFrom 22 = .ok (.lload_n 0, 1) := by decide +kernel
theorem dX0_counterFrom_23 : decode cX0_counterFrom 23 = .ok (.iload_n 2, 1) := by decide +kernel
theorem dX0_counterFrom_24 : decode cX0_counterFrom 24 = .ok (.iload_n 3, 1) := by decide +kernel
theorem dX0_counterFrom_25 : decode cX0_counterFrom 25 = .ok (.invokestatic 27, 3) := by decide +kernel
theorem dX0_counterFrom_28 : decode cX0_counterFrom 28 = .ok (.istore 4, 2) := by decide +kernel
theorem dX0_counterFrom_30 : decode cX0_counterFrom 30 = .ok (.iload 4, 2) := by decide +kernel
theorem dX0_counterFrom_32 : decode cX0_counterFrom 32 = .ok (.ldc 134, 2) := by decide +kernel
theorem dX0_counterFrom_34 : decode cX0_counterFrom 34 = .ok (.if_icmp .le 13, 3) := by decide +kernel
theorem dX0_counterFrom_37 : decode cX0_counterFrom 37 = .ok (.iload 4, 2) := by decide +kernel
theorem dX0_counterFrom_39 : decode cX0_counterFrom 39 = .ok (.invokestatic 131, 3) := by decide +kernel
theorem dX0_counterFrom_42 : decode cX0_counterFrom 42 = .ok (.ifCond .eq 5, 3) := by decide +kernel
theorem dX0_counterFrom_45 : decode cX0_counterFrom 45 = .ok (.iload_n 3, 1) := by decide +kernel
theorem dX0_counterFrom_46 : decode cX0_counterFrom 46 = .ok (.ireturn, 1) := by decide +kernel
theorem dX0_counterFrom_47 : decode cX0_counterFrom 47 = .ok (.iinc 3 1, 3) := by decide +kernel
theorem dX0_counterFrom_50 : decode cX0_counterFrom 50 = .ok (.goto (-34), 3) := by decide +kernel
theorem dX0_counterFrom_53 : decode cX0_counterFrom 53 = .ok (.bipush (-2), 2) := by decide +kernel
theorem dX0_counterFrom_55 : decode cX0_counterFrom 55 = .ok (.ireturn, 1) := by decide +kernel
set_option maxRecDepth 20000 in
theorem ggX0_orderFrom_X0_mix : GoodIn wsX0_orderFrom wsX0_mix := goodIn_r _ [4, 5, 6, 7] (by decide +kernel) (by decide +kernel)
set_option maxRecDepth 20000 in
theorem gX0_orderFrom_X0_mix : GoodIn wsX0_orderFrom (va_wsS RX0 53 yX0_mix wsX0_mix) := goodIn_app (goodIn_of _ (by decide +kernel)) ggX0_orderFrom_X0_mix
theorem dX0_orderFrom_0 : decode cX0_orderFrom 0 = .ok (.sipush 16385, 3) := by decide +kernel
theorem dX0_orderFrom_3 : decode cX0_orderFrom 3 = .ok (.iconst 2, 1) := by decide +kernel
theorem dX0_orderFrom_4 : decode cX0_orderFrom 4 = .ok (.lload_n 0, 1) := by decide +kernel
theorem dX0_orderFrom_5 : decode cX0_orderFrom 5 = .ok (.lconst 0, 1) := by decide +kernel
theorem dX0_orderFrom_6 : decode cX0_orderFrom 6 = .ok (.invokestatic 53, 3) := by decide +kernel
theorem dX0_orderFrom_9 : decode cX0_orderFrom 9 = .ok (.bipush 51, 2) := by decide +kernel
theorem dX0_orderFrom_11 : decode cX0_orderFrom 11 = .ok (.lushr, 1) := by decide +kernel
theorem dX0_orderFrom_12 : decode cX0_orderFrom 12 = .ok (.l2i, 1) := by decide +kernel
theorem dX0_orderFrom_13 : decode cX0_orderFrom 13 = .ok (.imul, 1) := by decide +kernel
theorem dX0_orderFrom_14 : decode cX0_orderFrom 14 = .ok (.iadd, 1) := by decide +kernel
theorem dX0_orderFrom_15 : decode cX0_orderFrom 15 = .ok (.ireturn, 1) := by decide +kernel
set_option maxRecDepth 20000 in
theorem ggX0_fieldTry_X0_mix : GoodIn wsX0_fieldTry wsX0_mix := goodIn_r _ [5, 6, 7, 8] (by decide +kernel) (by decide +kernel)
set_option maxRecDepth 20000 in
theorem gX0_fieldTry_X0_mix : GoodIn wsX0_fieldTry (va_wsS RX0 53 yX0_mix wsX0_mix) := goodIn_app (goodIn_of _ (by decide +kernel)) ggX0_fieldTry_X0_mix
theorem dX0_fieldTry_0 : decode cX0_fieldTry 0 = .ok (.ldc2_w 135, 3) := by decide +kernel
theorem dX0_fieldTry_3 : decode cX0_fieldTry 3 = .ok (.lload_n 0, 1) := by decide +kernel
theorem dX0_fieldTry_4 : decode cX0_fieldTry 4 = .ok (.iconst 1, 1) := by decide +kernel
theorem dX0_fieldTry_5 : decode cX0_fieldTry 5 = .ok (.iload_n 3, 1) := by decide +kernel
theorem dX0_fieldTry_6 : decode cX0_fieldTry 6 = .ok (.iadd, 1) := by decide +kernel
theorem dX0_fieldTry_7 : decode cX0_fieldTry 7 = .ok (.i2l, 1) := by decide +kernel
theorem dX0_fieldTry_8 : decode cX0_fieldTry 8 = .ok (.invokestatic 53, 3) := by decide +kernel
theorem dX0_fieldTry_11 : decode cX0_fieldTry 11 = .ok (.bipush 34, 2) := by decide +kernel
theorem dX0_fieldTry_13 : decode cX0_fieldTry 13 = .ok (.lushr, 1) := by decide +kernel
theorem dX0_fieldTry_14 : decode cX0_fieldTry 14 = .ok (.ladd, 1) := by decide +kernel
theorem dX0_fieldTry_15 : decode cX0_fieldTry 15 = .ok (.lstore 4, 2) := by decide +kernel
theorem dX0_fieldTry_17 : decode cX0_fieldTry 17 = .ok (.lload 4, 2) := by decide +kernel
theorem dX0_fieldTry_19 : decode cX0_fieldTry 19 = .ok (.lload 4, 2) := by decide +kernel
theorem dX0_fieldTry_21 : decode cX0_fieldTry 21 = .ok (.iconst 2, 1) := by decide +kernel
theorem dX0_fieldTry_22 : decode cX0_fieldTry 22 = .ok (.iload_n 2, 1) := by decide +kernel
theorem dX0_fieldTry_23 : decode cX0_fieldTry 23 = .ok (.imul, 1) := by decide +kernel
theorem dX0_fieldTry_24 : decode cX0_fieldTry 24 = .ok (.i2l, 1) := by decide +kernel
theorem dX0_fieldTry_25 : decode cX0_fieldTry 25 = .ok (.lrem, 1) := by decide +kernel
theorem dX0_fieldTry_26 : decode cX0_fieldTry 26 = .ok (.lsub, 1) := by decide +kernel
theorem dX0_fieldTry_27 : decode cX0_fieldTry 27 = .ok (.lconst 1, 1) := by decide +kernel
theorem dX0_fieldTry_28 : decode cX0_fieldTry 28 = .ok (.ladd, 1) := by decide +kernel
theorem dX0_fieldTry_29 : decode cX0_fieldTry 29 = .ok (.l2i, 1) := by decide +kernel
theorem dX0_fieldTry_30 : decode cX0_fieldTry 30 = .ok (.ireturn, 1) := by decide +kernel
set_option maxRecDepth 20000 in
theorem ggX0_generatorFrom_X0_mix : GoodIn wsX0_generatorFrom wsX0_mix := goodIn_r _ [4, 5, 6, 7] (by decide +kernel) (by decide +kernel)
set_option maxRecDepth 20000 in
theorem gX0_generatorFrom_X0_mix : GoodIn wsX0_generatorFrom (va_wsS RX0 53 yX0_mix wsX0_mix) := goodIn_app (goodIn_of _ (by decide +kernel)) ggX0_generatorFrom_X0_mix
set_option maxRecDepth 20000 in
theorem ggX0_generatorFrom_X0_power : GoodIn wsX0_generatorFrom wsX0_power := goodIn_r _ [10] (by decide +kernel) (by decide +kernel)
set_option maxRecDepth 20000 in
theorem gX0_generatorFrom_X0_power : GoodIn wsX0_generatorFrom (va_wsS RX0 96 yX0_power wsX0_power) := goodIn_app (goodIn_of _ (by decide +kernel)) ggX0_generatorFrom_X0_power
theorem dX0_generatorFrom_0 : decode cX0_generatorFrom 0 = .ok (.iconst 1, 1) := by decide +kernel
theorem dX0_generatorFrom_1 : decode cX0_generatorFrom 1 = .ok (.istore 4, 2) := by decide +kernel
theorem dX0_generatorFrom_3 : decode cX0_generatorFrom 3 = .ok (.iload 4, 2) := by decide +kernel
theorem dX0_generatorFrom_5 : decode cX0_generatorFrom 5 = .ok (.bipush 100, 2) := by decide +kernel
theorem dX0_generatorFrom_7 : decode cX0_generatorFrom 7 = .ok (.if_icmp .gt 42, 3) := by decide +kernel
theorem dX0_generatorFrom_10 : decode cX0_generatorFrom 10 = .ok (.lload_n 0, 1) := by decide +kernel
theorem dX0_generatorFrom_11 : decode cX0_generatorFrom 11 = .ok (.iload 4, 2) := by decide +kernel
theorem dX0_generatorFrom_13 : decode cX0_generatorFrom 13 = .ok (.i2l, 1) := by decide +kernel
theorem dX0_generatorFrom_14 : decode cX0_generatorFrom 14 = .ok (.invokestatic 53, 3) := by decide +kernel
theorem dX0_generatorFrom_17 : decode cX0_generatorFrom 17 = .ok (.iconst 1, 1) := by decide +kernel
theorem dX0_generatorFrom_18 : decode cX0_generatorFrom 18 = .ok (.lushr, 1) := by decide +kernel
theorem dX0_generatorFrom_19 : decode cX0_generatorFrom 19 = .ok (.iload_n 2, 1) := by decide +kernel
theorem dX0_generatorFrom_20 : decode cX0_generatorFrom 20 = .ok (.i2l, 1) := by decide +kernel
theorem dX0_generatorFrom_21 : decode cX0_generatorFrom 21 = .ok (.lrem, 1) := by decide +kernel
theorem dX0_generatorFrom_22 : decode cX0_generatorFrom 22 = .ok (.l2i, 1) := by decide +kernel
theorem dX0_generatorFrom_23 : decode cX0_generatorFrom 23 = .ok (.istore 5, 2) := by decide +kernel
theorem dX0_generatorFrom_25 : decode cX0_generatorFrom 25 = .ok (.iload 5, 2) := by decide +kernel
theorem dX0_generatorFrom_27 : decode cX0_generatorFrom 27 = .ok (.iload_n 3, 1) := by decide +kernel
theorem dX0_generatorFrom_28 : decode cX0_generatorFrom 28 = .ok (.iload_n 2, 1) := by decide +kernel
theorem dX0_generatorFrom_29 : decode cX0_generatorFrom 29 = .ok (.invokestatic 96, 3) := by decide +kernel
theorem dX0_generatorFrom_32 : decode cX0_generatorFrom 32 = .ok (.istore 6, 2) := by decide +kernel
theorem dX0_generatorFrom_34 : decode cX0_generatorFrom 34 = .ok (.iload 6, 2) := by decide +kernel
theorem dX0_generatorFrom_36 : decode cX0_generatorFrom 36 = .ok (.iconst 1, 1) := by decide +kernel
theorem dX0_generatorFrom_37 : decode cX0_generatorFrom 37 = .ok (.if_icmp .le 6, 3) := by decide +kernel
theorem dX0_generatorFrom_40 : decode cX0_generatorFrom 40 = .ok (.iload 6, 2) := by decide +kernel
theorem dX0_generatorFrom_42 : decode cX0_generatorFrom 42 = .ok (.ireturn, 1) := by decide +kernel
theorem dX0_generatorFrom_43 : decode cX0_generatorFrom 43 = .ok (.iinc 4 1, 3) := by decide +kernel
theorem dX0_generatorFrom_46 : decode cX0_generatorFrom 46 = .ok (.goto (-43), 3) := by decide +kernel
theorem dX0_generatorFrom_49 : decode cX0_generatorFrom 49 = .ok (.iconst 1, 1) := by decide +kernel
theorem dX0_generatorFrom_50 : decode cX0_generatorFrom 50 = .ok (.ireturn, 1) := by decide +kernel
theorem dX0_isPrime_0 : decode cX0_isPrime 0 = .ok (.iload_n 0, 1) := by decide +kernel
theorem dX0_isPrime_1 : decode cX0_isPrime 1 = .ok (.iconst 2, 1) := by decide +kernel
theorem dX0_isPrime_2 : decode cX0_isPrime 2 = .ok (.if_icmp .lt 9, 3) := by decide +kernel
theorem dX0_isPrime_5 : decode cX0_isPrime 5 = .ok (.iload_n 0, 1) := by decide +kernel
theorem dX0_isPrime_6 : decode cX0_isPrime 6 = .ok (.iconst 2, 1) := by decide +kernel
theorem dX0_isPrime_7 : decode cX0_isPrime 7 = .ok (.irem, 1) := by decide +kernel
theorem dX0_isPrime_8 : decode cX0_isPrime 8 = .ok (.ifCond .ne 14, 3) := by decide +kernel
theorem dX0_isPrime_11 : decode cX0_isPrime 11 = .ok (.iload_n 0, 1) := by decide +kernel
theorem dX0_isPrime_12 : decode cX0_isPrime 12 = .ok (.iconst 2, 1) := by decide +kernel
theorem dX0_isPrime_13 : decode cX0_isPrime 13 = .ok (.if_icmp .ne 7, 3) := by decide +kernel
theorem dX0_isPrime_16 : decode cX0_isPrime 16 = .ok (.iconst 1, 1) := by decide +kernel
theorem dX0_isPrime_17 : decode cX0_isPrime 17 = .ok (.goto 4, 3) := by decide +kernel
theorem dX0_isPrime_20 : decode cX0_isPrime 20 = .ok (.iconst 0, 1) := by decide +kernel
theorem dX0_isPrime_21 : decode cX0_isPrime 21 = .ok (.ireturn, 1) := by decide +kernel
theorem dX0_isPrime_22 : decode cX0_isPrime 22 = .ok (.iconst 3, 1) := by decide +kernel
theorem dX0_isPrime_23 : decode cX0_isPrime 23 = .ok (.istore_n 1, 1) := by decide +kernel
theorem dX0_isPrime_24 : decode cX0_isPrime 24 = .ok (.iload_n 1, 1) := by decide +kernel
theorem dX0_isPrime_25 : decode cX0_isPrime 25 = .ok (.ldc 137, 2) := by decide +kernel
theorem dX0_isPrime_27 : decode cX0_isPrime 27 = .ok (.if_icmp .gt 26, 3) := by decide +kernel
theorem dX0_isPrime_30 : decode cX0_isPrime 30 = .ok (.iload_n 1, 1) := by decide +kernel
theorem dX0_isPrime_31 : decode cX0_isPrime 31 = .ok (.iload_n 1, 1) := by decide +kernel
theorem dX0_isPrime_32 : decode cX0_isPrime 32 = .ok (.imul, 1) := by decide +kernel
theorem dX0_isPrime_33 : decode cX0_isPrime 33 = .ok (.iload_n 0, 1) := by decide +kernel
theorem dX0_isPrime_34 : decode cX0_isPrime 34 = .ok (.if_icmp .le 5, 3) := by decide +kernel
theorem dX0_isPrime_37 : decode cX0_isPrime 37 = .ok (.iconst 1, 1) := by decide +kernel
theorem dX0_isPrime_38 : decode cX0_isPrime 38 = .ok (.ireturn, 1) := by decide +kernel
theorem dX0_isPrime_39 : decode cX0_isPrime 39 = .ok (.iload_n 0, 1) := by decide +kernel
theorem dX0_isPrime_40 : decode cX0_isPrime 40 = .ok (.iload_n 1, 1) := by decide +kernel
theorem dX0_isPrime_41 : decode cX0_isPrime 41 = .ok (.irem, 1) := by decide +kernel
theorem dX0_isPrime_42 : decode cX0_isPrime 42 = .ok (.ifCond .ne 5, 3) := by decide +kernel
theorem dX0_isPrime_45 : decode cX0_isPrime 45 = .ok (.iconst 0, 1) := by decide +kernel
theorem dX0_isPrime_46 : decode cX0_isPrime 46 = .ok (.ireturn, 1) := by decide +kernel
theorem dX0_isPrime_47 : decode cX0_isPrime 47 = .ok (.iinc 1 2, 3) := by decide +kernel
theorem dX0_isPrime_50 : decode cX0_isPrime 50 = .ok (.goto (-26), 3) := by decide +kernel
theorem dX0_isPrime_53 : decode cX0_isPrime 53 = .ok (.iconst 1, 1) := by decide +kernel
theorem dX0_isPrime_54 : decode cX0_isPrime 54 = .ok (.ireturn, 1) := by decide +kernel
theorem dX0_power_0 : decode cX0_power 0 = .ok (.lconst 1, 1) := by decide +kernel
theorem dX0_power_1 : decode cX0_power 1 = .ok (.lstore_n 3, 1) := by decide +kernel
theorem dX0_power_2 : decode cX0_power 2 = .ok (.bipush 30, 2) := by decide +kernel
theorem dX0_power_4 : decode cX0_power 4 = .ok (.istore 5, 2) := by decide +kernel
theorem dX0_power_6 : decode cX0_power 6 = .ok (.iload 5, 2) := by decide +kernel
theorem dX0_power_8 : decode cX0_power 8 = .ok (.ifCond .lt 34, 3) := by decide +kernel
theorem dX0_power_11 : decode cX0_power 11 = .ok (.lload_n 3, 1) := by decide +kernel
theorem dX0_power_12 : decode cX0_power 12 = .ok (.lload_n 3, 1) := by decide +kernel
theorem dX0_power_13 : decode cX0_power 13 = .ok (.lmul, 1) := by decide +kernel
theorem dX0_power_14 : decode cX0_power 14 = .ok (.iload_n 2, 1) := by decide +kernel
theorem dX0_power_15 : decode cX0_power 15 = .ok (.i2l, 1) := by decide +kernel
theorem dX0_power_16 : decode cX0_power 16 = .ok (.lrem, 1) := by decide +kernel
theorem dX0_power_17 : decode cX0_power 17 = .ok (.lstore_n 3, 1) := by decide +kernel
theorem dX0_power_18 : decode cX0_power 18 = .ok (.iload_n 1, 1) := by decide +kernel
theorem dX0_power_19 : decode cX0_power 19 = .ok (.iload 5, 2) := by decide +kernel
theorem dX0_power_21 : decode cX0_power 21 = .ok (.iushr, 1) := by decide +kernel
theorem dX0_power_22 : decode cX0_power 22 = .ok (.iconst 1, 1) := by decide +kernel
theorem dX0_power_23 : decode cX0_power 23 = .ok (.iand, 1) := by decide +kernel
theorem dX0_power_24 : decode cX0_power 24 = .ok (.iconst 1, 1) := by decide +kernel
theorem dX0_power_25 : decode cX0_power 25 = .ok (.if_icmp .ne 11, 3) := by decide +kernel
theorem dX0_power_28 : decode cX0_power 28 = .ok (.lload_n 3, 1) := by decide +kernel
theorem dX0_power_29 : decode cX0_power 29 = .ok (.iload_n 0, 1) := by decide +kernel
theorem dX0_power_30 : decode cX0_power 30 = .ok (.i2l, 1) := by decide +kernel
theorem dX0_power_31 : decode cX0_power 31 = .ok (.lmul, 1) := by decide +kernel
theorem dX0_power_32 : decode cX0_power 32 = .ok (.iload_n 2, 1) := by decide +kernel
theorem dX0_power_33 : decode cX0_power 33 = .ok (.i2l, 1) := by decide +kernel
theorem dX0_power_34 : decode cX0_power 34 = .ok (.lrem, 1) := by decide +kernel
theorem dX0_power_35 : decode cX0_power 35 = .ok (.lstore_n 3, 1) := by decide +kernel
theorem dX0_power_36 : decode cX0_power 36 = .ok (.iinc 5 (-1), 3) := by decide +kernel
theorem dX0_power_39 : decode cX0_power 39 = .ok (.goto (-33), 3) := by decide +kernel
theorem dX0_power_42 : decode cX0_power 42 = .ok (.lload_n 3, 1) := by decide +kernel
theorem dX0_power_43 : decode cX0_power 43 = .ok (.l2i, 1) := by decide +kernel
theorem dX0_power_44 : decode cX0_power 44 = .ok (.ireturn, 1) := by decide +kernel
set_option maxRecDepth 20000 in
theorem ggX0_inverse_X0_power : GoodIn wsX0_inverse wsX0_power := goodIn_r _ [4] (by decide +kernel) (by decide +kernel)
set_option maxRecDepth 20000 in
theorem gX0_inverse_X0_power : GoodIn wsX0_inverse (va_wsS RX0 96 yX0_power wsX0_power) := goodIn_app (goodIn_of _ (by decide +kernel)) ggX0_inverse_X0_power
theorem dX0_inverse_0 : decode cX0_inverse 0 = .ok (.iload_n 0, 1) := by decide +kernel
theorem dX0_inverse_1 : decode cX0_inverse 1 = .ok (.iload_n 1, 1) := by decide +kernel
theorem dX0_inverse_2 : decode cX0_inverse 2 = .ok (.iconst 2, 1) := by decide +kernel
theorem dX0_inverse_3 : decode cX0_inverse 3 = .ok (.isub, 1) := by decide +kernel
theorem dX0_inverse_4 : decode cX0_inverse 4 = .ok (.iload_n 1, 1) := by decide +kernel
theorem dX0_inverse_5 : decode cX0_inverse 5 = .ok (.invokestatic 96, 3) := by decide +kernel
theorem dX0_inverse_8 : decode cX0_inverse 8 = .ok (.ireturn, 1) := by decide +kernel
theorem dX0_mix_0 : decode cX0_mix 0 = .ok (.lload_n 0, 1) := by decide +kernel
theorem dX0_mix_1 : decode cX0_mix 1 = .ok (.ldc2_w 138, 3) := by decide +kernel
theorem dX0_mix_4 : decode cX0_mix 4 = .ok (.lxor, 1) := by decide +kernel
theorem dX0_mix_5 : decode cX0_mix 5 = .ok (.ldc2_w 140, 3) := by decide +kernel
theorem dX0_mix_8 : decode cX0_mix 8 = .ok (.lmul, 1) := by decide +kernel
theorem dX0_mix_9 : decode cX0_mix 9 = .ok (.lload_n 2, 1) := by decide +kernel
theorem dX0_mix_10 : decode cX0_mix 10 = .ok (.ladd, 1) := by decide +kernel
theorem dX0_mix_11 : decode cX0_mix 11 = .ok (.lstore 4, 2) := by decide +kernel
theorem dX0_mix_13 : decode cX0_mix 13 = .ok (.lload 4, 2) := by decide +kernel
theorem dX0_mix_15 : decode cX0_mix 15 = .ok (.lload 4, 2) := by decide +kernel
theorem dX0_mix_17 : decode cX0_mix 17 = .ok (.bipush 32, 2) := by decide +kernel
theorem dX0_mix_19 : decode cX0_mix 19 = .ok (.lushr, 1) := by decide +kernel
theorem dX0_mix_20 : decode cX0_mix 20 = .ok (.lxor, 1) := by decide +kernel
theorem dX0_mix_21 : decode cX0_mix 21 = .ok (.lstore 4, 2) := by decide +kernel
theorem dX0_mix_23 : decode cX0_mix 23 = .ok (.lload 4, 2) := by decide +kernel
theorem dX0_mix_25 : decode cX0_mix 25 = .ok (.ldc2_w 142, 3) := by decide +kernel
theorem dX0_mix_28 : decode cX0_mix 28 = .ok (.lmul, 1) := by decide +kernel
theorem dX0_mix_29 : decode cX0_mix 29 = .ok (.lstore 4, 2) := by decide +kernel
theorem dX0_mix_31 : decode cX0_mix 31 = .ok (.lload 4, 2) := by decide +kernel
theorem dX0_mix_33 : decode cX0_mix 33 = .ok (.lload 4, 2) := by decide +kernel
theorem dX0_mix_35 : decode cX0_mix 35 = .ok (.bipush 29, 2) := by decide +kernel
theorem dX0_mix_37 : decode cX0_mix 37 = .ok (.lushr, 1) := by decide +kernel
theorem dX0_mix_38 : decode cX0_mix 38 = .ok (.lxor, 1) := by decide +kernel
theorem dX0_mix_39 : decode cX0_mix 39 = .ok (.lreturn, 1) := by decide +kernel
theorem dX1_init_0 : decode cX1_init 0 = .ok (.aload_n 0, 1) := by decide +kernel
theorem dX1_init_1 : decode cX1_init 1 = .ok (.invokespecial 1, 3) := by decide +kernel
theorem dX1_init_4 : decode cX1_init 4 = .ok (.aload_n 0, 1) := by decide +kernel
theorem dX1_init_5 : decode cX1_init 5 = .ok (.bipush 8, 2) := by decide +kernel
theorem dX1_init_7 : decode cX1_init 7 = .ok (.newarray .int, 2) := by decide +kernel
theorem dX1_init_9 : decode cX1_init 9 = .ok (.putfield 7, 3) := by decide +kernel
theorem dX1_init_12 : decode cX1_init 12 = .ok (.return_, 1) := by decide +kernel
theorem dX1_thrown_0 : decode cX1_thrown 0 = .ok (.aload_n 0, 1) := by decide +kernel
theorem dX1_thrown_1 : decode cX1_thrown 1 = .ok (.getfield 13, 3) := by decide +kernel
theorem dX1_thrown_4 : decode cX1_thrown 4 = .ok (.ireturn, 1) := by decide +kernel
theorem dX1_h_0 : decode cX1_h 0 = .ok (.lload_n 0, 1) := by decide +kernel
theorem dX1_h_1 : decode cX1_h 1 = .ok (.ldc2_w 17, 3) := by decide +kernel
theorem dX1_h_4 : decode cX1_h 4 = .ok (.lxor, 1) := by decide +kernel
theorem dX1_h_5 : decode cX1_h 5 = .ok (.ldc2_w 19, 3) := by decide +kernel
theorem dX1_h_8 : decode cX1_h 8 = .ok (.lmul, 1) := by decide +kernel
theorem dX1_h_9 : decode cX1_h 9 = .ok (.lload_n 2, 1) := by decide +kernel
theorem dX1_h_10 : decode cX1_h 10 = .ok (.ladd, 1) := by decide +kernel
theorem dX1_h_11 : decode cX1_h 11 = .ok (.lstore 4, 2) := by decide +kernel
theorem dX1_h_13 : decode cX1_h 13 = .ok (.lload 4, 2) := by decide +kernel
theorem dX1_h_15 : decode cX1_h 15 = .ok (.lload 4, 2) := by decide +kernel
theorem dX1_h_17 : decode cX1_h 17 = .ok (.bipush 32, 2) := by decide +kernel
theorem dX1_h_19 : decode cX1_h 19 = .ok (.lushr, 1) := by decide +kernel
theorem dX1_h_20 : decode cX1_h 20 = .ok (.lxor, 1) := by decide +kernel
theorem dX1_h_21 : decode cX1_h 21 = .ok (.lstore 4, 2) := by decide +kernel
theorem dX1_h_23 : decode cX1_h 23 = .ok (.lload 4, 2) := by decide +kernel
theorem dX1_h_25 : decode cX1_h 25 = .ok (.ldc2_w 21, 3) := by decide +kernel
theorem dX1_h_28 : decode cX1_h 28 = .ok (.lmul, 1) := by decide +kernel
theorem dX1_h_29 : decode cX1_h 29 = .ok (.lstore 4, 2) := by decide +kernel
theorem dX1_h_31 : decode cX1_h 31 = .ok (.lload 4, 2) := by decide +kernel
theorem dX1_h_33 : decode cX1_h 33 = .ok (.lload 4, 2) := by decide +kernel
theorem dX1_h_35 : decode cX1_h 35 = .ok (.bipush 29, 2) := by decide +kernel
theorem dX1_h_37 : decode cX1_h 37 = .ok (.lushr, 1) := by decide +kernel
theorem dX1_h_38 : decode cX1_h 38 = .ok (.lxor, 1) := by decide +kernel
theorem dX1_h_39 : decode cX1_h 39 = .ok (.lreturn, 1) := by decide +kernel
theorem dX1_prime_0 : decode cX1_prime 0 = .ok (.iload_n 0, 1) := by decide +kernel
theorem dX1_prime_1 : decode cX1_prime 1 = .ok (.iconst 4, 1) := by decide +kernel
theorem dX1_prime_2 : decode cX1_prime 2 = .ok (.if_icmp .ge 14, 3) := by decide +kernel
theorem dX1_prime_5 : decode cX1_prime 5 = .ok (.iload_n 0, 1) := by decide +kernel
theorem dX1_prime_6 : decode cX1_prime 6 = .ok (.iconst 1, 1) := by decide +kernel
theorem dX1_prime_7 : decode cX1_prime 7 = .ok (.if_icmp .le 7, 3) := by decide +kernel
theorem dX1_prime_10 : decode cX1_prime 10 = .ok (.iconst 1, 1) := by decide +kernel
theorem dX1_prime_11 : decode cX1_prime 11 = .ok (.goto 4, 3) := by decide +kernel
theorem dX1_prime_14 : decode cX1_prime 14 = .ok (.iconst 0, 1) := by decide +kernel
theorem dX1_prime_15 : decode cX1_prime 15 = .ok (.ireturn, 1) := by decide +kernel
theorem dX1_prime_16 : decode cX1_prime 16 = .ok (.iload_n 0, 1) := by decide +kernel
theorem dX1_prime_17 : decode cX1_prime 17 = .ok (.iconst 2, 1) := by decide +kernel
theorem dX1_prime_18 : decode cX1_prime 18 = .ok (.irem, 1) := by decide +kernel
theorem dX1_prime_19 : decode cX1_prime 19 = .ok (.ifCond .ne 5, 3) := by decide +kernel
theorem dX1_prime_22 : decode cX1_prime 22 = .ok (.iconst 0, 1) := by decide +kernel
theorem dX1_prime_23 : decode cX1_prime 23 = .ok (.ireturn, 1) := by decide +kernel
theorem dX1_prime_24 : decode cX1_prime 24 = .ok (.ldc2_w 23, 3) := by decide +kernel
theorem dX1_prime_27 : decode cX1_prime 27 = .ok (.lstore_n 1, 1) := by decide +kernel
theorem dX1_prime_28 : decode cX1_prime 28 = .ok (.lload_n 1, 1) := by decide +kernel
theorem dX1_prime_29 : decode cX1_prime 29 = .ok (.lload_n 1, 1) := by decide +kernel
theorem dX1_prime_30 : decode cX1_prime 30 = .ok (.lmul, 1) := by decide +kernel
theorem dX1_prime_31 : decode cX1_prime 31 = .ok (.iload_n 0, 1) := by decide +kernel
theorem dX1_prime_32 : decode cX1_prime 32 = .ok (.i2l, 1) := by decide +kernel
theorem dX1_prime_33 : decode cX1_prime 33 = .ok (.lcmp, 1) := by decide +kernel
theorem dX1_prime_34 : decode cX1_prime 34 = .ok (.ifCond .gt 23, 3) := by decide +kernel
theorem dX1_prime_37 : decode cX1_prime 37 = .ok (.iload_n 0, 1) := by decide +kernel
theorem dX1_prime_38 : decode cX1_prime 38 = .ok (.i2l, 1) := by decide +kernel
theorem dX1_prime_39 : decode cX1_prime 39 = .ok (.lload_n 1, 1) := by decide +kernel
theorem dX1_prime_40 : decode cX1_prime 40 = .ok (.lrem, 1) := by decide +kernel
theorem dX1_prime_41 : decode cX1_prime 41 = .ok (.lconst 0, 1) := by decide +kernel
theorem dX1_prime_42 : decode cX1_prime 42 = .ok (.lcmp, 1) := by decide +kernel
theorem dX1_prime_43 : decode cX1_prime 43 = .ok (.ifCond .ne 5, 3) := by decide +kernel
theorem dX1_prime_46 : decode cX1_prime 46 = .ok (.iconst 0, 1) := by decide +kernel
theorem dX1_prime_47 : decode cX1_prime 47 = .ok (.ireturn, 1) := by decide +kernel
theorem dX1_prime_48 : decode cX1_prime 48 = .ok (.lload_n 1, 1) := by decide +kernel
theorem dX1_prime_49 : decode cX1_prime 49 = .ok (.ldc2_w 25, 3) := by decide +kernel
theorem dX1_prime_52 : decode cX1_prime 52 = .ok (.ladd, 1) := by decide +kernel
theorem dX1_prime_53 : decode cX1_prime 53 = .ok (.lstore_n 1, 1) := by decide +kernel
theorem dX1_prime_54 : decode cX1_prime 54 = .ok (.goto (-26), 3) := by decide +kernel
theorem dX1_prime_57 : decode cX1_prime 57 = .ok (.iconst 1, 1) := by decide +kernel
theorem dX1_prime_58 : decode cX1_prime 58 = .ok (.ireturn, 1) := by decide +kernel
theorem dX1_power_0 : decode cX1_power 0 = .ok (.lload_n 0, 1) := by decide +kernel
theorem dX1_power_1 : decode cX1_power 1 = .ok (.lload 4, 2) := by decide +kernel
theorem dX1_power_3 : decode cX1_power 3 = .ok (.lrem, 1) := by decide +kernel
theorem dX1_power_4 : decode cX1_power 4 = .ok (.lstore 6, 2) := by decide +kernel
theorem dX1_power_6 : decode cX1_power 6 = .ok (.lconst 1, 1) := by decide +kernel
theorem dX1_power_7 : decode cX1_power 7 = .ok (.lload 4, 2) := by decide +kernel
theorem dX1_power_9 : decode cX1_power 9 = .ok (.lrem, 1) := by decide +kernel
theorem dX1_power_10 : decode cX1_power 10 = .ok (.lstore 8, 2) := by decide +kernel
theorem dX1_power_12 : decode cX1_power 12 = .ok (.bipush 31, 2) := by decide +kernel
theorem dX1_power_14 : decode cX1_power 14 = .ok (.istore 10, 2) := by decide +kernel
theorem dX1_power_16 : decode cX1_power 16 = .ok (.iload 10, 2) := by decide +kernel
theorem dX1_power_18 : decode cX1_power 18 = .ok (.ifCond .lt 45, 3) := by decide +kernel
theorem dX1_power_21 : decode cX1_power 21 = .ok (.lload 8, 2) := by decide +kernel
theorem dX1_power_23 : decode cX1_power 23 = .ok (.lload 8, 2) := by decide +kernel
theorem dX1_power_25 : decode cX1_power 25 = .ok (.lmul, 1) := by decide +kernel
theorem dX1_power_26 : decode cX1_power 26 = .ok (.lload 4, 2) := by decide +kernel
theorem dX1_power_28 : decode cX1_power 28 = .ok (.lrem, 1) := by decide +kernel
theorem dX1_power_29 : decode cX1_power 29 = .ok (.lstore 8, 2) := by decide +kernel
theorem dX1_power_31 : decode cX1_power 31 = .ok (.lload_n 2, 1) := by decide +kernel
theorem dX1_power_32 : decode cX1_power 32 = .ok (.iload 10, 2) := by decide +kernel
theorem dX1_power_34 : decode cX1_power 34 = .ok (.lshr, 1) := by decide +kernel
theorem dX1_power_35 : decode cX1_power 35 = .ok (.lconst 1, 1) := by decide +kernel
theorem dX1_power_36 : decode cX1_power 36 = .ok (.land, 1) := by decide +kernel
theorem dX1_power_37 : decode cX1_power 37 = .ok (.lconst 1, 1) := by decide +kernel
theorem dX1_power_38 : decode cX1_power 38 = .ok (.lcmp, 1) := by decide +kernel
theorem dX1_power_39 : decode cX1_power 39 = .ok (.ifCond .ne 14, 3) := by decide +kernel
theorem dX1_power_42 : decode cX1_power 42 = .ok (.lload 8, 2) := by decide +kernel
theorem dX1_power_44 : decode cX1_power 44 = .ok (.lload 6, 2) := by decide +kernel
theorem dX1_power_46 : decode cX1_power 46 = .ok (.lmul, 1) := by decide +kernel
theorem dX1_power_47 : decode cX1_power 47 = .ok (.lload 4, 2) := by decide +kernel
theorem dX1_power_49 : decode cX1_power 49 = .ok (.lrem, 1) := by decide +kernel
theorem dX1_power_50 : decode cX1_power 50 = .ok (.goto 5, 3) := by decide +kernel
theorem dX1_power_53 : decode cX1_power 53 = .ok (.lload 8, 2) := by decide +kernel
theorem dX1_power_55 : decode cX1_power 55 = .ok (.lstore 8, 2) := by decide +kernel
theorem dX1_power_57 : decode cX1_power 57 = .ok (.iinc 10 (-1), 3) := by decide +kernel
theorem dX1_power_60 : decode cX1_power 60 = .ok (.goto (-44), 3) := by decide +kernel
theorem dX1_power_63 : decode cX1_power 63 = .ok (.lload 8, 2) := by decide +kernel
theorem dX1_power_65 : decode cX1_power 65 = .ok (.lreturn, 1) := by decide +kernel
set_option maxRecDepth 20000 in
theorem ggX1_make_X1_h : GoodIn wsX1_make wsX1_h := goodIn_r _ [9, 10, 11, 12] (by decide +kernel) (by decide +kernel)
set_option maxRecDepth 20000 in
theorem gX1_make_X1_h : GoodIn wsX1_make (va_wsS RX1 27 yX1_h wsX1_h) := goodIn_app (goodIn_of _ (by decide +kernel)) ggX1_make_X1_h
set_option maxRecDepth 20000 in
theorem ggX1_make_X1_prime : GoodIn wsX1_make wsX1_prime := goodIn_r _ [15, 16, 4] (by decide +kernel) (by decide +kernel)
set_option maxRecDepth 20000 in
theorem gX1_make_X1_prime : GoodIn wsX1_make (va_wsS RX1 34 yX1_prime wsX1_prime) := goodIn_app (goodIn_of _ (by decide +kernel)) ggX1_make_X1_prime
theorem dX1_make_0 : decode cX1_make 0 = .ok (.lload_n 1, 1) := by decide +kernel
theorem dX1_make_1 : decode cX1_make 1 = .ok (.lconst 0, 1) := by decide +kernel
theorem dX1_make_2 : decode cX1_make 2 = .ok (.invokestatic 27, 3) := by decide +kernel
theorem dX1_make_5 : decode cX1_make 5 = .ok (.bipush 51, 2) := by decide +kernel
theorem dX1_make_7 : decode cX1_make 7 = .ok (.lushr, 1) := by decide +kernel
theorem dX1_make_8 : decode cX1_make 8 = .ok (.lstore_n 3, 1) := by decide +kernel
theorem dX1_make_9 : decode cX1_make 9 = .ok (.aload_n 0, 1) := by decide +kernel
theorem dX1_make_10 : decode cX1_make 10 = .ok (.sipush 16385, 3) := by decide +kernel
theorem dX1_make_13 : decode cX1_make 13 = .ok (.iconst 2, 1) := by decide +kernel
theorem dX1_make_14 : decode cX1_make 14 = .ok (.lload_n 3, 1) := by decide +kernel
theorem dX1_make_15 : decode cX1_make 15 = .ok (.l2i, 1) := by decide +kernel
theorem dX1_make_16 : decode cX1_make 16 = .ok (.imul, 1) := by decide +kernel
theorem dX1_make_17 : decode cX1_make 17 = .ok (.iadd, 1) := by decide +kernel
theorem dX1_make_18 : decode cX1_make 18 = .ok (.putfield 31, 3) := by decide +kernel
theorem dX1_make_21 : decode cX1_make 21 = .ok (.aload_n 0, 1) := by decide +kernel
theorem dX1_make_22 : decode cX1_make 22 = .ok (.aload_n 0, 1) := by decide +kernel
theorem dX1_make_23 : decode cX1_make 23 = .ok (.getfield 31, 3) := by decide +kernel
theorem dX1_make_26 : decode cX1_make 26 = .ok (.invokestatic 34, 3) := by decide +kernel
theorem dX1_make_29 : decode cX1_make 29 = .ok (.ifCond .eq 8, 3) := by decide +kernel
theorem dX1_make_32 : decode cX1_make 32 = .ok (.bipush (-2), 2) := by decide +kernel
theorem dX1_make_34 : decode cX1_make 34 = .ok (.goto 4, 3) := by decide +kernel
theorem dX1_make_37 : decode cX1_make 37 = .ok (.iconst (-1), 1) := by decide +kernel
theorem dX1_make_38 : decode cX1_make 38 = .ok (.putfield 38, 3) := by decide +kernel
theorem dX1_make_41 : decode cX1_make 41 = .ok (.iconst 0, 1) := by decide +kernel
theorem dX1_make_42 : decode cX1_make 42 = .ok (.istore 5, 2) := by decide +kernel
theorem dX1_make_44 : decode cX1_make 44 = .ok (.iload 5, 2) := by decide +kernel
theorem dX1_make_46 : decode cX1_make 46 = .ok (.bipush 64, 2) := by decide +kernel
theorem dX1_make_48 : decode cX1_make 48 = .ok (.if_icmp .ge 86, 3) := by decide +kernel
theorem dX1_make_51 : decode cX1_make 51 = .ok (.aload_n 0, 1) := by decide +kernel
theorem dX1_make_52 : decode cX1_make 52 = .ok (.getfield 38, 3) := by decide +kernel
theorem dX1_make_55 : decode cX1_make 55 = .ok (.bipush (-2), 2) := by decide +kernel
theorem dX1_make_57 : decode cX1_make 57 = .ok (.if_icmp .ne 77, 3) := by decide +kernel
theorem dX1_make_60 : decode cX1_make 60 = .ok (.ldc2_w 41, 3) := by decide +kernel
theorem dX1_make_63 : decode cX1_make 63 = .ok (.lload_n 1, 1) := by decide +kernel
theorem dX1_make_64 : decode cX1_make 64 = .ok (.lconst 1, 1) := by decide +kernel
theorem dX1_make_65 : decode cX1_make 65 = .ok (.iload 5, 2) := by decide +kernel
theorem dX1_make_67 : decode cX1_make 67 = .ok (.i2l, 1) := by decide +kernel
theorem dX1_make_68 : decode cX1_make 68 = .ok (.ladd, 1) := by decide +kernel
theorem dX1_make_69 : decode cX1_make 69 = .ok (.invokestatic 27, 3) := by decide +kernel
theorem dX1_make_72 : decode cX1_make 72 = .ok (.bipush 34, 2) := by decide +kernel
theorem dX1_make_74 : decode cX1_make 74 = .ok (.lushr, 1) := by decide +kernel
theorem dX1_make_75 : decode cX1_make 75 = .ok (.ladd, 1) := by decide +kernel
theorem dX1_make_76 : decode cX1_make 76 = .ok (.lstore 6, 2) := by decide +kernel
theorem dX1_make_78 : decode cX1_make 78 = .ok (.lload 6, 2) := by decide +kernel
theorem dX1_make_80 : decode cX1_make 80 = .ok (.lload 6, 2) := by decide +kernel
theorem dX1_make_82 : decode cX1_make 82 = .ok (.ldc2_w 25, 3) := by decide +kernel
theorem dX1_make_85 : decode cX1_make 85 = .ok (.aload_n 0, 1) := by decide +kernel
theorem dX1_make_86 : decode cX1_make 86 = .ok (.getfield 31, 3) := by decide +kernel
theorem dX1_make_89 : decode cX1_make 89 = .ok (.i2l, 1) := by decide +kernel
theorem dX1_make_90 : decode cX1_make 90 = .ok (.lmul, 1) := by decide +kernel
theorem dX1_make_91 : decode cX1_make 91 = .ok (.lrem, 1) := by decide +kernel
theorem dX1_make_92 : decode cX1_make 92 = .ok (.lsub, 1) := by decide +kernel
theorem dX1_make_93 : decode cX1_make 93 = .ok (.lconst 1, 1) := by decide +kernel
theorem dX1_make_94 : decode cX1_make 94 = .ok (.ladd, 1) := by decide +kernel
theorem dX1_make_95 : decode cX1_make 95 = .ok (.lstore 8, 2) := by decide +kernel
theorem dX1_make_97 : decode cX1_make 97 = .ok (.lload 8, 2) := by decide +kernel
theorem dX1_make_99 : decode cX1_make 99 = .ok (.ldc2_w 41, 3) := by decide +kernel
theorem dX1_make_102 : decode cX1_make 102 = .ok (.lcmp, 1) := by decide +kernel
theorem dX1_make_103 : decode cX1_make 103 = .ok (.ifCond .le 25, 3) := by decide +kernel
theorem dX1_make_106 : decode cX1_make 106 = .ok (.lload 8, 2) := by decide +kernel
theorem dX1_make_108 : decode cX1_make 108 = .ok (.l2i, 1) := by decide +kernel
theorem dX1_make_109 : decode cX1_make 109 = .ok (.invokestatic 34, 3) := by decide +kernel
theorem dX1_make_112 : decode cX1_make 112 = .ok (.ifCond .eq 16, 3) := by decide +kernel
theorem dX1_make_115 : decode cX1_make 115 = .ok (.aload_n 0, 1) := by decide +kernel
theorem dX1_make_116 : decode cX1_make 116 = .ok (.lload 8, 2) := by decide +kernel
theorem dX1_make_118 : decode cX1_make 118 = .ok (.l2i, 1) := by decide +kernel
theorem dX1_make_119 : decode cX1_make 119 = .ok (.putfield 43, 3) := by decide +kernel
theorem dX1_make_122 : decode cX1_make 122 = .ok (.aload_n 0, 1) := by decide +kernel
theorem dX1_make_123 : decode cX1_make 123 = .ok (.iload 5, 2) := by decide +kernel
theorem dX1_make_125 : decode cX1_make 125 = .ok (.putfield 38, 3) := by decide +kernel
theorem dX1_make_128 : decode cX1_make 128 = .ok (.iinc 5 1, 3) := by decide +kernel
theorem dX1_make_131 : decode cX1_make 131 = .ok (.goto (-87), 3) := by decide +kernel
theorem dX1_make_134 : decode cX1_make 134 = .ok (.return_, 1) := by decide +kernel
set_option maxRecDepth 20000 in
theorem ggX1_generate_X1_make : GoodIn wsX1_generate wsX1_make := goodIn_r _ [14, 7, 2, 15, 16, 5, 17, 18, 13, 19, 20, 21, 22, 23, 24, 25, 26, 27, 28, 29, 30, 31, 32, 33, 34, 35, 36, 37, 38, 39] (by decide +kernel) (by decide +kernel)
set_option maxRecDepth 20000 in
theorem gX1_generate_X1_make : GoodIn wsX1_generate (wsV RX1 46 RX1 yX1_make wsX1_make) := goodIn_app (goodIn_of _ (by decide +kernel)) ggX1_generate_X1_make
theorem dX1_generate_0 : decode cX1_generate 0 = .ok (.aload_n 0, 1) := by decide +kernel
theorem dX1_generate_1 : decode cX1_generate 1 = .ok (.iconst 0, 1) := by decide +kernel
theorem dX1_generate_2 : decode cX1_generate 2 = .ok (.putfield 13, 3) := by decide +kernel
theorem dX1_generate_5 : decode cX1_generate 5 = .ok (.aload_n 0, 1) := by decide +kernel
theorem dX1_generate_6 : decode cX1_generate 6 = .ok (.lload_n 1, 1) := by decide +kernel
theorem dX1_generate_7 : decode cX1_generate 7 = .ok (.invokevirtual 46, 3) := by decide +kernel
theorem dX1_generate_10 : decode cX1_generate 10 = .ok (.aload_n 0, 1) := by decide +kernel
theorem dX1_generate_11 : decode cX1_generate 11 = .ok (.getfield 38, 3) := by decide +kernel
theorem dX1_generate_14 : decode cX1_generate 14 = .ok (.ifCond .lt 37, 3) := by decide +kernel
theorem dX1_generate_17 : decode cX1_generate 17 = .ok (.aload_n 0, 1) := by decide +kernel
theorem dX1_generate_18 : decode cX1_generate 18 = .ok (.iconst 1, 1) := by decide +kernel
theorem dX1_generate_19 : decode cX1_generate 19 = .ok (.putfield 50, 3) := by decide +kernel
theorem dX1_generate_22 : decode cX1_generate 22 = .ok (.aload_n 0, 1) := by decide +kernel
theorem dX1_generate_23 : decode cX1_generate 23 = .ok (.lload_n 1, 1) := by decide +kernel
theorem dX1_generate_24 : decode cX1_generate 24 = .ok (.putfield 54, 3) := by decide +kernel
theorem dX1_generate_27 : decode cX1_generate 27 = .ok (.aload_n 0, 1) := by decide +kernel
theorem dX1_generate_28 : decode cX1_generate 28 = .ok (.aload_n 0, 1) := by decide +kernel
theorem dX1_generate_29 : decode cX1_generate 29 = .ok (.getfield 43, 3) := by decide +kernel
theorem dX1_generate_32 : decode cX1_generate 32 = .ok (.putfield 58, 3) := by decide +kernel
theorem dX1_generate_35 : decode cX1_generate 35 = .ok (.aload_n 0, 1) := by decide +kernel
theorem dX1_generate_36 : decode cX1_generate 36 = .ok (.aload_n 0, 1) := by decide +kernel
theorem dX1_generate_37 : decode cX1_generate 37 = .ok (.getfield 31, 3) := by decide +kernel
theorem dX1_generate_40 : decode cX1_generate 40 = .ok (.putfield 61, 3) := by decide +kernel
theorem dX1_generate_43 : decode cX1_generate 43 = .ok (.aload_n 0, 1) := by decide +kernel
theorem dX1_generate_44 : decode cX1_generate 44 = .ok (.aload_n 0, 1) := by decide +kernel
theorem dX1_generate_45 : decode cX1_generate 45 = .ok (.getfield 38, 3) := by decide +kernel
theorem dX1_generate_48 : decode cX1_generate 48 = .ok (.putfield 64, 3) := by decide +kernel
theorem dX1_generate_51 : decode cX1_generate 51 = .ok (.aload_n 0, 1) := by decide +kernel
theorem dX1_generate_52 : decode cX1_generate 52 = .ok (.getfield 38, 3) := by decide +kernel
theorem dX1_generate_55 : decode cX1_generate 55 = .ok (.ireturn, 1) := by decide +kernel
theorem dX1_candidate_0 : decode cX1_candidate 0 = .ok (.aload_n 0, 1) := by decide +kernel
theorem dX1_candidate_1 : decode cX1_candidate 1 = .ok (.iconst 0, 1) := by decide +kernel
theorem dX1_candidate_2 : decode cX1_candidate 2 = .ok (.putfield 13, 3) := by decide +kernel
theorem dX1_candidate_5 : decode cX1_candidate 5 = .ok (.aload_n 0, 1) := by decide +kernel
theorem dX1_candidate_6 : decode cX1_candidate 6 = .ok (.getfield 50, 3) := by decide +kernel
theorem dX1_candidate_9 : decode cX1_candidate 9 = .ok (.ifCond .ne 5, 3) := by decide +kernel
theorem dX1_candidate_12 : decode cX1_candidate 12 = .ok (.lconst 0, 1) := by decide +kernel
theorem dX1_candidate_13 : decode cX1_candidate 13 = .ok (.lreturn, 1) := by decide +kernel
theorem dX1_candidate_14 : decode cX1_candidate 14 = .ok (.iload_n 1, 1) := by decide +kernel
theorem dX1_candidate_15 : decode cX1_candidate 15 = .ok (.ifCond .ne 11, 3) := by decide +kernel
theorem dX1_candidate_18 : decode cX1_candidate 18 = .ok (.aload_n 0, 1) := by decide +kernel
theorem dX1_candidate_19 : decode cX1_candidate 19 = .ok (.getfield 58, 3) := by decide +kernel
theorem dX1_candidate_22 : decode cX1_candidate 22 = .ok (.i2l, 1) := by decide +kernel
theorem dX1_candidate_23 : decode cX1_candidate 23 = .ok (.goto 42, 3) := by decide +kernel
theorem dX1_candidate_26 : decode cX1_candidate 26 = .ok (.iload_n 1, 1) := by decide +kernel
theorem dX1_candidate_27 : decode cX1_candidate 27 = .ok (.iconst 1, 1) := by decide +kernel
theorem dX1_candidate_28 : decode cX1_candidate 28 = .ok (.if_icmp .ne 11, 3) := by decide +kernel
theorem dX1_candidate_31 : decode cX1_candidate 31 = .ok (.aload_n 0, 1) := by decide +kernel
theorem dX1_candidate_32 : decode cX1_candidate 32 = .ok (.getfield 61, 3) := by decide +kernel
theorem dX1_candidate_35 : decode cX1_candidate 35 = .ok (.i2l, 1) := by decide +kernel
theorem dX1_candidate_36 : decode cX1_candidate 36 = .ok (.goto 29, 3) := by decide +kernel
theorem dX1_candidate_39 : decode cX1_candidate 39 = .ok (.iload_n 1, 1) := by decide +kernel
theorem dX1_candidate_40 : decode cX1_candidate 40 = .ok (.iconst 2, 1) := by decide +kernel
theorem dX1_candidate_41 : decode cX1_candidate 41 = .ok (.if_icmp .ne 10, 3) := by decide +kernel
theorem dX1_candidate_44 : decode cX1_candidate 44 = .ok (.aload_n 0, 1) := by decide +kernel
theorem dX1_candidate_45 : decode cX1_candidate 45 = .ok (.getfield 54, 3) := by decide +kernel
theorem dX1_candidate_48 : decode cX1_candidate 48 = .ok (.goto 17, 3) := by decide +kernel
theorem dX1_candidate_51 : decode cX1_candidate 51 = .ok (.iload_n 1, 1) := by decide +kernel
theorem dX1_candidate_52 : decode cX1_candidate 52 = .ok (.iconst 3, 1) := by decide +kernel
theorem dX1_candidate_53 : decode cX1_candidate 53 = .ok (.if_icmp .ne 11, 3) := by decide +kernel
theorem dX1_candidate_56 : decode cX1_candidate 56 = .ok (.aload_n 0, 1) := by decide +kernel
theorem dX1_candidate_57 : decode cX1_candidate 57 = .ok (.getfield 64, 3) := by decide +kernel
theorem dX1_candidate_60 : decode cX1_candidate 60 = .ok (.i2l, 1) := by decide +kernel
theorem dX1_candidate_61 : decode cX1_candidate 61 = .ok (.goto 4, 3) := by decide +kernel
theorem dX1_candidate_64 : decode cX1_candidate 64 = .ok (.lconst 0, 1) := by decide +kernel
theorem dX1_candidate_65 : decode cX1_candidate 65 = .ok (.lreturn, 1) := by decide +kernel
set_option maxRecDepth 20000 in
theorem ggX1_generator_X1_h : GoodIn wsX1_generator wsX1_h := goodIn_r _ [10, 11, 12, 13] (by decide +kernel) (by decide +kernel)
set_option maxRecDepth 20000 in
theorem gX1_generator_X1_h : GoodIn wsX1_generator (va_wsS RX1 27 yX1_h wsX1_h) := goodIn_app (goodIn_of _ (by decide +kernel)) ggX1_generator_X1_h
set_option maxRecDepth 20000 in
theorem ggX1_generator_X1_power : GoodIn wsX1_generator wsX1_power := goodIn_r _ [16] (by decide +kernel) (by decide +kernel)
set_option maxRecDepth 20000 in
theorem gX1_generator_X1_power : GoodIn wsX1_generator (va_wsS RX1 69 yX1_power wsX1_power) := goodIn_app (goodIn_of _ (by decide +kernel)) ggX1_generator_X1_power
theorem dX1_generator_0 : decode cX1_generator 0 = .ok (.aload_n 0, 1) := by decide +kernel
theorem dX1_generator_1 : decode cX1_generator 1 = .ok (.aload_n 0, 1) := by decide +kernel
theorem dX1_generator_2 : decode cX1_generator 2 = .ok (.getfield 50, 3) := by decide +kernel
theorem dX1_generator_5 : decode cX1_generator 5 = .ok (.ifCond .ne 7, 3) := by decide +kernel
theorem dX1_generator_8 : decode cX1_generator 8 = .ok (.iconst 1, 1) := by decide +kernel
theorem dX1_generator_9 : decode cX1_generator 9 = .ok (.goto 19, 3) := by decide +kernel
theorem dX1_generator_12 : decode cX1_generator 12 = .ok (.iload_n 1, 1) := by decide +kernel
theorem dX1_generator_13 : decode cX1_generator 13 = .ok (.ifCond .lt 10, 3) := by decide +kernel
theorem dX1_generator_16 : decode cX1_generator 16 = .ok (.iload_n 1, 1) := by decide +kernel
theorem dX1_generator_17 : decode cX1_generator 17 = .ok (.sipush 255, 3) := by decide +kernel
theorem dX1_generator_20 : decode cX1_generator 20 = .ok (.if_icmp .le 7, 3) := by decide +kernel
theorem dX1_generator_23 : decode cX1_generator 23 = .ok (.iconst 2, 1) := by decide +kernel
theorem dX1_generator_24 : decode cX1_generator 24 = .ok (.goto 4, 3) := by decide +kernel
theorem dX1_generator_27 : decode cX1_generator 27 = .ok (.iconst 0, 1) := by decide +kernel
theorem dX1_generator_28 : decode cX1_generator 28 = .ok (.putfield 13, 3) := by decide +kernel
theorem dX1_generator_31 : decode cX1_generator 31 = .ok (.aload_n 0, 1) := by decide +kernel
theorem dX1_generator_32 : decode cX1_generator 32 = .ok (.getfield 13, 3) := by decide +kernel
theorem dX1_generator_35 : decode cX1_generator 35 = .ok (.ifCond .eq 5, 3) := by decide +kernel
theorem dX1_generator_38 : decode cX1_generator 38 = .ok (.iconst 0, 1) := by decide +kernel
theorem dX1_generator_39 : decode cX1_generator 39 = .ok (.ireturn, 1) := by decide +kernel
theorem dX1_generator_40 : decode cX1_generator 40 = .ok (.aload_n 0, 1) := by decide +kernel
theorem dX1_generator_41 : decode cX1_generator 41 = .ok (.getfield 54, 3) := by decide +kernel
theorem dX1_generator_44 : decode cX1_generator 44 = .ok (.ldc2_w 67, 3) := by decide +kernel
theorem dX1_generator_47 : decode cX1_generator 47 = .ok (.iload_n 1, 1) := by decide +kernel
theorem dX1_generator_48 : decode cX1_generator 48 = .ok (.i2l, 1) := by decide +kernel
theorem dX1_generator_49 : decode cX1_generator 49 = .ok (.ladd, 1) := by decide +kernel
theorem dX1_generator_50 : decode cX1_generator 50 = .ok (.invokestatic 27, 3) := by decide +kernel
theorem dX1_generator_53 : decode cX1_generator 53 = .ok (.lstore_n 2, 1) := by decide +kernel
theorem dX1_generator_54 : decode cX1_generator 54 = .ok (.iconst 1, 1) := by decide +kernel
theorem dX1_generator_55 : decode cX1_generator 55 = .ok (.istore 4, 2) := by decide +kernel
theorem dX1_generator_57 : decode cX1_generator 57 = .ok (.iload 4, 2) := by decide +kernel
theorem dX1_generator_59 : decode cX1_generator 59 = .ok (.bipush 100, 2) := by decide +kernel
theorem dX1_generator_61 : decode cX1_generator 61 = .ok (.if_icmp .gt 61, 3) := by decide +kernel
theorem dX1_generator_64 : decode cX1_generator 64 = .ok (.lload_n 2, 1) := by decide +kernel
theorem dX1_generator_65 : decode cX1_generator 65 = .ok (.iload 4, 2) := by decide +kernel
theorem dX1_generator_67 : decode cX1_generator 67 = .ok (.i2l, 1) := by decide +kernel
theorem dX1_generator_68 : decode cX1_generator 68 = .ok (.invokestatic 27, 3) := by decide +kernel
theorem dX1_generator_71 : decode cX1_generator 71 = .ok (.iconst 1, 1) := by decide +kernel
theorem dX1_generator_72 : decode cX1_generator 72 = .ok (.lushr, 1) := by decide +kernel
theorem dX1_generator_73 : decode cX1_generator 73 = .ok (.lstore 5, 2) := by decide +kernel
theorem dX1_generator_75 : decode cX1_generator 75 = .ok (.lload 5, 2) := by decide +kernel
theorem dX1_generator_77 : decode cX1_generator 77 = .ok (.aload_n 0, 1) := by decide +kernel
theorem dX1_generator_78 : decode cX1_generator 78 = .ok (.getfield 58, 3) := by decide +kernel
theorem dX1_generator_81 : decode cX1_generator 81 = .ok (.i2l, 1) := by decide +kernel
theorem dX1_generator_82 : decode cX1_generator 82 = .ok (.lrem, 1) := by decide +kernel
theorem dX1_generator_83 : decode cX1_generator 83 = .ok (.aload_n 0, 1) := by decide +kernel
theorem dX1_generator_84 : decode cX1_generator 84 = .ok (.getfield 58, 3) := by decide +kernel
theorem dX1_generator_87 : decode cX1_generator 87 = .ok (.iconst 1, 1) := by decide +kernel
theorem dX1_generator_88 : decode cX1_generator 88 = .ok (.isub, 1) := by decide +kernel
theorem dX1_generator_89 : decode cX1_generator 89 = .ok (.aload_n 0, 1) := by decide +kernel
theorem dX1_generator_90 : decode cX1_generator 90 = .ok (.getfield 61, 3) := by decide +kernel
theorem dX1_generator_93 : decode cX1_generator 93 = .ok (.idiv, 1) := by decide +kernel
theorem dX1_generator_94 : decode cX1_generator 94 = .ok (.i2l, 1) := by decide +kernel
theorem dX1_generator_95 : decode cX1_generator 95 = .ok (.aload_n 0, 1) := by decide +kernel
theorem dX1_generator_96 : decode cX1_generator 96 = .ok (.getfield 58, 3) := by decide +kernel
theorem dX1_generator_99 : decode cX1_generator 99 = .ok (.i2l, 1) := by decide +kernel
theorem dX1_generator_100 : decode cX1_generator 100 = .ok (.invokestatic 69, 3) := by decide +kernel
theorem dX1_generator_103 : decode cX1_generator 103 = .ok (.lstore 7, 2) := by decide +kernel
theorem dX1_generator_105 : decode cX1_generator 105 = .ok (.lload 7, 2) := by decide +kernel
theorem dX1_generator_107 : decode cX1_generator 107 = .ok (.lconst 1, 1) := by decide +kernel
theorem dX1_generator_108 : decode cX1_generator 108 = .ok (.lcmp, 1) := by decide +kernel
theorem dX1_generator_109 : decode cX1_generator 109 = .ok (.ifCond .le 7, 3) := by decide +kernel
theorem dX1_generator_112 : decode cX1_generator 112 = .ok (.lload 7, 2) := by decide +kernel
theorem dX1_generator_114 : decode cX1_generator 114 = .ok (.l2i, 1) := by decide +kernel
theorem dX1_generator_115 : decode cX1_generator 115 = .ok (.ireturn, 1) := by decide +kernel
theorem dX1_generator_116 : decode cX1_generator 116 = .ok (.iinc 4 1, 3) := by decide +kernel
theorem dX1_generator_119 : decode cX1_generator 119 = .ok (.goto (-62), 3) := by decide +kernel
theorem dX1_generator_122 : decode cX1_generator 122 = .ok (.iconst 1, 1) := by decide +kernel
theorem dX1_generator_123 : decode cX1_generator 123 = .ok (.ireturn, 1) := by decide +kernel
set_option maxRecDepth 20000 in
theorem ggX1_valid_X1_make : GoodIn wsX1_valid wsX1_make := goodIn_r _ [9, 4, 2, 10, 11, 3, 12, 13, 8, 14, 15, 16, 17, 18, 19, 20, 21, 22, 23, 24, 25, 26, 27, 28, 29, 30, 31, 32, 33, 34] (by decide +kernel) (by decide +kernel)
set_option maxRecDepth 20000 in
theorem gX1_valid_X1_make : GoodIn wsX1_valid (wsV RX1 46 RX1 yX1_make wsX1_make) := goodIn_app (goodIn_of _ (by decide +kernel)) ggX1_valid_X1_make
theorem dX1_valid_0 : decode cX1_valid 0 = .ok (.aload_n 0, 1) := by decide +kernel
theorem dX1_valid_1 : decode cX1_valid 1 = .ok (.iconst 0, 1) := by decide +kernel
theorem dX1_valid_2 : decode cX1_valid 2 = .ok (.putfield 13, 3) := by decide +kernel
theorem dX1_valid_5 : decode cX1_valid 5 = .ok (.aload_n 0, 1) := by decide +kernel
theorem dX1_valid_6 : decode cX1_valid 6 = .ok (.lload_n 3, 1) := by decide +kernel
theorem dX1_valid_7 : decode cX1_valid 7 = .ok (.invokevirtual 46, 3) := by decide +kernel
theorem dX1_valid_10 : decode cX1_valid 10 = .ok (.aload_n 0, 1) := by decide +kernel
theorem dX1_valid_11 : decode cX1_valid 11 = .ok (.getfield 38, 3) := by decide +kernel
theorem dX1_valid_14 : decode cX1_valid 14 = .ok (.ifCond .lt 32, 3) := by decide +kernel
theorem dX1_valid_17 : decode cX1_valid 17 = .ok (.aload_n 0, 1) := by decide +kernel
theorem dX1_valid_18 : decode cX1_valid 18 = .ok (.getfield 38, 3) := by decide +kernel
theorem dX1_valid_21 : decode cX1_valid 21 = .ok (.iload 5, 2) := by decide +kernel
theorem dX1_valid_23 : decode cX1_valid 23 = .ok (.if_icmp .ne 23, 3) := by decide +kernel
theorem dX1_valid_26 : decode cX1_valid 26 = .ok (.aload_n 0, 1) := by decide +kernel
theorem dX1_valid_27 : decode cX1_valid 27 = .ok (.getfield 43, 3) := by decide +kernel
theorem dX1_valid_30 : decode cX1_valid 30 = .ok (.iload_n 1, 1) := by decide +kernel
theorem dX1_valid_31 : decode cX1_valid 31 = .ok (.if_icmp .ne 15, 3) := by decide +kernel
theorem dX1_valid_34 : decode cX1_valid 34 = .ok (.aload_n 0, 1) := by decide +kernel
theorem dX1_valid_35 : decode cX1_valid 35 = .ok (.getfield 31, 3) := by decide +kernel
theorem dX1_valid_38 : decode cX1_valid 38 = .ok (.iload_n 2, 1) := by decide +kernel
theorem dX1_valid_39 : decode cX1_valid 39 = .ok (.if_icmp .ne 7, 3) := by decide +kernel
theorem dX1_valid_42 : decode cX1_valid 42 = .ok (.iconst 1, 1) := by decide +kernel
theorem dX1_valid_43 : decode cX1_valid 43 = .ok (.goto 4, 3) := by decide +kernel
theorem dX1_valid_46 : decode cX1_valid 46 = .ok (.iconst 0, 1) := by decide +kernel
theorem dX1_valid_47 : decode cX1_valid 47 = .ok (.ireturn, 1) := by decide +kernel
set_option maxRecDepth 20000 in
theorem ggX1_adopt_X1_prime : GoodIn wsX1_adopt wsX1_prime := goodIn_r _ [9, 10, 11] (by decide +kernel) (by decide +kernel)
set_option maxRecDepth 20000 in
theorem gX1_adopt_X1_prime : GoodIn wsX1_adopt (va_wsS RX1 34 yX1_prime wsX1_prime) := goodIn_app (goodIn_of _ (by decide +kernel)) ggX1_adopt_X1_prime
set_option maxRecDepth 20000 in
theorem ggX1_adopt_X1_power : GoodIn wsX1_adopt wsX1_power := goodIn_r _ [14] (by decide +kernel) (by decide +kernel)
set_option maxRecDepth 20000 in
theorem gX1_adopt_X1_power : GoodIn wsX1_adopt (va_wsS RX1 69 yX1_power wsX1_power) := goodIn_app (goodIn_of _ (by decide +kernel)) ggX1_adopt_X1_power
theorem dX1_adopt_0 : decode cX1_adopt 0 = .ok (.iload_n 1, 1) := by decide +kernel
theorem dX1_adopt_1 : decode cX1_adopt 1 = .ok (.iconst 2, 1) := by decide +kernel
theorem dX1_adopt_2 : decode cX1_adopt 2 = .ok (.if_icmp .le 32, 3) := by decide +kernel
theorem dX1_adopt_5 : decode cX1_adopt 5 = .ok (.iload_n 2, 1) := by decide +kernel
theorem dX1_adopt_6 : decode cX1_adopt 6 = .ok (.iconst 2, 1) := by decide +kernel
theorem dX1_adopt_7 : decode cX1_adopt 7 = .ok (.if_icmp .le 27, 3) := by decide +kernel
theorem dX1_adopt_10 : decode cX1_adopt 10 = .ok (.iload_n 1, 1) := by decide +kernel
theorem dX1_adopt_11 : decode cX1_adopt 11 = .ok (.iconst 1, 1) := by decide +kernel
theorem dX1_adopt_12 : decode cX1_adopt 12 = .ok (.isub, 1) := by decide +kernel
theorem dX1_adopt_13 : decode cX1_adopt 13 = .ok (.iload_n 2, 1) := by decide +kernel
theorem dX1_adopt_14 : decode cX1_adopt 14 = .ok (.irem, 1) := by decide +kernel
theorem dX1_adopt_15 : decode cX1_adopt 15 = .ok (.ifCond .ne 19, 3) := by decide +kernel
theorem dX1_adopt_18 : decode cX1_adopt 18 = .ok (.iload_n 3, 1) := by decide +kernel
theorem dX1_adopt_19 : decode cX1_adopt 19 = .ok (.iconst 2, 1) := by decide +kernel
theorem dX1_adopt_20 : decode cX1_adopt 20 = .ok (.if_icmp .lt 14, 3) := by decide +kernel
theorem dX1_adopt_23 : decode cX1_adopt 23 = .ok (.iload_n 3, 1) := by decide +kernel
theorem dX1_adopt_24 : decode cX1_adopt 24 = .ok (.iload_n 1, 1) := by decide +kernel
theorem dX1_adopt_25 : decode cX1_adopt 25 = .ok (.iconst 1, 1) := by decide +kernel
theorem dX1_adopt_26 : decode cX1_adopt 26 = .ok (.isub, 1) := by decide +kernel
theorem dX1_adopt_27 : decode cX1_adopt 27 = .ok (.if_icmp .gt 7, 3) := by decide +kernel
theorem dX1_adopt_30 : decode cX1_adopt 30 = .ok (.iconst 1, 1) := by decide +kernel
theorem dX1_adopt_31 : decode cX1_adopt 31 = .ok (.goto 4, 3) := by decide +kernel
theorem dX1_adopt_34 : decode cX1_adopt 34 = .ok (.iconst 0, 1) := by decide +kernel
theorem dX1_adopt_35 : decode cX1_adopt 35 = .ok (.istore 4, 2) := by decide +kernel
theorem dX1_adopt_37 : decode cX1_adopt 37 = .ok (.iload 4, 2) := by decide +kernel
theorem dX1_adopt_39 : decode cX1_adopt 39 = .ok (.ifCond .eq 35, 3) := by decide +kernel
theorem dX1_adopt_42 : decode cX1_adopt 42 = .ok (.iload_n 1, 1) := by decide +kernel
theorem dX1_adopt_43 : decode cX1_adopt 43 = .ok (.invokestatic 34, 3) := by decide +kernel
theorem dX1_adopt_46 : decode cX1_adopt 46 = .ok (.ifCond .eq 28, 3) := by decide +kernel
theorem dX1_adopt_49 : decode cX1_adopt 49 = .ok (.iload_n 2, 1) := by decide +kernel
theorem dX1_adopt_50 : decode cX1_adopt 50 = .ok (.invokestatic 34, 3) := by decide +kernel
theorem dX1_adopt_53 : decode cX1_adopt 53 = .ok (.ifCond .eq 21, 3) := by decide +kernel
theorem dX1_adopt_56 : decode cX1_adopt 56 = .ok (.iload_n 3, 1) := by decide +kernel
theorem dX1_adopt_57 : decode cX1_adopt 57 = .ok (.i2l, 1) := by decide +kernel
theorem dX1_adopt_58 : decode cX1_adopt 58 = .ok (.iload_n 2, 1) := by decide +kernel
theorem dX1_adopt_59 : decode cX1_adopt 59 = .ok (.i2l, 1) := by decide +kernel
theorem dX1_adopt_60 : decode cX1_adopt 60 = .ok (.iload_n 1, 1) := by decide +kernel
theorem dX1_adopt_61 : decode cX1_adopt 61 = .ok (.i2l, 1) := by decide +kernel
theorem dX1_adopt_62 : decode cX1_adopt 62 = .ok (.invokestatic 69, 3) := by decide +kernel
theorem dX1_adopt_65 : decode cX1_adopt 65 = .ok (.lconst 1, 1) := by decide +kernel
theorem dX1_adopt_66 : decode cX1_adopt 66 = .ok (.lcmp, 1) := by decide +kernel
theorem dX1_adopt_67 : decode cX1_adopt 67 = .ok (.ifCond .ne 7, 3) := by decide +kernel
theorem dX1_adopt_70 : decode cX1_adopt 70 = .ok (.iconst 1, 1) := by decide +kernel
theorem dX1_adopt_71 : decode cX1_adopt 71 = .ok (.goto 4, 3) := by decide +kernel
theorem dX1_adopt_74 : decode cX1_adopt 74 = .ok (.iconst 0, 1) := by decide +kernel
theorem dX1_adopt_75 : decode cX1_adopt 75 = .ok (.istore 4, 2) := by decide +kernel
theorem dX1_adopt_77 : decode cX1_adopt 77 = .ok (.aload_n 0, 1) := by decide +kernel
theorem dX1_adopt_78 : decode cX1_adopt 78 = .ok (.iload 4, 2) := by decide +kernel
theorem dX1_adopt_80 : decode cX1_adopt 80 = .ok (.ifCond .eq 7, 3) := by decide +kernel
theorem dX1_adopt_83 : decode cX1_adopt 83 = .ok (.iconst 0, 1) := by decide +kernel
theorem dX1_adopt_84 : decode cX1_adopt 84 = .ok (.goto 4, 3) := by decide +kernel
theorem dX1_adopt_87 : decode cX1_adopt 87 = .ok (.iconst 1, 1) := by decide +kernel
theorem dX1_adopt_88 : decode cX1_adopt 88 = .ok (.putfield 13, 3) := by decide +kernel
theorem dX1_adopt_91 : decode cX1_adopt 91 = .ok (.iload 4, 2) := by decide +kernel
theorem dX1_adopt_93 : decode cX1_adopt 93 = .ok (.ifCond .eq 42, 3) := by decide +kernel
theorem dX1_adopt_96 : decode cX1_adopt 96 = .ok (.aload_n 0, 1) := by decide +kernel
theorem dX1_adopt_97 : decode cX1_adopt 97 = .ok (.iload_n 1, 1) := by decide +kernel
theorem dX1_adopt_98 : decode cX1_adopt 98 = .ok (.putfield 73, 3) := by decide +kernel
theorem dX1_adopt_101 : decode cX1_adopt 101 = .ok (.aload_n 0, 1) := by decide +kernel
theorem dX1_adopt_102 : decode cX1_adopt 102 = .ok (.iload_n 2, 1) := by decide +kernel
theorem dX1_adopt_103 : decode cX1_adopt 103 = .ok (.putfield 76, 3) := by decide +kernel
theorem dX1_adopt_106 : decode cX1_adopt 106 = .ok (.aload_n 0, 1) := by decide +kernel
theorem dX1_adopt_107 : decode cX1_adopt 107 = .ok (.iload_n 3, 1) := by decide +kernel
theorem dX1_adopt_108 : decode cX1_adopt 108 = .ok (.putfield 79, 3) := by decide +kernel
theorem dX1_adopt_111 : decode cX1_adopt 111 = .ok (.iconst 0, 1) := by decide +kernel
theorem dX1_adopt_112 : decode cX1_adopt 112 = .ok (.istore 5, 2) := by decide +kernel
theorem dX1_adopt_114 : decode cX1_adopt 114 = .ok (.iload 5, 2) := by decide +kernel
theorem dX1_adopt_116 : decode cX1_adopt 116 = .ok (.bipush 8, 2) := by decide +kernel
theorem dX1_adopt_118 : decode cX1_adopt 118 = .ok (.if_icmp .ge 17, 3) := by decide +kernel
theorem dX1_adopt_121 : decode cX1_adopt 121 = .ok (.aload_n 0, 1) := by decide +kernel
theorem dX1_adopt_122 : decode cX1_adopt 122 = .ok (.getfield 7, 3) := by decide +kernel
theorem dX1_adopt_125 : decode cX1_adopt 125 = .ok (.iload 5, 2) := by decide +kernel
theorem dX1_adopt_127 : decode cX1_adopt 127 = .ok (.iconst 0, 1) := by decide +kernel
theorem dX1_adopt_128 : decode cX1_adopt 128 = .ok (.iastore, 1) := by decide +kernel
theorem dX1_adopt_129 : decode cX1_adopt 129 = .ok (.iinc 5 1, 3) := by decide +kernel
theorem dX1_adopt_132 : decode cX1_adopt 132 = .ok (.goto (-18), 3) := by decide +kernel
theorem dX1_adopt_135 : decode cX1_adopt 135 = .ok (.return_, 1) := by decide +kernel
theorem dX1_domain_0 : decode cX1_domain 0 = .ok (.aload_n 0, 1) := by decide +kernel
theorem dX1_domain_1 : decode cX1_domain 1 = .ok (.iconst 0, 1) := by decide +kernel
theorem dX1_domain_2 : decode cX1_domain 2 = .ok (.putfield 13, 3) := by decide +kernel
theorem dX1_domain_5 : decode cX1_domain 5 = .ok (.iload_n 1, 1) := by decide +kernel
theorem dX1_domain_6 : decode cX1_domain 6 = .ok (.ifCond .ne 10, 3) := by decide +kernel
theorem dX1_domain_9 : decode cX1_domain 9 = .ok (.aload_n 0, 1) := by decide +kernel
theorem dX1_domain_10 : decode cX1_domain 10 = .ok (.getfield 73, 3) := by decide +kernel
theorem dX1_domain_13 : decode cX1_domain 13 = .ok (.goto 28, 3) := by decide +kernel
theorem dX1_domain_16 : decode cX1_domain 16 = .ok (.iload_n 1, 1) := by decide +kernel
theorem dX1_domain_17 : decode cX1_domain 17 = .ok (.iconst 1, 1) := by decide +kernel
theorem dX1_domain_18 : decode cX1_domain 18 = .ok (.if_icmp .ne 10, 3) := by decide +kernel
theorem dX1_domain_21 : decode cX1_domain 21 = .ok (.aload_n 0, 1) := by decide +kernel
theorem dX1_domain_22 : decode cX1_domain 22 = .ok (.getfield 76, 3) := by decide +kernel
theorem dX1_domain_25 : decode cX1_domain 25 = .ok (.goto 16, 3) := by decide +kernel
theorem dX1_domain_28 : decode cX1_domain 28 = .ok (.iload_n 1, 1) := by decide +kernel
theorem dX1_domain_29 : decode cX1_domain 29 = .ok (.iconst 2, 1) := by decide +kernel
theorem dX1_domain_30 : decode cX1_domain 30 = .ok (.if_icmp .ne 10, 3) := by decide +kernel
theorem dX1_domain_33 : decode cX1_domain 33 = .ok (.aload_n 0, 1) := by decide +kernel
theorem dX1_domain_34 : decode cX1_domain 34 = .ok (.getfield 79, 3) := by decide +kernel
theorem dX1_domain_37 : decode cX1_domain 37 = .ok (.goto 4, 3) := by decide +kernel
theorem dX1_domain_40 : decode cX1_domain 40 = .ok (.iconst 0, 1) := by decide +kernel
theorem dX1_domain_41 : decode cX1_domain 41 = .ok (.ireturn, 1) := by decide +kernel
theorem dX1_hasKey_0 : decode cX1_hasKey 0 = .ok (.iload_n 1, 1) := by decide +kernel
theorem dX1_hasKey_1 : decode cX1_hasKey 1 = .ok (.ifCond .lt 22, 3) := by decide +kernel
theorem dX1_hasKey_4 : decode cX1_hasKey 4 = .ok (.iload_n 1, 1) := by decide +kernel
theorem dX1_hasKey_5 : decode cX1_hasKey 5 = .ok (.bipush 7, 2) := by decide +kernel
theorem dX1_hasKey_7 : decode cX1_hasKey 7 = .ok (.if_icmp .gt 16, 3) := by decide +kernel
theorem dX1_hasKey_10 : decode cX1_hasKey 10 = .ok (.aload_n 0, 1) := by decide +kernel
theorem dX1_hasKey_11 : decode cX1_hasKey 11 = .ok (.getfield 7, 3) := by decide +kernel
theorem dX1_hasKey_14 : decode cX1_hasKey 14 = .ok (.iload_n 1, 1) := by decide +kernel
theorem dX1_hasKey_15 : decode cX1_hasKey 15 = .ok (.iaload, 1) := by decide +kernel
theorem dX1_hasKey_16 : decode cX1_hasKey 16 = .ok (.ifCond .le 7, 3) := by decide +kernel
theorem dX1_hasKey_19 : decode cX1_hasKey 19 = .ok (.iconst 1, 1) := by decide +kernel
theorem dX1_hasKey_20 : decode cX1_hasKey 20 = .ok (.goto 4, 3) := by decide +kernel
theorem dX1_hasKey_23 : decode cX1_hasKey 23 = .ok (.iconst 0, 1) := by decide +kernel
theorem dX1_hasKey_24 : decode cX1_hasKey 24 = .ok (.ireturn, 1) := by decide +kernel
set_option maxRecDepth 20000 in
theorem ggX1_key_X1_power : GoodIn wsX1_key wsX1_power := goodIn_r _ [9] (by decide +kernel) (by decide +kernel)
set_option maxRecDepth 20000 in
theorem gX1_key_X1_power : GoodIn wsX1_key (va_wsS RX1 69 yX1_power wsX1_power) := goodIn_app (goodIn_of _ (by decide +kernel)) ggX1_key_X1_power
theorem dX1_key_0 : decode cX1_key 0 = .ok (.aload_n 0, 1) := by decide +kernel
theorem dX1_key_1 : decode cX1_key 1 = .ok (.aload_n 0, 1) := by decide +kernel
theorem dX1_key_2 : decode cX1_key 2 = .ok (.getfield 73, 3) := by decide +kernel
theorem dX1_key_5 : decode cX1_key 5 = .ok (.ifCond .ne 7, 3) := by decide +kernel
theorem dX1_key_8 : decode cX1_key 8 = .ok (.iconst 1, 1) := by decide +kernel
theorem dX1_key_9 : decode cX1_key 9 = .ok (.goto 37, 3) := by decide +kernel
theorem dX1_key_12 : decode cX1_key 12 = .ok (.iload_n 1, 1) := by decide +kernel
theorem dX1_key_13 : decode cX1_key 13 = .ok (.ifCond .lt 9, 3) := by decide +kernel
theorem dX1_key_16 : decode cX1_key 16 = .ok (.iload_n 1, 1) := by decide +kernel
theorem dX1_key_17 : decode cX1_key 17 = .ok (.bipush 7, 2) := by decide +kernel
theorem dX1_key_19 : decode cX1_key 19 = .ok (.if_icmp .le 7, 3) := by decide +kernel
theorem dX1_key_22 : decode cX1_key 22 = .ok (.iconst 2, 1) := by decide +kernel
theorem dX1_key_23 : decode cX1_key 23 = .ok (.goto 23, 3) := by decide +kernel
theorem dX1_key_26 : decode cX1_key 26 = .ok (.iload_n 2, 1) := by decide +kernel
theorem dX1_key_27 : decode cX1_key 27 = .ok (.iconst 1, 1) := by decide +kernel
theorem dX1_key_28 : decode cX1_key 28 = .ok (.if_icmp .lt 13, 3) := by decide +kernel
theorem dX1_key_31 : decode cX1_key 31 = .ok (.iload_n 2, 1) := by decide +kernel
theorem dX1_key_32 : decode cX1_key 32 = .ok (.aload_n 0, 1) := by decide +kernel
theorem dX1_key_33 : decode cX1_key 33 = .ok (.getfield 76, 3) := by decide +kernel
theorem dX1_key_36 : decode cX1_key 36 = .ok (.iconst 1, 1) := by decide +kernel
theorem dX1_key_37 : decode cX1_key 37 = .ok (.isub, 1) := by decide +kernel
theorem dX1_key_38 : decode cX1_key 38 = .ok (.if_icmp .le 7, 3) := by decide +kernel
theorem dX1_key_41 : decode cX1_key 41 = .ok (.iconst 3, 1) := by decide +kernel
theorem dX1_key_42 : decode cX1_key 42 = .ok (.goto 4, 3) := by decide +kernel
theorem dX1_key_45 : decode cX1_key 45 = .ok (.iconst 0, 1) := by decide +kernel
theorem dX1_key_46 : decode cX1_key 46 = .ok (.putfield 13, 3) := by decide +kernel
theorem dX1_key_49 : decode cX1_key 49 = .ok (.aload_n 0, 1) := by decide +kernel
theorem dX1_key_50 : decode cX1_key 50 = .ok (.getfield 13, 3) := by decide +kernel
theorem dX1_key_53 : decode cX1_key 53 = .ok (.ifCond .eq 5, 3) := by decide +kernel
theorem dX1_key_56 : decode cX1_key 56 = .ok (.iconst 0, 1) := by decide +kernel
theorem dX1_key_57 : decode cX1_key 57 = .ok (.ireturn, 1) := by decide +kernel
theorem dX1_key_58 : decode cX1_key 58 = .ok (.aload_n 0, 1) := by decide +kernel
theorem dX1_key_59 : decode cX1_key 59 = .ok (.getfield 7, 3) := by decide +kernel
theorem dX1_key_62 : decode cX1_key 62 = .ok (.iload_n 1, 1) := by decide +kernel
theorem dX1_key_63 : decode cX1_key 63 = .ok (.iload_n 2, 1) := by decide +kernel
theorem dX1_key_64 : decode cX1_key 64 = .ok (.iastore, 1) := by decide +kernel
theorem dX1_key_65 : decode cX1_key 65 = .ok (.aload_n 0, 1) := by decide +kernel
theorem dX1_key_66 : decode cX1_key 66 = .ok (.getfield 79, 3) := by decide +kernel
theorem dX1_key_69 : decode cX1_key 69 = .ok (.i2l, 1) := by decide +kernel
theorem dX1_key_70 : decode cX1_key 70 = .ok (.iload_n 2, 1) := by decide +kernel
theorem dX1_key_71 : decode cX1_key 71 = .ok (.i2l, 1) := by decide +kernel
theorem dX1_key_72 : decode cX1_key 72 = .ok (.aload_n 0, 1) := by decide +kernel
theorem dX1_key_73 : decode cX1_key 73 = .ok (.getfield 73, 3) := by decide +kernel
theorem dX1_key_76 : decode cX1_key 76 = .ok (.i2l, 1) := by decide +kernel
theorem dX1_key_77 : decode cX1_key 77 = .ok (.invokestatic 69, 3) := by decide +kernel
theorem dX1_key_80 : decode cX1_key 80 = .ok (.l2i, 1) := by decide +kernel
theorem dX1_key_81 : decode cX1_key 81 = .ok (.ireturn, 1) := by decide +kernel
set_option maxRecDepth 20000 in
theorem ggX1_publicNumber_X1_hasKey : GoodIn wsX1_publicNumber wsX1_hasKey := goodIn_r _ [9, 3, 13, 14, 15, 16, 17, 18, 19, 20, 21, 22, 23, 24, 25] (by decide +kernel) (by decide +kernel)
set_option maxRecDepth 20000 in
theorem gX1_publicNumber_X1_hasKey : GoodIn wsX1_publicNumber (wsV RX1 82 RX1 yX1_hasKey wsX1_hasKey) := goodIn_app (goodIn_of _ (by decide +kernel)) ggX1_publicNumber_X1_hasKey
set_option maxRecDepth 20000 in
theorem ggX1_publicNumber_X1_power : GoodIn wsX1_publicNumber wsX1_power := goodIn_r _ [12] (by decide +kernel) (by decide +kernel)
set_option maxRecDepth 20000 in
theorem gX1_publicNumber_X1_power : GoodIn wsX1_publicNumber (va_wsS RX1 69 yX1_power wsX1_power) := goodIn_app (goodIn_of _ (by decide +kernel)) ggX1_publicNumber_X1_power
theorem dX1_publicNumber_0 : decode cX1_publicNumber 0 = .ok (.aload_n 0, 1) := by decide +kernel
theorem dX1_publicNumber_1 : decode cX1_publicNumber 1 = .ok (.aload_n 0, 1) := by decide +kernel
theorem dX1_publicNumber_2 : decode cX1_publicNumber 2 = .ok (.iload_n 1, 1) := by decide +kernel
theorem dX1_publicNumber_3 : decode cX1_publicNumber 3 = .ok (.invokevirtual 82, 3) := by decide +kernel
theorem dX1_publicNumber_6 : decode cX1_publicNumber 6 = .ok (.ifCond .eq 7, 3) := by decide +kernel
theorem dX1_publicNumber_9 : decode cX1_publicNumber 9 = .ok (.iconst 0, 1) := by decide +kernel
theorem dX1_publicNumber_10 : decode cX1_publicNumber 10 = .ok (.goto 4, 3) := by decide +kernel
theorem dX1_publicNumber_13 : decode cX1_publicNumber 13 = .ok (.iconst 1, 1) := by decide +kernel
theorem dX1_publicNumber_14 : decode cX1_publicNumber 14 = .ok (.putfield 13, 3) := by decide +kernel
theorem dX1_publicNumber_17 : decode cX1_publicNumber 17 = .ok (.aload_n 0, 1) := by decide +kernel
theorem dX1_publicNumber_18 : decode cX1_publicNumber 18 = .ok (.getfield 13, 3) := by decide +kernel
theorem dX1_publicNumber_21 : decode cX1_publicNumber 21 = .ok (.ifCond .ne 27, 3) := by decide +kernel
theorem dX1_publicNumber_24 : decode cX1_publicNumber 24 = .ok (.aload_n 0, 1) := by decide +kernel
theorem dX1_publicNumber_25 : decode cX1_publicNumber 25 = .ok (.getfield 79, 3) := by decide +kernel
theorem dX1_publicNumber_28 : decode cX1_publicNumber 28 = .ok (.i2l, 1) := by decide +kernel
theorem dX1_publicNumber_29 : decode cX1_publicNumber 29 = .ok (.aload_n 0, 1) := by decide +kernel
theorem dX1_publicNumber_30 : decode cX1_publicNumber 30 = .ok (.getfield 7, 3) := by decide +kernel
theorem dX1_publicNumber_33 : decode cX1_publicNumber 33 = .ok (.iload_n 1, 1) := by decide +kernel
theorem dX1_publicNumber_34 : decode cX1_publicNumber 34 = .ok (.iaload, 1) := by decide +kernel
theorem dX1_publicNumber_35 : decode cX1_publicNumber 35 = .ok (.i2l, 1) := by decide +kernel
theorem dX1_publicNumber_36 : decode cX1_publicNumber 36 = .ok (.aload_n 0, 1) := by decide +kernel
theorem dX1_publicNumber_37 : decode cX1_publicNumber 37 = .ok (.getfield 73, 3) := by decide +kernel
theorem dX1_publicNumber_40 : decode cX1_publicNumber 40 = .ok (.i2l, 1) := by decide +kernel
theorem dX1_publicNumber_41 : decode cX1_publicNumber 41 = .ok (.invokestatic 69, 3) := by decide +kernel
theorem dX1_publicNumber_44 : decode cX1_publicNumber 44 = .ok (.l2i, 1) := by decide +kernel
theorem dX1_publicNumber_45 : decode cX1_publicNumber 45 = .ok (.goto 4, 3) := by decide +kernel
theorem dX1_publicNumber_48 : decode cX1_publicNumber 48 = .ok (.iconst 0, 1) := by decide +kernel
theorem dX1_publicNumber_49 : decode cX1_publicNumber 49 = .ok (.ireturn, 1) := by decide +kernel
set_option maxRecDepth 20000 in
theorem ggX1_forget_X1_hasKey : GoodIn wsX1_forget wsX1_hasKey := goodIn_r _ [7, 2, 8, 9, 10, 11, 12, 13, 14, 15, 16, 17, 18, 19, 20] (by decide +kernel) (by decide +kernel)
set_option maxRecDepth 20000 in
theorem gX1_forget_X1_hasKey : GoodIn wsX1_forget (wsV RX1 82 RX1 yX1_hasKey wsX1_hasKey) := goodIn_app (goodIn_of _ (by decide +kernel)) ggX1_forget_X1_hasKey
theorem dX1_forget_0 : decode cX1_forget 0 = .ok (.aload_n 0, 1) := by decide +kernel
theorem dX1_forget_1 : decode cX1_forget 1 = .ok (.aload_n 0, 1) := by decide +kernel
theorem dX1_forget_2 : decode cX1_forget 2 = .ok (.iload_n 1, 1) := by decide +kernel
theorem dX1_forget_3 : decode cX1_forget 3 = .ok (.invokevirtual 82, 3) := by decide +kernel
theorem dX1_forget_6 : decode cX1_forget 6 = .ok (.ifCond .eq 7, 3) := by decide +kernel
theorem dX1_forget_9 : decode cX1_forget 9 = .ok (.iconst 0, 1) := by decide +kernel
theorem dX1_forget_10 : decode cX1_forget 10 = .ok (.goto 4, 3) := by decide +kernel
theorem dX1_forget_13 : decode cX1_forget 13 = .ok (.iconst 1, 1) := by decide +kernel
theorem dX1_forget_14 : decode cX1_forget 14 = .ok (.putfield 13, 3) := by decide +kernel
theorem dX1_forget_17 : decode cX1_forget 17 = .ok (.aload_n 0, 1) := by decide +kernel
theorem dX1_forget_18 : decode cX1_forget 18 = .ok (.getfield 13, 3) := by decide +kernel
theorem dX1_forget_21 : decode cX1_forget 21 = .ok (.ifCond .ne 10, 3) := by decide +kernel
theorem dX1_forget_24 : decode cX1_forget 24 = .ok (.aload_n 0, 1) := by decide +kernel
theorem dX1_forget_25 : decode cX1_forget 25 = .ok (.getfield 7, 3) := by decide +kernel
theorem dX1_forget_28 : decode cX1_forget 28 = .ok (.iload_n 1, 1) := by decide +kernel
theorem dX1_forget_29 : decode cX1_forget 29 = .ok (.iconst 0, 1) := by decide +kernel
theorem dX1_forget_30 : decode cX1_forget 30 = .ok (.iastore, 1) := by decide +kernel
theorem dX1_forget_31 : decode cX1_forget 31 = .ok (.return_, 1) := by decide +kernel
set_option maxRecDepth 20000 in
theorem ggX1_fits_X1_power : GoodIn wsX1_fits wsX1_power := goodIn_r _ [7] (by decide +kernel) (by decide +kernel)
set_option maxRecDepth 20000 in
theorem gX1_fits_X1_power : GoodIn wsX1_fits (va_wsS RX1 69 yX1_power wsX1_power) := goodIn_app (goodIn_of _ (by decide +kernel)) ggX1_fits_X1_power
theorem dX1_fits_0 : decode cX1_fits 0 = .ok (.aload_n 0, 1) := by decide +kernel
theorem dX1_fits_1 : decode cX1_fits 1 = .ok (.aload_n 0, 1) := by decide +kernel
theorem dX1_fits_2 : decode cX1_fits 2 = .ok (.getfield 73, 3) := by decide +kernel
theorem dX1_fits_5 : decode cX1_fits 5 = .ok (.ifCond .ne 7, 3) := by decide +kernel
theorem dX1_fits_8 : decode cX1_fits 8 = .ok (.iconst 1, 1) := by decide +kernel
theorem dX1_fits_9 : decode cX1_fits 9 = .ok (.goto 4, 3) := by decide +kernel
theorem dX1_fits_12 : decode cX1_fits 12 = .ok (.iconst 0, 1) := by decide +kernel
theorem dX1_fits_13 : decode cX1_fits 13 = .ok (.putfield 13, 3) := by decide +kernel
theorem dX1_fits_16 : decode cX1_fits 16 = .ok (.aload_n 0, 1) := by decide +kernel
theorem dX1_fits_17 : decode cX1_fits 17 = .ok (.getfield 13, 3) := by decide +kernel
theorem dX1_fits_20 : decode cX1_fits 20 = .ok (.ifCond .ne 42, 3) := by decide +kernel
theorem dX1_fits_23 : decode cX1_fits 23 = .ok (.iload_n 1, 1) := by decide +kernel
theorem dX1_fits_24 : decode cX1_fits 24 = .ok (.iconst 2, 1) := by decide +kernel
theorem dX1_fits_25 : decode cX1_fits 25 = .ok (.if_icmp .lt 37, 3) := by decide +kernel
theorem dX1_fits_28 : decode cX1_fits 28 = .ok (.iload_n 1, 1) := by decide +kernel
theorem dX1_fits_29 : decode cX1_fits 29 = .ok (.aload_n 0, 1) := by decide +kernel
theorem dX1_fits_30 : decode cX1_fits 30 = .ok (.getfield 73, 3) := by decide +kernel
theorem dX1_fits_33 : decode cX1_fits 33 = .ok (.iconst 2, 1) := by decide +kernel
theorem dX1_fits_34 : decode cX1_fits 34 = .ok (.isub, 1) := by decide +kernel
theorem dX1_fits_35 : decode cX1_fits 35 = .ok (.if_icmp .gt 27, 3) := by decide +kernel
theorem dX1_fits_38 : decode cX1_fits 38 = .ok (.iload_n 1, 1) := by decide +kernel
theorem dX1_fits_39 : decode cX1_fits 39 = .ok (.i2l, 1) := by decide +kernel
theorem dX1_fits_40 : decode cX1_fits 40 = .ok (.aload_n 0, 1) := by decide +kernel
theorem dX1_fits_41 : decode cX1_fits 41 = .ok (.getfield 76, 3) := by decide +kernel
theorem dX1_fits_44 : decode cX1_fits 44 = .ok (.i2l, 1) := by decide +kernel
theorem dX1_fits_45 : decode cX1_fits 45 = .ok (.aload_n 0, 1) := by decide +kernel
theorem dX1_fits_46 : decode cX1_fits 46 = .ok (.getfield 73, 3) := by decide +kernel
theorem dX1_fits_49 : decode cX1_fits 49 = .ok (.i2l, 1) := by decide +kernel
theorem dX1_fits_50 : decode cX1_fits 50 = .ok (.invokestatic 69, 3) := by decide +kernel
theorem dX1_fits_53 : decode cX1_fits 53 = .ok (.lconst 1, 1) := by decide +kernel
theorem dX1_fits_54 : decode cX1_fits 54 = .ok (.lcmp, 1) := by decide +kernel
theorem dX1_fits_55 : decode cX1_fits 55 = .ok (.ifCond .ne 7, 3) := by decide +kernel
theorem dX1_fits_58 : decode cX1_fits 58 = .ok (.iconst 1, 1) := by decide +kernel
theorem dX1_fits_59 : decode cX1_fits 59 = .ok (.goto 4, 3) := by decide +kernel
theorem dX1_fits_62 : decode cX1_fits 62 = .ok (.iconst 0, 1) := by decide +kernel
theorem dX1_fits_63 : decode cX1_fits 63 = .ok (.ireturn, 1) := by decide +kernel
set_option maxRecDepth 20000 in
theorem ggX1_digestOf_X1_h : GoodIn wsX1_digestOf wsX1_h := goodIn_r _ [5, 6, 7, 8] (by decide +kernel) (by decide +kernel)
set_option maxRecDepth 20000 in
theorem gX1_digestOf_X1_h : GoodIn wsX1_digestOf (va_wsS RX1 27 yX1_h wsX1_h) := goodIn_app (goodIn_of _ (by decide +kernel)) ggX1_digestOf_X1_h
theorem dX1_digestOf_0 : decode cX1_digestOf 0 = .ok (.lload_n 0, 1) := by decide +kernel
theorem dX1_digestOf_1 : decode cX1_digestOf 1 = .ok (.ldc2_w 23, 3) := by decide +kernel
theorem dX1_digestOf_4 : decode cX1_digestOf 4 = .ok (.invokestatic 27, 3) := by decide +kernel
theorem dX1_digestOf_7 : decode cX1_digestOf 7 = .ok (.bipush 49, 2) := by decide +kernel
theorem dX1_digestOf_9 : decode cX1_digestOf 9 = .ok (.lushr, 1) := by decide +kernel
theorem dX1_digestOf_10 : decode cX1_digestOf 10 = .ok (.lreturn, 1) := by decide +kernel
set_option maxRecDepth 20000 in
theorem ggX1_digest_X1_digestOf : GoodIn wsX1_digest wsX1_digestOf := goodIn_r _ [5, 6, 7, 8, 4, 9, 10, 11, 12] (by decide +kernel) (by decide +kernel)
set_option maxRecDepth 20000 in
theorem gX1_digest_X1_digestOf : GoodIn wsX1_digest (va_wsS RX1 85 yX1_digestOf wsX1_digestOf) := goodIn_app (goodIn_of _ (by decide +kernel)) ggX1_digest_X1_digestOf
theorem dX1_digest_0 : decode cX1_digest 0 = .ok (.aload_n 0, 1) := by decide +kernel
theorem dX1_digest_1 : decode cX1_digest 1 = .ok (.iconst 0, 1) := by decide +kernel
theorem dX1_digest_2 : decode cX1_digest 2 = .ok (.putfield 13, 3) := by decide +kernel
theorem dX1_digest_5 : decode cX1_digest 5 = .ok (.lload_n 1, 1) := by decide +kernel
theorem dX1_digest_6 : decode cX1_digest 6 = .ok (.invokestatic 85, 3) := by decide +kernel
theorem dX1_digest_9 : decode cX1_digest 9 = .ok (.l2i, 1) := by decide +kernel
theorem dX1_digest_10 : decode cX1_digest 10 = .ok (.ireturn, 1) := by decide +kernel
set_option maxRecDepth 20000 in
theorem ggX1_sign_X1_hasKey : GoodIn wsX1_sign wsX1_hasKey := goodIn_r _ [11, 5, 25, 26, 27, 28, 29, 30, 31, 32, 33, 34, 35, 36, 37] (by decide +kernel) (by decide +kernel)
set_option maxRecDepth 20000 in
theorem gX1_sign_X1_hasKey : GoodIn wsX1_sign (wsV RX1 82 RX1 yX1_hasKey wsX1_hasKey) := goodIn_app (goodIn_of _ (by decide +kernel)) ggX1_sign_X1_hasKey
set_option maxRecDepth 20000 in
theorem ggX1_sign_X1_power : GoodIn wsX1_sign wsX1_power := goodIn_r _ [14] (by decide +kernel) (by decide +kernel)
set_option maxRecDepth 20000 in
theorem gX1_sign_X1_power : GoodIn wsX1_sign (va_wsS RX1 69 yX1_power wsX1_power) := goodIn_app (goodIn_of _ (by decide +kernel)) ggX1_sign_X1_power
set_option maxRecDepth 20000 in
theorem ggX1_sign_X1_digestOf : GoodIn wsX1_sign wsX1_digestOf := goodIn_r _ [17, 18, 19, 20, 10, 21, 22, 23, 24] (by decide +kernel) (by decide +kernel)
set_option maxRecDepth 20000 in
theorem gX1_sign_X1_digestOf : GoodIn wsX1_sign (va_wsS RX1 85 yX1_digestOf wsX1_digestOf) := goodIn_app (goodIn_of _ (by decide +kernel)) ggX1_sign_X1_digestOf
theorem dX1_sign_0 : decode cX1_sign 0 = .ok (.aload_n 0, 1) := by decide +kernel
theorem dX1_sign_1 : decode cX1_sign 1 = .ok (.aload_n 0, 1) := by decide +kernel
theorem dX1_sign_2 : decode cX1_sign 2 = .ok (.iload_n 1, 1) := by decide +kernel
theorem dX1_sign_3 : decode cX1_sign 3 = .ok (.invokevirtual 82, 3) := by decide +kernel
theorem dX1_sign_6 : decode cX1_sign 6 = .ok (.ifCond .ne 7, 3) := by decide +kernel
theorem dX1_sign_9 : decode cX1_sign 9 = .ok (.iconst 1, 1) := by decide +kernel
theorem dX1_sign_10 : decode cX1_sign 10 = .ok (.goto 25, 3) := by decide +kernel
theorem dX1_sign_13 : decode cX1_sign 13 = .ok (.iload 4, 2) := by decide +kernel
theorem dX1_sign_15 : decode cX1_sign 15 = .ok (.iconst 1, 1) := by decide +kernel
theorem dX1_sign_16 : decode cX1_sign 16 = .ok (.if_icmp .lt 14, 3) := by decide +kernel
theorem dX1_sign_19 : decode cX1_sign 19 = .ok (.iload 4, 2) := by decide +kernel
theorem dX1_sign_21 : decode cX1_sign 21 = .ok (.aload_n 0, 1) := by decide +kernel
theorem dX1_sign_22 : decode cX1_sign 22 = .ok (.getfield 76, 3) := by decide +kernel
theorem dX1_sign_25 : decode cX1_sign 25 = .ok (.iconst 1, 1) := by decide +kernel
theorem dX1_sign_26 : decode cX1_sign 26 = .ok (.isub, 1) := by decide +kernel
theorem dX1_sign_27 : decode cX1_sign 27 = .ok (.if_icmp .le 7, 3) := by decide +kernel
theorem dX1_sign_30 : decode cX1_sign 30 = .ok (.iconst 2, 1) := by decide +kernel
theorem dX1_sign_31 : decode cX1_sign 31 = .ok (.goto 4, 3) := by decide +kernel
theorem dX1_sign_34 : decode cX1_sign 34 = .ok (.iconst 0, 1) := by decide +kernel
theorem dX1_sign_35 : decode cX1_sign 35 = .ok (.putfield 13, 3) := by decide +kernel
theorem dX1_sign_38 : decode cX1_sign 38 = .ok (.aload_n 0, 1) := by decide +kernel
theorem dX1_sign_39 : decode cX1_sign 39 = .ok (.getfield 13, 3) := by decide +kernel
theorem dX1_sign_42 : decode cX1_sign 42 = .ok (.ifCond .eq 5, 3) := by decide +kernel
theorem dX1_sign_45 : decode cX1_sign 45 = .ok (.lconst 0, 1) := by decide +kernel
theorem dX1_sign_46 : decode cX1_sign 46 = .ok (.lreturn, 1) := by decide +kernel
theorem dX1_sign_47 : decode cX1_sign 47 = .ok (.aload_n 0, 1) := by decide +kernel
theorem dX1_sign_48 : decode cX1_sign 48 = .ok (.getfield 79, 3) := by decide +kernel
theorem dX1_sign_51 : decode cX1_sign 51 = .ok (.i2l, 1) := by decide +kernel
theorem dX1_sign_52 : decode cX1_sign 52 = .ok (.iload 4, 2) := by decide +kernel
theorem dX1_sign_54 : decode cX1_sign 54 = .ok (.i2l, 1) := by decide +kernel
theorem dX1_sign_55 : decode cX1_sign 55 = .ok (.aload_n 0, 1) := by decide +kernel
theorem dX1_sign_56 : decode cX1_sign 56 = .ok (.getfield 73, 3) := by decide +kernel
theorem dX1_sign_59 : decode cX1_sign 59 = .ok (.i2l, 1) := by decide +kernel
theorem dX1_sign_60 : decode cX1_sign 60 = .ok (.invokestatic 69, 3) := by decide +kernel
theorem dX1_sign_63 : decode cX1_sign 63 = .ok (.aload_n 0, 1) := by decide +kernel
theorem dX1_sign_64 : decode cX1_sign 64 = .ok (.getfield 76, 3) := by decide +kernel
theorem dX1_sign_67 : decode cX1_sign 67 = .ok (.i2l, 1) := by decide +kernel
theorem dX1_sign_68 : decode cX1_sign 68 = .ok (.lrem, 1) := by decide +kernel
theorem dX1_sign_69 : decode cX1_sign 69 = .ok (.lstore 5, 2) := by decide +kernel
theorem dX1_sign_71 : decode cX1_sign 71 = .ok (.lload_n 2, 1) := by decide +kernel
theorem dX1_sign_72 : decode cX1_sign 72 = .ok (.invokestatic 85, 3) := by decide +kernel
theorem dX1_sign_75 : decode cX1_sign 75 = .ok (.aload_n 0, 1) := by decide +kernel
theorem dX1_sign_76 : decode cX1_sign 76 = .ok (.getfield 7, 3) := by decide +kernel
theorem dX1_sign_79 : decode cX1_sign 79 = .ok (.iload_n 1, 1) := by decide +kernel
theorem dX1_sign_80 : decode cX1_sign 80 = .ok (.iaload, 1) := by decide +kernel
theorem dX1_sign_81 : decode cX1_sign 81 = .ok (.i2l, 1) := by decide +kernel
theorem dX1_sign_82 : decode cX1_sign 82 = .ok (.lload 5, 2) := by decide +kernel
theorem dX1_sign_84 : decode cX1_sign 84 = .ok (.lmul, 1) := by decide +kernel
theorem dX1_sign_85 : decode cX1_sign 85 = .ok (.ladd, 1) := by decide +kernel
theorem dX1_sign_86 : decode cX1_sign 86 = .ok (.aload_n 0, 1) := by decide +kernel
theorem dX1_sign_87 : decode cX1_sign 87 = .ok (.getfield 76, 3) := by decide +kernel
theorem dX1_sign_90 : decode cX1_sign 90 = .ok (.i2l, 1) := by decide +kernel
theorem dX1_sign_91 : decode cX1_sign 91 = .ok (.lrem, 1) := by decide +kernel
theorem dX1_sign_92 : decode cX1_sign 92 = .ok (.lstore 7, 2) := by decide +kernel
theorem dX1_sign_94 : decode cX1_sign 94 = .ok (.iload 4, 2) := by decide +kernel
theorem dX1_sign_96 : decode cX1_sign 96 = .ok (.i2l, 1) := by decide +kernel
theorem dX1_sign_97 : decode cX1_sign 97 = .ok (.aload_n 0, 1) := by decide +kernel
theorem dX1_sign_98 : decode cX1_sign 98 = .ok (.getfield 76, 3) := by decide +kernel
theorem dX1_sign_101 : decode cX1_sign 101 = .ok (.iconst 2, 1) := by decide +kernel
theorem dX1_sign_102 : decode cX1_sign 102 = .ok (.isub, 1) := by decide +kernel
theorem dX1_sign_103 : decode cX1_sign 103 = .ok (.i2l, 1) := by decide +kernel
theorem dX1_sign_104 : decode cX1_sign 104 = .ok (.aload_n 0, 1) := by decide +kernel
theorem dX1_sign_105 : decode cX1_sign 105 = .ok (.getfield 76, 3) := by decide +kernel
theorem dX1_sign_108 : decode cX1_sign 108 = .ok (.i2l, 1) := by decide +kernel
theorem dX1_sign_109 : decode cX1_sign 109 = .ok (.invokestatic 69, 3) := by decide +kernel
theorem dX1_sign_112 : decode cX1_sign 112 = .ok (.lload 7, 2) := by decide +kernel
theorem dX1_sign_114 : decode cX1_sign 114 = .ok (.lmul, 1) := by decide +kernel
theorem dX1_sign_115 : decode cX1_sign 115 = .ok (.aload_n 0, 1) := by decide +kernel
theorem dX1_sign_116 : decode cX1_sign 116 = .ok (.getfield 76, 3) := by decide +kernel
theorem dX1_sign_119 : decode cX1_sign 119 = .ok (.i2l, 1) := by decide +kernel
theorem dX1_sign_120 : decode cX1_sign 120 = .ok (.lrem, 1) := by decide +kernel
theorem dX1_sign_121 : decode cX1_sign 121 = .ok (.lstore 9, 2) := by decide +kernel
theorem dX1_sign_123 : decode cX1_sign 123 = .ok (.aload_n 0, 1) := by decide +kernel
theorem dX1_sign_124 : decode cX1_sign 124 = .ok (.lload 5, 2) := by decide +kernel
theorem dX1_sign_126 : decode cX1_sign 126 = .ok (.lconst 0, 1) := by decide +kernel
theorem dX1_sign_127 : decode cX1_sign 127 = .ok (.lcmp, 1) := by decide +kernel
theorem dX1_sign_128 : decode cX1_sign 128 = .ok (.ifCond .eq 10, 3) := by decide +kernel
theorem dX1_sign_131 : decode cX1_sign 131 = .ok (.lload 9, 2) := by decide +kernel
theorem dX1_sign_133 : decode cX1_sign 133 = .ok (.lconst 0, 1) := by decide +kernel
theorem dX1_sign_134 : decode cX1_sign 134 = .ok (.lcmp, 1) := by decide +kernel
theorem dX1_sign_135 : decode cX1_sign 135 = .ok (.ifCond .ne 7, 3) := by decide +kernel
theorem dX1_sign_138 : decode cX1_sign 138 = .ok (.iconst 3, 1) := by decide +kernel
theorem dX1_sign_139 : decode cX1_sign 139 = .ok (.goto 4, 3) := by decide +kernel
theorem dX1_sign_142 : decode cX1_sign 142 = .ok (.iconst 0, 1) := by decide +kernel
theorem dX1_sign_143 : decode cX1_sign 143 = .ok (.putfield 13, 3) := by decide +kernel
theorem dX1_sign_146 : decode cX1_sign 146 = .ok (.aload_n 0, 1) := by decide +kernel
theorem dX1_sign_147 : decode cX1_sign 147 = .ok (.getfield 13, 3) := by decide +kernel
theorem dX1_sign_150 : decode cX1_sign 150 = .ok (.ifCond .ne 15, 3) := by decide +kernel
theorem dX1_sign_153 : decode cX1_sign 153 = .ok (.lload 5, 2) := by decide +kernel
theorem dX1_sign_155 : decode cX1_sign 155 = .ok (.ldc2_w 89, 3) := by decide +kernel
theorem dX1_sign_158 : decode cX1_sign 158 = .ok (.lmul, 1) := by decide +kernel
theorem dX1_sign_159 : decode cX1_sign 159 = .ok (.lload 9, 2) := by decide +kernel
theorem dX1_sign_161 : decode cX1_sign 161 = .ok (.ladd, 1) := by decide +kernel
theorem dX1_sign_162 : decode cX1_sign 162 = .ok (.goto 4, 3) := by decide +kernel
theorem dX1_sign_165 : decode cX1_sign 165 = .ok (.lconst 0, 1) := by decide +kernel
theorem dX1_sign_166 : decode cX1_sign 166 = .ok (.lreturn, 1) := by decide +kernel
set_option maxRecDepth 20000 in
theorem ggX1_verify_X1_power : GoodIn wsX1_verify wsX1_power := goodIn_r _ [8] (by decide +kernel) (by decide +kernel)
set_option maxRecDepth 20000 in
theorem gX1_verify_X1_power : GoodIn wsX1_verify (va_wsS RX1 69 yX1_power wsX1_power) := goodIn_app (goodIn_of _ (by decide +kernel)) ggX1_verify_X1_power
set_option maxRecDepth 20000 in
theorem ggX1_verify_X1_digestOf : GoodIn wsX1_verify wsX1_digestOf := goodIn_r _ [11, 12, 13, 14, 7, 15, 16, 17, 18] (by decide +kernel) (by decide +kernel)
set_option maxRecDepth 20000 in
theorem gX1_verify_X1_digestOf : GoodIn wsX1_verify (va_wsS RX1 85 yX1_digestOf wsX1_digestOf) := goodIn_app (goodIn_of _ (by decide +kernel)) ggX1_verify_X1_digestOf
theorem dX1_verify_0 : decode cX1_verify 0 = .ok (.aload_n 0, 1) := by decide +kernel
theorem dX1_verify_1 : decode cX1_verify 1 = .ok (.aload_n 0, 1) := by decide +kernel
theorem dX1_verify_2 : decode cX1_verify 2 = .ok (.getfield 73, 3) := by decide +kernel
theorem dX1_verify_5 : decode cX1_verify 5 = .ok (.ifCond .ne 7, 3) := by decide +kernel
theorem dX1_verify_8 : decode cX1_verify 8 = .ok (.iconst 1, 1) := by decide +kernel
theorem dX1_verify_9 : decode cX1_verify 9 = .ok (.goto 4, 3) := by decide +kernel
theorem dX1_verify_12 : decode cX1_verify 12 = .ok (.iconst 0, 1) := by decide +kernel
theorem dX1_verify_13 : decode cX1_verify 13 = .ok (.putfield 13, 3) := by decide +kernel
theorem dX1_verify_16 : decode cX1_verify 16 = .ok (.aload_n 0, 1) := by decide +kernel
theorem dX1_verify_17 : decode cX1_verify 17 = .ok (.getfield 13, 3) := by decide +kernel
theorem dX1_verify_20 : decode cX1_verify 20 = .ok (.ifCond .ne 52, 3) := by decide +kernel
theorem dX1_verify_23 : decode cX1_verify 23 = .ok (.iload_n 1, 1) := by decide +kernel
theorem dX1_verify_24 : decode cX1_verify 24 = .ok (.iconst 1, 1) := by decide +kernel
theorem dX1_verify_25 : decode cX1_verify 25 = .ok (.if_icmp .lt 47, 3) := by decide +kernel
theorem dX1_verify_28 : decode cX1_verify 28 = .ok (.iload_n 1, 1) := by decide +kernel
theorem dX1_verify_29 : decode cX1_verify 29 = .ok (.aload_n 0, 1) := by decide +kernel
theorem dX1_verify_30 : decode cX1_verify 30 = .ok (.getfield 73, 3) := by decide +kernel
theorem dX1_verify_33 : decode cX1_verify 33 = .ok (.iconst 1, 1) := by decide +kernel
theorem dX1_verify_34 : decode cX1_verify 34 = .ok (.isub, 1) := by decide +kernel
theorem dX1_verify_35 : decode cX1_verify 35 = .ok (.if_icmp .gt 37, 3) := by decide +kernel
theorem dX1_verify_38 : decode cX1_verify 38 = .ok (.iload 4, 2) := by decide +kernel
theorem dX1_verify_40 : decode cX1_verify 40 = .ok (.iconst 1, 1) := by decide +kernel
theorem dX1_verify_41 : decode cX1_verify 41 = .ok (.if_icmp .lt 31, 3) := by decide +kernel
theorem dX1_verify_44 : decode cX1_verify 44 = .ok (.iload 4, 2) := by decide +kernel
theorem dX1_verify_46 : decode cX1_verify 46 = .ok (.aload_n 0, 1) := by decide +kernel
theorem dX1_verify_47 : decode cX1_verify 47 = .ok (.getfield 76, 3) := by decide +kernel
theorem dX1_verify_50 : decode cX1_verify 50 = .ok (.iconst 1, 1) := by decide +kernel
theorem dX1_verify_51 : decode cX1_verify 51 = .ok (.isub, 1) := by decide +kernel
theorem dX1_verify_52 : decode cX1_verify 52 = .ok (.if_icmp .gt 20, 3) := by decide +kernel
theorem dX1_verify_55 : decode cX1_verify 55 = .ok (.iload 5, 2) := by decide +kernel
theorem dX1_verify_57 : decode cX1_verify 57 = .ok (.iconst 1, 1) := by decide +kernel
theorem dX1_verify_58 : decode cX1_verify 58 = .ok (.if_icmp .lt 14, 3) := by decide +kernel
theorem dX1_verify_61 : decode cX1_verify 61 = .ok (.iload 5, 2) := by decide +kernel
theorem dX1_verify_63 : decode cX1_verify 63 = .ok (.aload_n 0, 1) := by decide +kernel
theorem dX1_verify_64 : decode cX1_verify 64 = .ok (.getfield 76, 3) := by decide +kernel
theorem dX1_verify_67 : decode cX1_verify 67 = .ok (.iconst 1, 1) := by decide +kernel
theorem dX1_verify_68 : decode cX1_verify 68 = .ok (.isub, 1) := by decide +kernel
theorem dX1_verify_69 : decode cX1_verify 69 = .ok (.if_icmp .le 5, 3) := by decide +kernel
theorem dX1_verify_72 : decode cX1_verify 72 = .ok (.iconst 0, 1) := by decide +kernel
theorem dX1_verify_73 : decode cX1_verify 73 = .ok (.ireturn, 1) := by decide +kernel
theorem dX1_verify_74 : decode cX1_verify 74 = .ok (.iload 5, 2) := by decide +kernel
theorem dX1_verify_76 : decode cX1_verify 76 = .ok (.i2l, 1) := by decide +kernel
theorem dX1_verify_77 : decode cX1_verify 77 = .ok (.aload_n 0, 1) := by decide +kernel
theorem dX1_verify_78 : decode cX1_verify 78 = .ok (.getfield 76, 3) := by decide +kernel
theorem dX1_verify_81 : decode cX1_verify 81 = .ok (.iconst 2, 1) := by decide +kernel
theorem dX1_verify_82 : decode cX1_verify 82 = .ok (.isub, 1) := by decide +kernel
theorem dX1_verify_83 : decode cX1_verify 83 = .ok (.i2l, 1) := by decide +kernel
theorem dX1_verify_84 : decode cX1_verify 84 = .ok (.aload_n 0, 1) := by decide +kernel
theorem dX1_verify_85 : decode cX1_verify 85 = .ok (.getfield 76, 3) := by decide +kernel
theorem dX1_verify_88 : decode cX1_verify 88 = .ok (.i2l, 1) := by decide +kernel
theorem dX1_verify_89 : decode cX1_verify 89 = .ok (.invokestatic 69, 3) := by decide +kernel
theorem dX1_verify_92 : decode cX1_verify 92 = .ok (.lstore 6, 2) := by decide +kernel
theorem dX1_verify_94 : decode cX1_verify 94 = .ok (.lload_n 2, 1) := by decide +kernel
theorem dX1_verify_95 : decode cX1_verify 95 = .ok (.invokestatic 85, 3) := by decide +kernel
theorem dX1_verify_98 : decode cX1_verify 98 = .ok (.lload 6, 2) := by decide +kernel
theorem dX1_verify_100 : decode cX1_verify 100 = .ok (.lmul, 1) := by decide +kernel
theorem dX1_verify_101 : decode cX1_verify 101 = .ok (.aload_n 0, 1) := by decide +kernel
theorem dX1_verify_102 : decode cX1_verify 102 = .ok (.getfield 76, 3) := by decide +kernel
theorem dX1_verify_105 : decode cX1_verify 105 = .ok (.i2l, 1) := by decide +kernel
theorem dX1_verify_106 : decode cX1_verify 106 = .ok (.lrem, 1) := by decide +kernel
theorem dX1_verify_107 : decode cX1_verify 107 = .ok (.lstore 8, 2) := by decide +kernel
theorem dX1_verify_109 : decode cX1_verify 109 = .ok (.iload 4, 2) := by decide +kernel
theorem dX1_verify_111 : decode cX1_verify 111 = .ok (.i2l, 1) := by decide +kernel
theorem dX1_verify_112 : decode cX1_verify 112 = .ok (.lload 6, 2) := by decide +kernel
theorem dX1_verify_114 : decode cX1_verify 114 = .ok (.lmul, 1) := by decide +kernel
theorem dX1_verify_115 : decode cX1_verify 115 = .ok (.aload_n 0, 1) := by decide +kernel
theorem dX1_verify_116 : decode cX1_verify 116 = .ok (.getfield 76, 3) := by decide +kernel
theorem dX1_verify_119 : decode cX1_verify 119 = .ok (.i2l, 1) := by decide +kernel
theorem dX1_verify_120 : decode cX1_verify 120 = .ok (.lrem, 1) := by decide +kernel
theorem dX1_verify_121 : decode cX1_verify 121 = .ok (.lstore 10, 2) := by decide +kernel
theorem dX1_verify_123 : decode cX1_verify 123 = .ok (.aload_n 0, 1) := by decide +kernel
theorem dX1_verify_124 : decode cX1_verify 124 = .ok (.getfield 79, 3) := by decide +kernel
theorem dX1_verify_127 : decode cX1_verify 127 = .ok (.i2l, 1) := by decide +kernel
theorem dX1_verify_128 : decode cX1_verify 128 = .ok (.lload 8, 2) := by decide +kernel
theorem dX1_verify_130 : decode cX1_verify 130 = .ok (.aload_n 0, 1) := by decide +kernel
theorem dX1_verify_131 : decode cX1_verify 131 = .ok (.getfield 73, 3) := by decide +kernel
theorem dX1_verify_134 : decode cX1_verify 134 = .ok (.i2l, 1) := by decide +kernel
theorem dX1_verify_135 : decode cX1_verify 135 = .ok (.invokestatic 69, 3) := by decide +kernel
theorem dX1_verify_138 : decode cX1_verify 138 = .ok (.iload_n 1, 1) := by decide +kernel
theorem dX1_verify_139 : decode cX1_verify 139 = .ok (.i2l, 1) := by decide +kernel
theorem dX1_verify_140 : decode cX1_verify 140 = .ok (.lload 10, 2) := by decide +kernel
theorem dX1_verify_142 : decode cX1_verify 142 = .ok (.aload_n 0, 1) := by decide +kernel
theorem dX1_verify_143 : decode cX1_verify 143 = .ok (.getfield 73, 3) := by decide +kernel
theorem dX1_verify_146 : decode cX1_verify 146 = .ok (.i2l, 1) := by decide +kernel
theorem dX1_verify_147 : decode cX1_verify 147 = .ok (.invokestatic 69, 3) := by decide +kernel
theorem dX1_verify_150 : decode cX1_verify 150 = .ok (.lmul, 1) := by decide +kernel
theorem dX1_verify_151 : decode cX1_verify 151 = .ok (.aload_n 0, 1) := by decide +kernel
theorem dX1_verify_152 : decode cX1_verify 152 = .ok (.getfield 73, 3) := by decide +kernel
theorem dX1_verify_155 : decode cX1_verify 155 = .ok (.i2l, 1) := by decide +kernel
theorem dX1_verify_156 : decode cX1_verify 156 = .ok (.lrem, 1) := by decide +kernel
theorem dX1_verify_157 : decode cX1_verify 157 = .ok (.lstore 12, 2) := by decide +kernel
theorem dX1_verify_159 : decode cX1_verify 159 = .ok (.lload 12, 2) := by decide +kernel
theorem dX1_verify_161 : decode cX1_verify 161 = .ok (.aload_n 0, 1) := by decide +kernel
theorem dX1_verify_162 : decode cX1_verify 162 = .ok (.getfield 76, 3) := by decide +kernel
theorem dX1_verify_165 : decode cX1_verify 165 = .ok (.i2l, 1) := by decide +kernel
theorem dX1_verify_166 : decode cX1_verify 166 = .ok (.lrem, 1) := by decide +kernel
theorem dX1_verify_167 : decode cX1_verify 167 = .ok (.iload 4, 2) := by decide +kernel
theorem dX1_verify_169 : decode cX1_verify 169 = .ok (.i2l, 1) := by decide +kernel
theorem dX1_verify_170 : decode cX1_verify 170 = .ok (.lcmp, 1) := by decide +kernel
theorem dX1_verify_171 : decode cX1_verify 171 = .ok (.ifCond .ne 7, 3) := by decide +kernel
theorem dX1_verify_174 : decode cX1_verify 174 = .ok (.iconst 1, 1) := by decide +kernel
theorem dX1_verify_175 : decode cX1_verify 175 = .ok (.goto 4, 3) := by decide +kernel
theorem dX1_verify_178 : decode cX1_verify 178 = .ok (.iconst 0, 1) := by decide +kernel
theorem dX1_verify_179 : decode cX1_verify 179 = .ok (.ireturn, 1) := by decide +kernel
set_option maxRecDepth 20000 in
theorem ggX1_agree_X1_hasKey : GoodIn wsX1_agree wsX1_hasKey := goodIn_r _ [8, 3, 12, 13, 14, 15, 16, 17, 18, 19, 20, 21, 22, 23, 24] (by decide +kernel) (by decide +kernel)
set_option maxRecDepth 20000 in
theorem gX1_agree_X1_hasKey : GoodIn wsX1_agree (wsV RX1 82 RX1 yX1_hasKey wsX1_hasKey) := goodIn_app (goodIn_of _ (by decide +kernel)) ggX1_agree_X1_hasKey
set_option maxRecDepth 20000 in
theorem ggX1_agree_X1_power : GoodIn wsX1_agree wsX1_power := goodIn_r _ [11] (by decide +kernel) (by decide +kernel)
set_option maxRecDepth 20000 in
theorem gX1_agree_X1_power : GoodIn wsX1_agree (va_wsS RX1 69 yX1_power wsX1_power) := goodIn_app (goodIn_of _ (by decide +kernel)) ggX1_agree_X1_power
theorem dX1_agree_0 : decode cX1_agree 0 = .ok (.aload_n 0, 1) := by decide +kernel
theorem dX1_agree_1 : decode cX1_agree 1 = .ok (.aload_n 0, 1) := by decide +kernel
theorem dX1_agree_2 : decode cX1_agree 2 = .ok (.iload_n 1, 1) := by decide +kernel
theorem dX1_agree_3 : decode cX1_agree 3 = .ok (.invokevirtual 82, 3) := by decide +kernel
theorem dX1_agree_6 : decode cX1_agree 6 = .ok (.ifCond .ne 7, 3) := by decide +kernel
theorem dX1_agree_9 : decode cX1_agree 9 = .ok (.iconst 1, 1) := by decide +kernel
theorem dX1_agree_10 : decode cX1_agree 10 = .ok (.goto 23, 3) := by decide +kernel
theorem dX1_agree_13 : decode cX1_agree 13 = .ok (.iload_n 2, 1) := by decide +kernel
theorem dX1_agree_14 : decode cX1_agree 14 = .ok (.iconst 2, 1) := by decide +kernel
theorem dX1_agree_15 : decode cX1_agree 15 = .ok (.if_icmp .lt 13, 3) := by decide +kernel
theorem dX1_agree_18 : decode cX1_agree 18 = .ok (.iload_n 2, 1) := by decide +kernel
theorem dX1_agree_19 : decode cX1_agree 19 = .ok (.aload_n 0, 1) := by decide +kernel
theorem dX1_agree_20 : decode cX1_agree 20 = .ok (.getfield 73, 3) := by decide +kernel
theorem dX1_agree_23 : decode cX1_agree 23 = .ok (.iconst 2, 1) := by decide +kernel
theorem dX1_agree_24 : decode cX1_agree 24 = .ok (.isub, 1) := by decide +kernel
theorem dX1_agree_25 : decode cX1_agree 25 = .ok (.if_icmp .le 7, 3) := by decide +kernel
theorem dX1_agree_28 : decode cX1_agree 28 = .ok (.iconst 2, 1) := by decide +kernel
theorem dX1_agree_29 : decode cX1_agree 29 = .ok (.goto 4, 3) := by decide +kernel
theorem dX1_agree_32 : decode cX1_agree 32 = .ok (.iconst 0, 1) := by decide +kernel
theorem dX1_agree_33 : decode cX1_agree 33 = .ok (.putfield 13, 3) := by decide +kernel
theorem dX1_agree_36 : decode cX1_agree 36 = .ok (.aload_n 0, 1) := by decide +kernel
theorem dX1_agree_37 : decode cX1_agree 37 = .ok (.getfield 13, 3) := by decide +kernel
theorem dX1_agree_40 : decode cX1_agree 40 = .ok (.ifCond .eq 5, 3) := by decide +kernel
theorem dX1_agree_43 : decode cX1_agree 43 = .ok (.iconst 0, 1) := by decide +kernel
theorem dX1_agree_44 : decode cX1_agree 44 = .ok (.ireturn, 1) := by decide +kernel
theorem dX1_agree_45 : decode cX1_agree 45 = .ok (.iload_n 2, 1) := by decide +kernel
theorem dX1_agree_46 : decode cX1_agree 46 = .ok (.i2l, 1) := by decide +kernel
theorem dX1_agree_47 : decode cX1_agree 47 = .ok (.aload_n 0, 1) := by decide +kernel
theorem dX1_agree_48 : decode cX1_agree 48 = .ok (.getfield 7, 3) := by decide +kernel
theorem dX1_agree_51 : decode cX1_agree 51 = .ok (.iload_n 1, 1) := by decide +kernel
theorem dX1_agree_52 : decode cX1_agree 52 = .ok (.iaload, 1) := by decide +kernel
theorem dX1_agree_53 : decode cX1_agree 53 = .ok (.i2l, 1) := by decide +kernel
theorem dX1_agree_54 : decode cX1_agree 54 = .ok (.aload_n 0, 1) := by decide +kernel
theorem dX1_agree_55 : decode cX1_agree 55 = .ok (.getfield 73, 3) := by decide +kernel
theorem dX1_agree_58 : decode cX1_agree 58 = .ok (.i2l, 1) := by decide +kernel
theorem dX1_agree_59 : decode cX1_agree 59 = .ok (.invokestatic 69, 3) := by decide +kernel
theorem dX1_agree_62 : decode cX1_agree 62 = .ok (.lstore_n 3, 1) := by decide +kernel
theorem dX1_agree_63 : decode cX1_agree 63 = .ok (.aload_n 0, 1) := by decide +kernel
theorem dX1_agree_64 : decode cX1_agree 64 = .ok (.lload_n 3, 1) := by decide +kernel
theorem dX1_agree_65 : decode cX1_agree 65 = .ok (.lconst 1, 1) := by decide +kernel
theorem dX1_agree_66 : decode cX1_agree 66 = .ok (.lcmp, 1) := by decide +kernel
theorem dX1_agree_67 : decode cX1_agree 67 = .ok (.ifCond .ne 7, 3) := by decide +kernel
theorem dX1_agree_70 : decode cX1_agree 70 = .ok (.iconst 3, 1) := by decide +kernel
theorem dX1_agree_71 : decode cX1_agree 71 = .ok (.goto 4, 3) := by decide +kernel
theorem dX1_agree_74 : decode cX1_agree 74 = .ok (.iconst 0, 1) := by decide +kernel
theorem dX1_agree_75 : decode cX1_agree 75 = .ok (.putfield 13, 3) := by decide +kernel
theorem dX1_agree_78 : decode cX1_agree 78 = .ok (.aload_n 0, 1) := by decide +kernel
theorem dX1_agree_79 : decode cX1_agree 79 = .ok (.getfield 13, 3) := by decide +kernel
theorem dX1_agree_82 : decode cX1_agree 82 = .ok (.ifCond .ne 8, 3) := by decide +kernel
theorem dX1_agree_85 : decode cX1_agree 85 = .ok (.lload_n 3, 1) := by decide +kernel
theorem dX1_agree_86 : decode cX1_agree 86 = .ok (.l2i, 1) := by decide +kernel
theorem dX1_agree_87 : decode cX1_agree 87 = .ok (.goto 4, 3) := by decide +kernel
theorem dX1_agree_90 : decode cX1_agree 90 = .ok (.iconst 0, 1) := by decide +kernel
theorem dX1_agree_91 : decode cX1_agree 91 = .ok (.ireturn, 1) := by decide +kernel
set_option maxRecDepth 20000 in
theorem ggL_generator_X0_generator : GoodIn wsL_generator wsX0_generator := goodIn_ca (goodIn_ca (goodIn_r _ [7, 8, 9, 10, 11, 12, 13, 14, 15, 16, 6, 17, 18, 19, 20, 21, 22, 23, 24, 25, 26, 27, 28, 29, 30, 31, 32, 33, 34, 35] (by decide +kernel) (by decide +kernel)) (goodIn_sub (fun _ h => List.mem_cons_of_mem _ (List.mem_append_left _ (List.mem_append_right _ h))) (by decide +kernel))) (goodIn_sub (fun _ h => List.mem_cons_of_mem _ (List.mem_append_right _ h)) (by decide +kernel))
set_option maxRecDepth 20000 in
theorem gL_generator_X0_generator : GoodIn wsL_generator (wsV RL 7 RX0 yX0_generator wsX0_generator) := goodIn_app (goodIn_of _ (by decide +kernel)) ggL_generator_X0_generator
theorem dL_generator_0 : decode cL_generator 0 = .ok (.aload_n 2, 1) := by decide +kernel
theorem dL_generator_1 : decode cL_generator 1 = .ok (.iconst 0, 1) := by decide +kernel
theorem dL_generator_2 : decode cL_generator 2 = .ok (.aload_n 0, 1) := by decide +kernel
theorem dL_generator_3 : decode cL_generator 3 = .ok (.iload_n 1, 1) := by decide +kernel
theorem dL_generator_4 : decode cL_generator 4 = .ok (.invokevirtual 7, 3) := by decide +kernel
theorem dL_generator_7 : decode cL_generator 7 = .ok (.i2l, 1) := by decide +kernel
theorem dL_generator_8 : decode cL_generator 8 = .ok (.lastore, 1) := by decide +kernel
theorem dL_generator_9 : decode cL_generator 9 = .ok (.goto 9, 3) := by decide +kernel
theorem dL_generator_12 : decode cL_generator 12 = .ok (.astore_n 3, 1) := by decide +kernel
theorem dL_generator_13 : decode cL_generator 13 = .ok (.iconst 1, 1) := by decide +kernel
theorem dL_generator_14 : decode cL_generator 14 = .ok (.ireturn, 1) := by decide +kernel
theorem dL_generator_15 : decode cL_generator 15 = .ok (.astore_n 3, 1) := by decide +kernel
theorem dL_generator_16 : decode cL_generator 16 = .ok (.iconst 2, 1) := by decide +kernel
theorem dL_generator_17 : decode cL_generator 17 = .ok (.ireturn, 1) := by decide +kernel
theorem dL_generator_18 : decode cL_generator 18 = .ok (.iconst 0, 1) := by decide +kernel
theorem dL_generator_19 : decode cL_generator 19 = .ok (.ireturn, 1) := by decide +kernel
set_option maxRecDepth 20000 in
theorem ggL_adopt_X0_adopt : GoodIn wsL_adopt wsX0_adopt := goodIn_ca (goodIn_r _ [6, 7, 8, 9, 10, 11, 12, 13, 5, 14, 15, 16, 17, 18, 19, 20, 21, 22, 23, 24, 25, 26, 27, 28, 29, 30, 31, 32, 33, 34, 35, 36] (by decide +kernel) (by decide +kernel)) (goodIn_sub (fun _ h => List.mem_cons_of_mem _ (List.mem_append_right _ h)) (by decide +kernel))
set_option maxRecDepth 20000 in
theorem gL_adopt_X0_adopt : GoodIn wsL_adopt (wsV RL 17 RX0 yX0_adopt wsX0_adopt) := goodIn_app (goodIn_of _ (by decide +kernel)) ggL_adopt_X0_adopt
theorem dL_adopt_0 : decode cL_adopt 0 = .ok (.aload_n 0, 1) := by decide +kernel
theorem dL_adopt_1 : decode cL_adopt 1 = .ok (.iload_n 1, 1) := by decide +kernel
theorem dL_adopt_2 : decode cL_adopt 2 = .ok (.iload_n 2, 1) := by decide +kernel
theorem dL_adopt_3 : decode cL_adopt 3 = .ok (.iload_n 3, 1) := by decide +kernel
theorem dL_adopt_4 : decode cL_adopt 4 = .ok (.invokevirtual 17, 3) := by decide +kernel
theorem dL_adopt_7 : decode cL_adopt 7 = .ok (.goto 7, 3) := by decide +kernel
theorem dL_adopt_10 : decode cL_adopt 10 = .ok (.astore 4, 2) := by decide +kernel
theorem dL_adopt_12 : decode cL_adopt 12 = .ok (.iconst 1, 1) := by decide +kernel
theorem dL_adopt_13 : decode cL_adopt 13 = .ok (.ireturn, 1) := by decide +kernel
theorem dL_adopt_14 : decode cL_adopt 14 = .ok (.iconst 0, 1) := by decide +kernel
theorem dL_adopt_15 : decode cL_adopt 15 = .ok (.ireturn, 1) := by decide +kernel
set_option maxRecDepth 20000 in
theorem ggL_key_X0_key : GoodIn wsL_key wsX0_key := goodIn_ca (goodIn_ca (goodIn_ca (goodIn_r _ [8, 9, 10, 11, 12, 13, 14, 15, 16, 17, 18, 19, 7, 20, 21, 22, 23, 24, 25, 26, 27, 28, 29, 30, 31, 32, 33, 34, 35, 36, 37, 38, 39, 40, 41, 42] (by decide +kernel) (by decide +kernel)) (goodIn_sub (fun _ h => List.mem_cons_of_mem _ (List.mem_append_left _ (List.mem_append_left _ (List.mem_append_right _ h)))) (by decide +kernel))) (goodIn_sub (fun _ h => List.mem_cons_of_mem _ (List.mem_append_left _ (List.mem_append_right _ h))) (by decide +kernel))) (goodIn_sub (fun _ h => List.mem_cons_of_mem _ (List.mem_append_right _ h)) (by decide +kernel))
set_option maxRecDepth 20000 in
theorem gL_key_X0_key : GoodIn wsL_key (wsV RL 21 RX0 yX0_key wsX0_key) := goodIn_app (goodIn_of _ (by decide +kernel)) ggL_key_X0_key
theorem dL_key_0 : decode cL_key 0 = .ok (.aload_n 3, 1) := by decide +kernel
theorem dL_key_1 : decode cL_key 1 = .ok (.iconst 0, 1) := by decide +kernel
theorem dL_key_2 : decode cL_key 2 = .ok (.aload_n 0, 1) := by decide +kernel
theorem dL_key_3 : decode cL_key 3 = .ok (.iload_n 1, 1) := by decide +kernel
theorem dL_key_4 : decode cL_key 4 = .ok (.iload_n 2, 1) := by decide +kernel
theorem dL_key_5 : decode cL_key 5 = .ok (.invokevirtual 21, 3) := by decide +kernel
theorem dL_key_8 : decode cL_key 8 = .ok (.i2l, 1) := by decide +kernel
theorem dL_key_9 : decode cL_key 9 = .ok (.lastore, 1) := by decide +kernel
theorem dL_key_10 : decode cL_key 10 = .ok (.goto 15, 3) := by decide +kernel
theorem dL_key_13 : decode cL_key 13 = .ok (.astore 4, 2) := by decide +kernel
theorem dL_key_15 : decode cL_key 15 = .ok (.iconst 1, 1) := by decide +kernel
theorem dL_key_16 : decode cL_key 16 = .ok (.ireturn, 1) := by decide +kernel
theorem dL_key_17 : decode cL_key 17 = .ok (.astore 4, 2) := by decide +kernel
theorem dL_key_19 : decode cL_key 19 = .ok (.iconst 2, 1) := by decide +kernel
theorem dL_key_20 : decode cL_key 20 = .ok (.ireturn, 1) := by decide +kernel
theorem dL_key_21 : decode cL_key 21 = .ok (.astore 4, 2) := by decide +kernel
theorem dL_key_23 : decode cL_key 23 = .ok (.iconst 3, 1) := by decide +kernel
theorem dL_key_24 : decode cL_key 24 = .ok (.ireturn, 1) := by decide +kernel
theorem dL_key_25 : decode cL_key 25 = .ok (.iconst 0, 1) := by decide +kernel
theorem dL_key_26 : decode cL_key 26 = .ok (.ireturn, 1) := by decide +kernel
set_option maxRecDepth 20000 in
theorem ggL_publicNumber_X0_publicNumber : GoodIn wsL_publicNumber wsX0_publicNumber := goodIn_ca (goodIn_r _ [6, 7, 8, 9, 10, 5, 11, 12, 13, 14, 15, 16, 17, 18, 19, 20, 21, 22, 23, 24, 25, 26] (by decide +kernel) (by decide +kernel)) (goodIn_sub (fun _ h => List.mem_cons_of_mem _ (List.mem_append_right _ h)) (by decide +kernel))
set_option maxRecDepth 20000 in
theorem gL_publicNumber_X0_publicNumber : GoodIn wsL_publicNumber (wsV RL 27 RX0 yX0_publicNumber wsX0_publicNumber) := goodIn_app (goodIn_of _ (by decide +kernel)) ggL_publicNumber_X0_publicNumber
theorem dL_publicNumber_0 : decode cL_publicNumber 0 = .ok (.aload_n 2, 1) := by decide +kernel
theorem dL_publicNumber_1 : decode cL_publicNumber 1 = .ok (.iconst 0, 1) := by decide +kernel
theorem dL_publicNumber_2 : decode cL_publicNumber 2 = .ok (.aload_n 0, 1) := by decide +kernel
theorem dL_publicNumber_3 : decode cL_publicNumber 3 = .ok (.iload_n 1, 1) := by decide +kernel
theorem dL_publicNumber_4 : decode cL_publicNumber 4 = .ok (.invokevirtual 27, 3) := by decide +kernel
theorem dL_publicNumber_7 : decode cL_publicNumber 7 = .ok (.i2l, 1) := by decide +kernel
theorem dL_publicNumber_8 : decode cL_publicNumber 8 = .ok (.lastore, 1) := by decide +kernel
theorem dL_publicNumber_9 : decode cL_publicNumber 9 = .ok (.goto 6, 3) := by decide +kernel
theorem dL_publicNumber_12 : decode cL_publicNumber 12 = .ok (.astore_n 3, 1) := by decide +kernel
theorem dL_publicNumber_13 : decode cL_publicNumber 13 = .ok (.iconst 1, 1) := by decide +kernel
theorem dL_publicNumber_14 : decode cL_publicNumber 14 = .ok (.ireturn, 1) := by decide +kernel
theorem dL_publicNumber_15 : decode cL_publicNumber 15 = .ok (.iconst 0, 1) := by decide +kernel
theorem dL_publicNumber_16 : decode cL_publicNumber 16 = .ok (.ireturn, 1) := by decide +kernel
set_option maxRecDepth 20000 in
theorem ggL_forget_X0_forget : GoodIn wsL_forget wsX0_forget := goodIn_ca (goodIn_r _ [6, 7, 8, 9, 5, 10, 11, 12, 13, 14, 15, 16, 17, 18, 19, 20, 21, 22, 23, 24, 25, 26, 27, 28, 29, 30] (by decide +kernel) (by decide +kernel)) (goodIn_sub (fun _ h => List.mem_cons_of_mem _ (List.mem_append_right _ h)) (by decide +kernel))
set_option maxRecDepth 20000 in
theorem gL_forget_X0_forget : GoodIn wsL_forget (wsV RL 32 RX0 yX0_forget wsX0_forget) := goodIn_app (goodIn_of _ (by decide +kernel)) ggL_forget_X0_forget
theorem dL_forget_0 : decode cL_forget 0 = .ok (.aload_n 0, 1) := by decide +kernel
theorem dL_forget_1 : decode cL_forget 1 = .ok (.iload_n 1, 1) := by decide +kernel
theorem dL_forget_2 : decode cL_forget 2 = .ok (.invokevirtual 32, 3) := by decide +kernel
theorem dL_forget_5 : decode cL_forget 5 = .ok (.goto 6, 3) := by decide +kernel
theorem dL_forget_8 : decode cL_forget 8 = .ok (.astore_n 2, 1) := by decide +kernel
theorem dL_forget_9 : decode cL_forget 9 = .ok (.iconst 1, 1) := by decide +kernel
theorem dL_forget_10 : decode cL_forget 10 = .ok (.ireturn, 1) := by decide +kernel
theorem dL_forget_11 : decode cL_forget 11 = .ok (.iconst 0, 1) := by decide +kernel
theorem dL_forget_12 : decode cL_forget 12 = .ok (.ireturn, 1) := by decide +kernel
set_option maxRecDepth 20000 in
theorem ggL_fits_X0_fits : GoodIn wsL_fits wsX0_fits := goodIn_ca (goodIn_r _ [6, 7, 8, 9, 10, 11, 5, 12, 13, 14, 15, 16, 17, 18, 19, 20, 21, 22, 23, 24, 25, 26, 27, 28, 29, 30] (by decide +kernel) (by decide +kernel)) (goodIn_sub (fun _ h => List.mem_cons_of_mem _ (List.mem_append_right _ h)) (by decide +kernel))
set_option maxRecDepth 20000 in
theorem gL_fits_X0_fits : GoodIn wsL_fits (wsV RL 36 RX0 yX0_fits wsX0_fits) := goodIn_app (goodIn_of _ (by decide +kernel)) ggL_fits_X0_fits
theorem dL_fits_0 : decode cL_fits 0 = .ok (.aload_n 2, 1) := by decide +kernel
theorem dL_fits_1 : decode cL_fits 1 = .ok (.iconst 0, 1) := by decide +kernel
theorem dL_fits_2 : decode cL_fits 2 = .ok (.aload_n 0, 1) := by decide +kernel
theorem dL_fits_3 : decode cL_fits 3 = .ok (.iload_n 1, 1) := by decide +kernel
theorem dL_fits_4 : decode cL_fits 4 = .ok (.invokevirtual 36, 3) := by decide +kernel
theorem dL_fits_7 : decode cL_fits 7 = .ok (.ifCond .eq 7, 3) := by decide +kernel
theorem dL_fits_10 : decode cL_fits 10 = .ok (.lconst 1, 1) := by decide +kernel
theorem dL_fits_11 : decode cL_fits 11 = .ok (.goto 4, 3) := by decide +kernel
theorem dL_fits_14 : decode cL_fits 14 = .ok (.lconst 0, 1) := by decide +kernel
theorem dL_fits_15 : decode cL_fits 15 = .ok (.lastore, 1) := by decide +kernel
theorem dL_fits_16 : decode cL_fits 16 = .ok (.goto 6, 3) := by decide +kernel
theorem dL_fits_19 : decode cL_fits 19 = .ok (.astore_n 3, 1) := by decide +kernel
theorem dL_fits_20 : decode cL_fits 20 = .ok (.iconst 1, 1) := by decide +kernel
theorem dL_fits_21 : decode cL_fits 21 = .ok (.ireturn, 1) := by decide +kernel
theorem dL_fits_22 : decode cL_fits 22 = .ok (.iconst 0, 1) := by decide +kernel
theorem dL_fits_23 : decode cL_fits 23 = .ok (.ireturn, 1) := by decide +kernel
set_option maxRecDepth 20000 in
theorem ggL_sign_X0_sign : GoodIn wsL_sign wsX0_sign := goodIn_ca (goodIn_ca (goodIn_ca (goodIn_r _ [8, 9, 10, 11, 12, 13, 14, 15, 16, 17, 18, 19, 7, 20, 21, 22, 23, 24, 25, 26, 27, 28, 29, 30, 31, 32, 33, 34, 35, 36, 37, 38, 39, 40, 41, 42, 43, 44, 45, 46, 47, 48, 49, 50, 51, 52, 53, 54, 55] (by decide +kernel) (by decide +kernel)) (goodIn_sub (fun _ h => List.mem_cons_of_mem _ (List.mem_append_left _ (List.mem_append_left _ (List.mem_append_right _ h)))) (by decide +kernel))) (goodIn_sub (fun _ h => List.mem_cons_of_mem _ (List.mem_append_left _ (List.mem_append_right _ h))) (by decide +kernel))) (goodIn_sub (fun _ h => List.mem_cons_of_mem _ (List.mem_append_right _ h)) (by decide +kernel))
set_option maxRecDepth 20000 in
theorem gL_sign_X0_sign : GoodIn wsL_sign (wsV RL 40 RX0 yX0_sign wsX0_sign) := goodIn_app (goodIn_of _ (by decide +kernel)) ggL_sign_X0_sign
theorem dL_sign_0 : decode cL_sign 0 = .ok (.aload 5, 2) := by decide +kernel
theorem dL_sign_2 : decode cL_sign 2 = .ok (.iconst 0, 1) := by decide +kernel
theorem dL_sign_3 : decode cL_sign 3 = .ok (.aload_n 0, 1) := by decide +kernel
theorem dL_sign_4 : decode cL_sign 4 = .ok (.iload_n 1, 1) := by decide +kernel
theorem dL_sign_5 : decode cL_sign 5 = .ok (.lload_n 2, 1) := by decide +kernel
theorem dL_sign_6 : decode cL_sign 6 = .ok (.iload 4, 2) := by decide +kernel
theorem dL_sign_8 : decode cL_sign 8 = .ok (.invokevirtual 40, 3) := by decide +kernel
theorem dL_sign_11 : decode cL_sign 11 = .ok (.lastore, 1) := by decide +kernel
theorem dL_sign_12 : decode cL_sign 12 = .ok (.goto 15, 3) := by decide +kernel
theorem dL_sign_15 : decode cL_sign 15 = .ok (.astore 6, 2) := by decide +kernel
theorem dL_sign_17 : decode cL_sign 17 = .ok (.iconst 1, 1) := by decide +kernel
theorem dL_sign_18 : decode cL_sign 18 = .ok (.ireturn, 1) := by decide +kernel
theorem dL_sign_19 : decode cL_sign 19 = .ok (.astore 6, 2) := by decide +kernel
theorem dL_sign_21 : decode cL_sign 21 = .ok (.iconst 2, 1) := by decide +kernel
theorem dL_sign_22 : decode cL_sign 22 = .ok (.ireturn, 1) := by decide +kernel
theorem dL_sign_23 : decode cL_sign 23 = .ok (.astore 6, 2) := by decide +kernel
theorem dL_sign_25 : decode cL_sign 25 = .ok (.iconst 3, 1) := by decide +kernel
theorem dL_sign_26 : decode cL_sign 26 = .ok (.ireturn, 1) := by decide +kernel
theorem dL_sign_27 : decode cL_sign 27 = .ok (.iconst 0, 1) := by decide +kernel
theorem dL_sign_28 : decode cL_sign 28 = .ok (.ireturn, 1) := by decide +kernel
set_option maxRecDepth 20000 in
theorem ggL_verify_X0_verify : GoodIn wsL_verify wsX0_verify := goodIn_ca (goodIn_r _ [6, 7, 8, 9, 10, 11, 12, 5, 13, 14, 15, 16, 17, 18, 19, 20, 21, 22, 23, 24, 25, 26, 27, 28, 29, 30, 31, 32, 33, 34, 35, 36, 37, 38, 39, 40, 41, 42, 43, 44, 45] (by decide +kernel) (by decide +kernel)) (goodIn_sub (fun _ h => List.mem_cons_of_mem _ (List.mem_append_right _ h)) (by decide +kernel))
set_option maxRecDepth 20000 in
theorem gL_verify_X0_verify : GoodIn wsL_verify (wsV RL 46 RX0 yX0_verify wsX0_verify) := goodIn_app (goodIn_of _ (by decide +kernel)) ggL_verify_X0_verify
theorem dL_verify_0 : decode cL_verify 0 = .ok (.aload 6, 2) := by decide +kernel
theorem dL_verify_2 : decode cL_verify 2 = .ok (.iconst 0, 1) := by decide +kernel
theorem dL_verify_3 : decode cL_verify 3 = .ok (.aload_n 0, 1) := by decide +kernel
theorem dL_verify_4 : decode cL_verify 4 = .ok (.iload_n 1, 1) := by decide +kernel
theorem dL_verify_5 : decode cL_verify 5 = .ok (.lload_n 2, 1) := by decide +kernel
theorem dL_verify_6 : decode cL_verify 6 = .ok (.iload 4, 2) := by decide +kernel
theorem dL_verify_8 : decode cL_verify 8 = .ok (.iload 5, 2) := by decide +kernel
theorem dL_verify_10 : decode cL_verify 10 = .ok (.invokevirtual 46, 3) := by decide +kernel
theorem dL_verify_13 : decode cL_verify 13 = .ok (.ifCond .eq 7, 3) := by decide +kernel
theorem dL_verify_16 : decode cL_verify 16 = .ok (.lconst 1, 1) := by decide +kernel
theorem dL_verify_17 : decode cL_verify 17 = .ok (.goto 4, 3) := by decide +kernel
theorem dL_verify_20 : decode cL_verify 20 = .ok (.lconst 0, 1) := by decide +kernel
theorem dL_verify_21 : decode cL_verify 21 = .ok (.lastore, 1) := by decide +kernel
theorem dL_verify_22 : decode cL_verify 22 = .ok (.goto 7, 3) := by decide +kernel
theorem dL_verify_25 : decode cL_verify 25 = .ok (.astore 7, 2) := by decide +kernel
theorem dL_verify_27 : decode cL_verify 27 = .ok (.iconst 1, 1) := by decide +kernel
theorem dL_verify_28 : decode cL_verify 28 = .ok (.ireturn, 1) := by decide +kernel
theorem dL_verify_29 : decode cL_verify 29 = .ok (.iconst 0, 1) := by decide +kernel
theorem dL_verify_30 : decode cL_verify 30 = .ok (.ireturn, 1) := by decide +kernel
set_option maxRecDepth 20000 in
theorem ggL_agree_X0_agree : GoodIn wsL_agree wsX0_agree := goodIn_ca (goodIn_ca (goodIn_ca (goodIn_r _ [8, 9, 10, 11, 12, 13, 14, 15, 16, 17, 7, 18, 19, 20, 21, 22, 23, 24, 25, 26, 27, 28, 29, 30, 31, 32, 33, 34, 35, 36, 37, 38, 39] (by decide +kernel) (by decide +kernel)) (goodIn_sub (fun _ h => List.mem_cons_of_mem _ (List.mem_append_left _ (List.mem_append_left _ (List.mem_append_right _ h)))) (by decide +kernel))) (goodIn_sub (fun _ h => List.mem_cons_of_mem _ (List.mem_append_left _ (List.mem_append_right _ h))) (by decide +kernel))) (goodIn_sub (fun _ h => List.mem_cons_of_mem _ (List.mem_append_right _ h)) (by decide +kernel))
set_option maxRecDepth 20000 in
theorem gL_agree_X0_agree : GoodIn wsL_agree (wsV RL 50 RX0 yX0_agree wsX0_agree) := goodIn_app (goodIn_of _ (by decide +kernel)) ggL_agree_X0_agree
theorem dL_agree_0 : decode cL_agree 0 = .ok (.aload_n 3, 1) := by decide +kernel
theorem dL_agree_1 : decode cL_agree 1 = .ok (.iconst 0, 1) := by decide +kernel
theorem dL_agree_2 : decode cL_agree 2 = .ok (.aload_n 0, 1) := by decide +kernel
theorem dL_agree_3 : decode cL_agree 3 = .ok (.iload_n 1, 1) := by decide +kernel
theorem dL_agree_4 : decode cL_agree 4 = .ok (.iload_n 2, 1) := by decide +kernel
theorem dL_agree_5 : decode cL_agree 5 = .ok (.invokevirtual 50, 3) := by decide +kernel
theorem dL_agree_8 : decode cL_agree 8 = .ok (.i2l, 1) := by decide +kernel
theorem dL_agree_9 : decode cL_agree 9 = .ok (.lastore, 1) := by decide +kernel
theorem dL_agree_10 : decode cL_agree 10 = .ok (.goto 15, 3) := by decide +kernel
theorem dL_agree_13 : decode cL_agree 13 = .ok (.astore 4, 2) := by decide +kernel
theorem dL_agree_15 : decode cL_agree 15 = .ok (.iconst 1, 1) := by decide +kernel
theorem dL_agree_16 : decode cL_agree 16 = .ok (.ireturn, 1) := by decide +kernel
theorem dL_agree_17 : decode cL_agree 17 = .ok (.astore 4, 2) := by decide +kernel
theorem dL_agree_19 : decode cL_agree 19 = .ok (.iconst 2, 1) := by decide +kernel
theorem dL_agree_20 : decode cL_agree 20 = .ok (.ireturn, 1) := by decide +kernel
theorem dL_agree_21 : decode cL_agree 21 = .ok (.astore 4, 2) := by decide +kernel
theorem dL_agree_23 : decode cL_agree 23 = .ok (.iconst 3, 1) := by decide +kernel
theorem dL_agree_24 : decode cL_agree 24 = .ok (.ireturn, 1) := by decide +kernel
theorem dL_agree_25 : decode cL_agree 25 = .ok (.iconst 0, 1) := by decide +kernel
theorem dL_agree_26 : decode cL_agree 26 = .ok (.ireturn, 1) := by decide +kernel
set_option maxRecDepth 20000 in
theorem ggL_law_X0_init : GoodIn wsL_law wsX0_init := goodIn_r _ [10, 11, 12, 13, 14, 15, 16, 286, 287, 288, 289, 290, 291, 292, 293, 294] (by decide +kernel) (by decide +kernel)
set_option maxRecDepth 20000 in
theorem gL_law_X0_init : GoodIn wsL_law (wsX0_init) := ggL_law_X0_init
set_option maxRecDepth 20000 in
theorem ggL_law_X1_init : GoodIn wsL_law wsX1_init := goodIn_r _ [19, 20, 12, 13, 14, 21, 295, 296, 297, 298, 299, 300, 301, 302, 303, 304, 305, 306, 307] (by decide +kernel) (by decide +kernel)
set_option maxRecDepth 20000 in
theorem gL_law_X1_init : GoodIn wsL_law (wsX1_init) := ggL_law_X1_init
set_option maxRecDepth 20000 in
theorem ggL_law_X0_generate : GoodIn wsL_law wsX0_generate := goodIn_r _ [25, 26, 27, 28, 29, 30, 31, 2, 32, 33, 34, 35, 36, 37, 38, 39, 40, 41, 42, 43, 44, 45, 46, 47, 48, 49, 50, 286, 287, 288, 289, 290, 291, 292, 293, 294] (by decide +kernel) (by decide +kernel)
set_option maxRecDepth 20000 in
theorem gL_law_X0_generate : GoodIn wsL_law (wsV RL 59 RX0 yX0_generate wsX0_generate) := goodIn_app (goodIn_of _ (by decide +kernel)) ggL_law_X0_generate
set_option maxRecDepth 20000 in
theorem ggL_law_X1_generate : GoodIn wsL_law wsX1_generate := goodIn_r _ [54, 55, 56, 57, 58, 59, 60, 61, 62, 63, 64, 65, 66, 5, 67, 68, 69, 70, 71, 72, 73, 74, 75, 76, 77, 78, 79, 295, 296, 297, 298, 299, 300, 301, 302, 303, 304, 305, 306, 307] (by decide +kernel) (by decide +kernel)
set_option maxRecDepth 20000 in
theorem gL_law_X1_generate : GoodIn wsL_law (wsV RL 63 RX1 yX1_generate wsX1_generate) := goodIn_app (goodIn_of _ (by decide +kernel)) ggL_law_X1_generate
set_option maxRecDepth 20000 in
theorem ggL_law_X0_candidate : GoodIn wsL_law wsX0_candidate := goodIn_r _ [83, 27, 26, 28, 29, 286, 287, 288, 289, 290, 291, 292, 293, 294] (by decide +kernel) (by decide +kernel)
set_option maxRecDepth 20000 in
theorem gL_law_X0_candidate : GoodIn wsL_law (wsV RL 64 RX0 yX0_candidate wsX0_candidate) := goodIn_app (goodIn_of _ (by decide +kernel)) ggL_law_X0_candidate
set_option maxRecDepth 20000 in
theorem ggL_law_X1_candidate : GoodIn wsL_law wsX1_candidate := goodIn_r _ [87, 55, 57, 60, 62, 58, 63, 295, 296, 297, 298, 299, 300, 301, 302, 303, 304, 305, 306, 307] (by decide +kernel) (by decide +kernel)
set_option maxRecDepth 20000 in
theorem gL_law_X1_candidate : GoodIn wsL_law (wsV RL 68 RX1 yX1_candidate wsX1_candidate) := goodIn_app (goodIn_of _ (by decide +kernel)) ggL_law_X1_candidate
set_option maxRecDepth 20000 in
theorem ggL_law_L_generator : GoodIn wsL_law wsL_generator := goodIn_ca (goodIn_ca (goodIn_r _ [91, 92, 93, 94, 95, 96, 2, 97, 98, 99, 100, 101, 27, 28, 26, 37, 38, 39, 40, 41, 42, 102, 103, 104, 105, 106, 107, 286, 287, 288, 289, 290, 291, 292, 293, 294] (by decide +kernel) (by decide +kernel)) (goodIn_sub (fun _ h => List.mem_append_left _ (List.mem_append_left _ (List.mem_append_left _ (List.mem_append_left _ (List.mem_append_right _ h))))) (by decide +kernel))) (goodIn_sub (fun _ h => List.mem_append_left _ (List.mem_append_left _ (List.mem_append_left _ (List.mem_append_right _ h)))) (by decide +kernel))
set_option maxRecDepth 20000 in
theorem gL_law_L_generator : GoodIn wsL_law (va_wsS RL 69 yL_generator wsL_generator) := goodIn_app (goodIn_of _ (by decide +kernel)) ggL_law_L_generator
set_option maxRecDepth 20000 in
theorem ggL_law_X1_generator : GoodIn wsL_law wsX1_generator := goodIn_r _ [111, 57, 55, 58, 112, 60, 62, 70, 71, 5, 72, 73, 74, 75, 113, 114, 115, 295, 296, 297, 298, 299, 300, 301, 302, 303, 304, 305, 306, 307] (by decide +kernel) (by decide +kernel)
set_option maxRecDepth 20000 in
theorem gL_law_X1_generator : GoodIn wsL_law (wsV RL 74 RX1 yX1_generator wsX1_generator) := goodIn_app (goodIn_of _ (by decide +kernel)) ggL_law_X1_generator
set_option maxRecDepth 20000 in
theorem ggL_law_X1_thrown : GoodIn wsL_law wsX1_thrown := goodIn_r _ [119, 55, 295, 296, 297, 298, 299, 300, 301, 302, 303, 304, 305, 306, 307] (by decide +kernel) (by decide +kernel)
set_option maxRecDepth 20000 in
theorem gL_law_X1_thrown : GoodIn wsL_law (wsV RL 75 RX1 yX1_thrown wsX1_thrown) := goodIn_app (goodIn_of _ (by decide +kernel)) ggL_law_X1_thrown
set_option maxRecDepth 20000 in
theorem ggL_law_X0_valid : GoodIn wsL_law wsX0_valid := goodIn_r _ [123, 34, 35, 2, 36, 37, 38, 39, 40, 41, 42, 30, 31, 32, 33, 43, 44, 45, 46, 47, 48, 49, 50] (by decide +kernel) (by decide +kernel)
set_option maxRecDepth 20000 in
theorem gL_law_X0_valid : GoodIn wsL_law (wsV RL 79 RX0 yX0_valid wsX0_valid) := goodIn_app (goodIn_of _ (by decide +kernel)) ggL_law_X0_valid
set_option maxRecDepth 20000 in
theorem ggL_law_X1_valid : GoodIn wsL_law wsX1_valid := goodIn_r _ [127, 55, 56, 59, 61, 64, 65, 66, 5, 67, 68, 69, 70, 71, 72, 73, 74, 75, 76, 77, 78, 79, 295, 296, 297, 298, 299, 300, 301, 302, 303, 304, 305, 306, 307] (by decide +kernel) (by decide +kernel)
set_option maxRecDepth 20000 in
theorem gL_law_X1_valid : GoodIn wsL_law (wsV RL 83 RX1 yX1_valid wsX1_valid) := goodIn_app (goodIn_of _ (by decide +kernel)) ggL_law_X1_valid
set_option maxRecDepth 20000 in
theorem ggL_law_L_adopt : GoodIn wsL_law wsL_adopt := goodIn_ca (goodIn_r _ [130, 93, 131, 132, 133, 2, 134, 100, 101, 135, 136, 137, 138, 139, 140, 43, 44, 45, 46, 105, 106, 107, 141, 142, 143, 144, 15, 16, 286, 287, 288, 289, 290, 291, 292, 293, 294] (by decide +kernel) (by decide +kernel)) (goodIn_sub (fun _ h => List.mem_append_left _ (List.mem_append_left _ (List.mem_append_left _ (List.mem_append_right _ h)))) (by decide +kernel))
set_option maxRecDepth 20000 in
theorem gL_law_L_adopt : GoodIn wsL_law (va_wsS RL 84 yL_adopt wsL_adopt) := goodIn_app (goodIn_of _ (by decide +kernel)) ggL_law_L_adopt
set_option maxRecDepth 20000 in
theorem ggL_law_X1_adopt : GoodIn wsL_law wsX1_adopt := goodIn_r _ [148, 55, 149, 150, 151, 21, 76, 77, 5, 78, 79, 69, 113, 114, 115, 295, 296, 297, 298, 299, 300, 301, 302, 303, 304, 305, 306, 307] (by decide +kernel) (by decide +kernel)
set_option maxRecDepth 20000 in
theorem gL_law_X1_adopt : GoodIn wsL_law (wsV RL 87 RX1 yX1_adopt wsX1_adopt) := goodIn_app (goodIn_of _ (by decide +kernel)) ggL_law_X1_adopt
set_option maxRecDepth 20000 in
theorem ggL_law_X0_domain : GoodIn wsL_law wsX0_domain := goodIn_r _ [155, 135, 136, 137, 286, 287, 288, 289, 290, 291, 292, 293, 294] (by decide +kernel) (by decide +kernel)
set_option maxRecDepth 20000 in
theorem gL_law_X0_domain : GoodIn wsL_law (wsV RL 88 RX0 yX0_domain wsX0_domain) := goodIn_app (goodIn_of _ (by decide +kernel)) ggL_law_X0_domain
set_option maxRecDepth 20000 in
theorem ggL_law_X1_domain : GoodIn wsL_law wsX1_domain := goodIn_r _ [159, 55, 149, 150, 151, 295, 296, 297, 298, 299, 300, 301, 302, 303, 304, 305, 306, 307] (by decide +kernel) (by decide +kernel)
set_option maxRecDepth 20000 in
theorem gL_law_X1_domain : GoodIn wsL_law (wsV RL 91 RX1 yX1_domain wsX1_domain) := goodIn_app (goodIn_of _ (by decide +kernel)) ggL_law_X1_domain
set_option maxRecDepth 20000 in
theorem ggL_law_L_key : GoodIn wsL_law wsL_key := goodIn_ca (goodIn_ca (goodIn_ca (goodIn_r _ [162, 92, 163, 93, 164, 165, 166, 2, 167, 168, 169, 100, 101, 15, 16, 137, 135, 170, 171, 172, 173, 98, 99, 174, 175, 176, 177, 178, 179, 180, 136, 105, 106, 107, 286, 287, 288, 289, 290, 291, 292, 293, 294] (by decide +kernel) (by decide +kernel)) (goodIn_sub (fun _ h => List.mem_append_left _ (List.mem_append_left _ (List.mem_append_right _ h))) (by decide +kernel))) (goodIn_sub (fun _ h => List.mem_append_left _ (List.mem_append_left _ (List.mem_append_left _ (List.mem_append_right _ h)))) (by decide +kernel))) (goodIn_sub (fun _ h => List.mem_append_left _ (List.mem_append_left _ (List.mem_append_left _ (List.mem_append_left _ (List.mem_append_right _ h))))) (by decide +kernel))
set_option maxRecDepth 20000 in
theorem gL_law_L_key : GoodIn wsL_law (va_wsS RL 92 yL_key wsL_key) := goodIn_app (goodIn_of _ (by decide +kernel)) ggL_law_L_key
set_option maxRecDepth 20000 in
theorem ggL_law_X1_key : GoodIn wsL_law wsX1_key := goodIn_r _ [184, 149, 150, 55, 21, 151, 113, 114, 5, 115, 295, 296, 297, 298, 299, 300, 301, 302, 303, 304, 305, 306, 307] (by decide +kernel) (by decide +kernel)
set_option maxRecDepth 20000 in
theorem gL_law_X1_key : GoodIn wsL_law (wsV RL 95 RX1 yX1_key wsX1_key) := goodIn_app (goodIn_of _ (by decide +kernel)) ggL_law_X1_key
set_option maxRecDepth 20000 in
theorem ggL_law_L_publicNumber : GoodIn wsL_law wsL_publicNumber := goodIn_ca (goodIn_r _ [187, 188, 189, 190, 191, 2, 192, 16, 193, 194, 195, 196, 197, 198, 15, 174, 175, 176, 286, 287, 288, 289, 290, 291, 292, 293, 294] (by decide +kernel) (by decide +kernel)) (goodIn_sub (fun _ h => List.mem_append_left _ (List.mem_append_right _ h)) (by decide +kernel))
set_option maxRecDepth 20000 in
theorem gL_law_L_publicNumber : GoodIn wsL_law (va_wsS RL 96 yL_publicNumber wsL_publicNumber) := goodIn_app (goodIn_of _ (by decide +kernel)) ggL_law_L_publicNumber
set_option maxRecDepth 20000 in
theorem ggL_law_X1_publicNumber : GoodIn wsL_law wsX1_publicNumber := goodIn_r _ [202, 55, 151, 21, 149, 203, 204, 205, 5, 206, 113, 114, 115, 295, 296, 297, 298, 299, 300, 301, 302, 303, 304, 305, 306, 307] (by decide +kernel) (by decide +kernel)
set_option maxRecDepth 20000 in
theorem gL_law_X1_publicNumber : GoodIn wsL_law (wsV RL 98 RX1 yX1_publicNumber wsX1_publicNumber) := goodIn_app (goodIn_of _ (by decide +kernel)) ggL_law_X1_publicNumber
set_option maxRecDepth 20000 in
theorem ggL_law_L_forget : GoodIn wsL_law wsL_forget := goodIn_ca (goodIn_r _ [209, 188, 210, 211, 212, 2, 213, 193, 194, 195, 196, 197, 198, 15, 174, 175, 176, 141, 142, 143, 144, 16, 286, 287, 288, 289, 290, 291, 292, 293, 294] (by decide +kernel) (by decide +kernel)) (goodIn_sub (fun _ h => List.mem_append_left _ (List.mem_append_right _ h)) (by decide +kernel))
set_option maxRecDepth 20000 in
theorem gL_law_L_forget : GoodIn wsL_law (va_wsS RL 99 yL_forget wsL_forget) := goodIn_app (goodIn_of _ (by decide +kernel)) ggL_law_L_forget
set_option maxRecDepth 20000 in
theorem ggL_law_X1_forget : GoodIn wsL_law wsX1_forget := goodIn_r _ [217, 55, 21, 203, 204, 205, 5, 206, 295, 296, 297, 298, 299, 300, 301, 302, 303, 304, 305, 306, 307] (by decide +kernel) (by decide +kernel)
set_option maxRecDepth 20000 in
theorem gL_law_X1_forget : GoodIn wsL_law (wsV RL 102 RX1 yX1_forget wsX1_forget) := goodIn_app (goodIn_of _ (by decide +kernel)) ggL_law_X1_forget
set_option maxRecDepth 20000 in
theorem ggL_law_L_fits : GoodIn wsL_law wsL_fits := goodIn_ca (goodIn_r _ [220, 92, 221, 222, 223, 2, 224, 136, 135, 170, 171, 172, 173, 98, 99, 225, 226, 227, 228, 105, 106, 107, 286, 287, 288, 289, 290, 291, 292, 293, 294] (by decide +kernel) (by decide +kernel)) (goodIn_sub (fun _ h => List.mem_append_left _ (List.mem_append_left _ (List.mem_append_left _ (List.mem_append_left _ (List.mem_append_right _ h))))) (by decide +kernel))
set_option maxRecDepth 20000 in
theorem gL_law_L_fits : GoodIn wsL_law (va_wsS RL 103 yL_fits wsL_fits) := goodIn_app (goodIn_of _ (by decide +kernel)) ggL_law_L_fits
set_option maxRecDepth 20000 in
theorem ggL_law_X1_fits : GoodIn wsL_law wsX1_fits := goodIn_r _ [232, 149, 55, 150, 113, 114, 5, 115, 295, 296, 297, 298, 299, 300, 301, 302, 303, 304, 305, 306, 307] (by decide +kernel) (by decide +kernel)
set_option maxRecDepth 20000 in
theorem gL_law_X1_fits : GoodIn wsL_law (wsV RL 105 RX1 yX1_fits wsX1_fits) := goodIn_app (goodIn_of _ (by decide +kernel)) ggL_law_X1_fits
set_option maxRecDepth 20000 in
theorem ggL_law_X0_digest : GoodIn wsL_law wsX0_digest := goodIn_r _ [236, 237, 37, 38, 2, 39, 40, 41, 42] (by decide +kernel) (by decide +kernel)
set_option maxRecDepth 20000 in
theorem gL_law_X0_digest : GoodIn wsL_law (wsV RL 106 RX0 yX0_digest wsX0_digest) := goodIn_app (goodIn_of _ (by decide +kernel)) ggL_law_X0_digest
set_option maxRecDepth 20000 in
theorem ggL_law_X1_digest : GoodIn wsL_law wsX1_digest := goodIn_r _ [241, 55, 242, 243, 5, 244, 79, 70, 71, 72, 73, 74, 75, 295, 296, 297, 298, 299, 300, 301, 302, 303, 304, 305, 306, 307] (by decide +kernel) (by decide +kernel)
set_option maxRecDepth 20000 in
theorem gL_law_X1_digest : GoodIn wsL_law (wsV RL 109 RX1 yX1_digest wsX1_digest) := goodIn_app (goodIn_of _ (by decide +kernel)) ggL_law_X1_digest
set_option maxRecDepth 20000 in
theorem ggL_law_L_sign : GoodIn wsL_law wsL_sign := goodIn_ca (goodIn_ca (goodIn_ca (goodIn_r _ [247, 188, 93, 248, 249, 250, 251, 2, 252, 100, 101, 253, 254, 137, 135, 136, 15, 193, 194, 195, 196, 197, 198, 174, 175, 176, 177, 178, 179, 180, 105, 106, 107, 255, 234, 235, 236, 237, 37, 38, 39, 40, 41, 42, 256, 257, 258, 286, 287, 288, 289, 290, 291, 292, 293, 294] (by decide +kernel) (by decide +kernel)) (goodIn_sub (fun _ h => List.mem_append_left _ (List.mem_append_left _ (List.mem_append_left _ (List.mem_append_right _ h)))) (by decide +kernel))) (goodIn_sub (fun _ h => List.mem_append_right _ h) (by decide +kernel))) (goodIn_sub (fun _ h => List.mem_append_left _ (List.mem_append_right _ h)) (by decide +kernel))
set_option maxRecDepth 20000 in
theorem gL_law_L_sign : GoodIn wsL_law (va_wsS RL 110 yL_sign wsL_sign) := goodIn_app (goodIn_of _ (by decide +kernel)) ggL_law_L_sign
set_option maxRecDepth 20000 in
theorem ggL_law_X1_sign : GoodIn wsL_law wsX1_sign := goodIn_r _ [262, 150, 55, 151, 149, 21, 263, 203, 204, 205, 5, 206, 113, 114, 115, 242, 243, 244, 79, 70, 71, 72, 73, 74, 75, 295, 296, 297, 298, 299, 300, 301, 302, 303, 304, 305, 306, 307] (by decide +kernel) (by decide +kernel)
set_option maxRecDepth 20000 in
theorem gL_law_X1_sign : GoodIn wsL_law (wsV RL 113 RX1 yX1_sign wsX1_sign) := goodIn_app (goodIn_of _ (by decide +kernel)) ggL_law_X1_sign
set_option maxRecDepth 20000 in
theorem ggL_law_L_verify : GoodIn wsL_law wsL_verify := goodIn_ca (goodIn_r _ [266, 92, 267, 268, 269, 2, 270, 135, 136, 137, 170, 171, 172, 173, 98, 99, 177, 178, 179, 180, 256, 257, 258, 105, 106, 107, 255, 234, 235, 236, 237, 37, 38, 39, 40, 41, 42, 286, 287, 288, 289, 290, 291, 292, 293, 294] (by decide +kernel) (by decide +kernel)) (goodIn_sub (fun _ h => List.mem_append_left _ (List.mem_append_left _ (List.mem_append_left _ (List.mem_append_left _ (List.mem_append_right _ h))))) (by decide +kernel))
set_option maxRecDepth 20000 in
theorem gL_law_L_verify : GoodIn wsL_law (va_wsS RL 114 yL_verify wsL_verify) := goodIn_app (goodIn_of _ (by decide +kernel)) ggL_law_L_verify
set_option maxRecDepth 20000 in
theorem ggL_law_X1_verify : GoodIn wsL_law wsX1_verify := goodIn_r _ [274, 149, 55, 150, 151, 113, 114, 5, 115, 242, 243, 244, 79, 70, 71, 72, 73, 74, 75, 295, 296, 297, 298, 299, 300, 301, 302, 303, 304, 305, 306, 307] (by decide +kernel) (by decide +kernel)
set_option maxRecDepth 20000 in
theorem gL_law_X1_verify : GoodIn wsL_law (wsV RL 117 RX1 yX1_verify wsX1_verify) := goodIn_app (goodIn_of _ (by decide +kernel)) ggL_law_X1_verify
set_option maxRecDepth 20000 in
theorem ggL_law_L_agree : GoodIn wsL_law wsL_agree := goodIn_ca (goodIn_ca (goodIn_ca (goodIn_r _ [277, 188, 93, 248, 278, 279, 280, 2, 281, 100, 101, 253, 254, 15, 135, 193, 194, 195, 196, 197, 198, 174, 175, 176, 225, 226, 227, 228, 105, 106, 107, 286, 287, 288, 289, 290, 291, 292, 293, 294] (by decide +kernel) (by decide +kernel)) (goodIn_sub (fun _ h => List.mem_append_left _ (List.mem_append_left _ (List.mem_append_left _ (List.mem_append_right _ h)))) (by decide +kernel))) (goodIn_sub (fun _ h => List.mem_append_right _ h) (by decide +kernel))) (goodIn_sub (fun _ h => List.mem_append_left _ (List.mem_append_right _ h)) (by decide +kernel))
set_option maxRecDepth 20000 in
theorem gL_law_L_agree : GoodIn wsL_law (va_wsS RL 118 yL_agree wsL_agree) := goodIn_app (goodIn_of _ (by decide +kernel)) ggL_law_L_agree
set_option maxRecDepth 20000 in
theorem ggL_law_X1_agree : GoodIn wsL_law wsX1_agree := goodIn_r _ [285, 149, 55, 21, 203, 204, 205, 5, 206, 113, 114, 115, 295, 296, 297, 298, 299, 300, 301, 302, 303, 304, 305, 306, 307] (by decide +kernel) (by decide +kernel)
set_option maxRecDepth 20000 in
theorem gL_law_X1_agree : GoodIn wsL_law (wsV RL 120 RX1 yX1_agree wsX1_agree) := goodIn_app (goodIn_of _ (by decide +kernel)) ggL_law_X1_agree
abbrev vwCl : List vw_C := [(RX0, TX0, 9), (RX1, TX1, 13)]

