noncomputable def NSE : String := "java/util/NoSuchElementException"
noncomputable def IAE : String := "java/lang/IllegalArgumentException"
noncomputable def b13 : ByteArray := ⟨#[0x2a, 0x2b, 0xb7, 0x00, 0x0d, 0xb1]⟩
noncomputable def xN (own : String) (ic : Nat) : List Cond := xi_at own ic NSE 13 b13 "java/lang/RuntimeException" ["java/lang/Exception"]
noncomputable def xI (own : String) (ic : Nat) : List Cond := xi_at own ic IAE 7 Bundle.six "java/lang/RuntimeException" ["java/lang/Exception"]
noncomputable def SubW (big ws : List Cond) : Prop := ∀ w ∈ ws, w ∈ big
theorem goodIn_m {big ws : List Cond} (hm : SubW big ws) (h : ws.all goodWord = true) : GoodIn big ws := fun w hw => ⟨hm w hw, good_of_word (List.all_eq_true.mp h w hw)⟩
theorem subW_q {big : List Cond} (ws : List Cond) (rs : List (Nat × Nat)) (hp : ws = rs.flatMap (fun r => (big.drop r.1).take r.2)) : SubW big ws := by
  intro w hw
  rw [hp] at hw
  obtain ⟨r, -, hr⟩ := List.mem_flatMap.mp hw
  exact List.mem_of_mem_drop (List.mem_of_mem_take hr)
theorem subW_ca {big a b : List Cond} {c : Cond} (ha : SubW big (c :: a)) (hb : SubW big b) : SubW big (c :: (a ++ b)) := fun w h => (List.mem_cons.mp h).elim (fun e => ha w (List.mem_cons.mpr (Or.inl e))) (fun h => (List.mem_append.mp h).elim (fun h => ha w (List.mem_cons.mpr (Or.inr h))) (hb w))
noncomputable def strN (s : String) : Nat := s.toByteArray.data.toList.foldl (fun n b => 256 * n + b.toNat) 0
theorem nm_of {T : u_T} {N : Nat} {v : List Nat} (h1 : ∀ a, a < N → strN (T a).2.1 = v.getD a 0) (h2 : ∀ a, a < N → ∀ b, b < N → a ≠ b → v.getD a 0 ≠ v.getD b 0) : ∀ a, a < N → ∀ b, b < N → a ≠ b → (T a).2.1 ≠ (T b).2.1 := fun a ha b hb hn he => h2 a ha b hb hn (by rw [← h1 a ha, ← h1 b hb, he])
noncomputable def dcd (c : ByteArray) (pc : Nat) (r : _root_.Jvm.ClassFile.Instr × Nat) : Bool := match decode c pc with
  | .ok q => decide (q = r)
  | .error _ => false
theorem dec_ok {c : ByteArray} {pc : Nat} {r : _root_.Jvm.ClassFile.Instr × Nat} (h : dcd c pc r = true) : decode c pc = .ok r := by
  unfold dcd at h
  cases hd : decode c pc with
  | ok q =>
    try rw [hd] at h
    have h2 : decide (q = r) = true := h
    rw [of_decide_eq_true h2]
  | error e =>
    try rw [hd] at h
    exact absurd (show false = true from h) (by decide)
noncomputable def RX0 : String := "VatHouse$Cloth"
noncomputable def TX0 : u_T := fun k => match k with
  | 0 => ("VatHouse$Cloth", "number", "I", true)
  | 1 => ("VatHouse$Cloth", "weight", "I", false)
  | 2 => ("VatHouse$Cloth", "loose", "I", false)
  | 3 => ("VatHouse$Cloth", "fast", "I", false)
  | 4 => ("VatHouse$Cloth", "dry", "Z", false)
  | 5 => ("VatHouse$Cloth", "day", "I", false)
  | 6 => ("VatHouse$Cloth", "vatBits", "I", false)
  | _ => ("VatHouse$Cloth", "dips", "I", false)
noncomputable def tyX0 : Nat → FieldType := fun k => match k with
  | 0 => .int
  | 1 => .int
  | 2 => .int
  | 3 => .int
  | 4 => .boolean
  | 5 => .int
  | 6 => .int
  | _ => .int
noncomputable abbrev wsX00 : List Cond := u_ws RX0 TX0 8
theorem nmX0 : ∀ a, a < 8 → ∀ b, b < 8 → a ≠ b → (TX0 a).2.1 ≠ (TX0 b).2.1 := nm_of (v := [121450625394034, 131277443786868, 465726042981, 1717662580, 6582905, 6578553, 33321199210165363, 1684631667]) (by decide +kernel) (by decide +kernel)
theorem pd_0 : parseFieldDescriptor "I" = some (.int : FieldType) := by decide +kernel
theorem pd_1 : parseFieldDescriptor "Z" = some (.boolean : FieldType) := by decide +kernel
theorem tyX0_ok : ∀ k, k < 8 → parseFieldDescriptor (TX0 k).2.2.1 = some (tyX0 k) := fun k hk => by
  match k, hk with
  | 0, _ => exact pd_0
  | 1, _ => exact pd_0
  | 2, _ => exact pd_0
  | 3, _ => exact pd_0
  | 4, _ => exact pd_1
  | 5, _ => exact pd_0
  | 6, _ => exact pd_0
  | 7, _ => exact pd_0
  | n + 8, h => exact absurd h (by omega)
noncomputable abbrev cX0_init : ByteArray := prog_2_method_1_code
noncomputable def yX0_init : MethodName := ⟨RX0, "<init>", "(II)V"⟩
noncomputable abbrev cX0_shade : ByteArray := prog_2_method_2_code
noncomputable def yX0_shade : MethodName := ⟨RX0, "shade", "()I"⟩
noncomputable abbrev cX0_room : ByteArray := prog_2_method_3_code
noncomputable def yX0_room : MethodName := ⟨RX0, "room", "()I"⟩
noncomputable abbrev cX0_loseByAir : ByteArray := prog_2_method_4_code
noncomputable def yX0_loseByAir : MethodName := ⟨RX0, "loseByAir", "()I"⟩
noncomputable abbrev cX0_loseByWash : ByteArray := prog_2_method_5_code
noncomputable def yX0_loseByWash : MethodName := ⟨RX0, "loseByWash", "()I"⟩
noncomputable abbrev cX0_copyFrom : ByteArray := prog_2_method_10_code
noncomputable def yX0_copyFrom : MethodName := ⟨RX0, "copyFrom", "(LVatHouse$Cloth;)V"⟩
noncomputable def RX1 : String := "VatHouse$Planner"
noncomputable def TX1 : u_T := fun k => match k with
  | 0 => ("VatHouse$Planner", "works", "LVatHouse$Works;", true)
  | 1 => ("VatHouse$Planner", "trialVats", "[LVatHouse$Vat;", true)
  | 2 => ("VatHouse$Planner", "trialCloth", "LVatHouse$Cloth;", true)
  | 3 => ("VatHouse$Planner", "low", "I", false)
  | 4 => ("VatHouse$Planner", "high", "I", false)
  | 5 => ("VatHouse$Planner", "kept", "I", false)
  | 6 => ("VatHouse$Planner", "keptVats", "[I", true)
  | 7 => ("VatHouse$Planner", "keptMinutes", "[I", true)
  | _ => ("VatHouse$Planner", "keptShades", "[I", true)
noncomputable def tyX1 : Nat → FieldType := fun k => match k with
  | 0 => .object "VatHouse$Works"
  | 1 => .array (.object "VatHouse$Vat")
  | 2 => .object "VatHouse$Cloth"
  | 3 => .int
  | 4 => .int
  | 5 => .int
  | 6 => .array .int
  | 7 => .array .int
  | _ => .array .int
noncomputable abbrev wsX10 : List Cond := u_ws RX1 TX1 9
theorem nmX1 : ∀ a, a < 9 → ∀ b, b < 9 → a ≠ b → (TX1 a).2.1 ≠ (TX1 b).2.1 := nm_of (v := [512970877811, 2148066540261119980659, 549905034306765294892136, 7106423, 1751738216, 1801810036, 7738715179673810035, 129834096129341816074167667, 507164438011834024617331]) (by decide +kernel) (by decide +kernel)
theorem pd_2 : parseFieldDescriptor "LVatHouse$Works;" = some (.object "VatHouse$Works" : FieldType) := by decide +kernel
theorem pd_3 : parseFieldDescriptor "[LVatHouse$Vat;" = some (.array (.object "VatHouse$Vat") : FieldType) := by decide +kernel
theorem pd_4 : parseFieldDescriptor "LVatHouse$Cloth;" = some (.object "VatHouse$Cloth" : FieldType) := by decide +kernel
theorem pd_5 : parseFieldDescriptor "[I" = some (.array .int : FieldType) := by decide +kernel
theorem tyX1_ok : ∀ k, k < 9 → parseFieldDescriptor (TX1 k).2.2.1 = some (tyX1 k) := fun k hk => by
  match k, hk with
  | 0, _ => exact pd_2
  | 1, _ => exact pd_3
  | 2, _ => exact pd_4
  | 3, _ => exact pd_0
  | 4, _ => exact pd_0
  | 5, _ => exact pd_0
  | 6, _ => exact pd_5
  | 7, _ => exact pd_5
  | 8, _ => exact pd_5
  | n + 9, h => exact absurd h (by omega)
noncomputable abbrev cX1_init : ByteArray := prog_3_method_1_code
noncomputable def yX1_init : MethodName := ⟨RX1, "<init>", "(LVatHouse$Works;)V"⟩
noncomputable abbrev cX1_fewest : ByteArray := prog_3_method_2_code
noncomputable def yX1_fewest : MethodName := ⟨RX1, "fewest", "(LVatHouse$Cloth;III)I"⟩
noncomputable abbrev cX1_reaches : ByteArray := prog_3_method_3_code
noncomputable def yX1_reaches : MethodName := ⟨RX1, "reaches", "(II)Z"⟩
noncomputable abbrev cX1_reachesBy : ByteArray := prog_3_method_4_code
noncomputable def yX1_reachesBy : MethodName := ⟨RX1, "reachesBy", "(LVatHouse$Vat;III)Z"⟩
noncomputable def RX2 : String := "VatHouse$Reader"
noncomputable def TX2 : u_T := fun k => match k with
  | 0 => ("VatHouse$Reader", "tokens", "LVatHouse$Tokens;", true)
  | 1 => ("VatHouse$Reader", "at", "I", false)
  | 2 => ("VatHouse$Reader", "token", "I", false)
  | 3 => ("VatHouse$Reader", "fault", "I", false)
  | 4 => ("VatHouse$Reader", "place", "I", false)
  | _ => ("VatHouse$Reader", "steps", "I", false)
noncomputable def tyX2 : Nat → FieldType := fun k => match k with
  | 0 => .object "VatHouse$Tokens"
  | 1 => .int
  | 2 => .int
  | 3 => .int
  | 4 => .int
  | _ => .int
noncomputable abbrev wsX20 : List Cond := u_ws RX2 TX2 6
theorem nmX2 : ∀ a, a < 6 → ∀ b, b < 6 → a ≠ b → (TX2 a).2.1 ≠ (TX2 b).2.1 := nm_of (v := [128021892001395, 24948, 500085515630, 439721749620, 482854658917, 495874044019]) (by decide +kernel) (by decide +kernel)
theorem pd_6 : parseFieldDescriptor "LVatHouse$Tokens;" = some (.object "VatHouse$Tokens" : FieldType) := by decide +kernel
theorem tyX2_ok : ∀ k, k < 6 → parseFieldDescriptor (TX2 k).2.2.1 = some (tyX2 k) := fun k hk => by
  match k, hk with
  | 0, _ => exact pd_6
  | 1, _ => exact pd_0
  | 2, _ => exact pd_0
  | 3, _ => exact pd_0
  | 4, _ => exact pd_0
  | 5, _ => exact pd_0
  | n + 6, h => exact absurd h (by omega)
noncomputable abbrev cX2_init : ByteArray := prog_4_method_1_code
noncomputable def yX2_init : MethodName := ⟨RX2, "<init>", "([B)V"⟩
noncomputable def RX3 : String := "VatHouse$Recipe"
noncomputable def TX3 : u_T := fun k => match k with
  | _ => ("VatHouse$Recipe", "first", "LVatHouse$Step;", true)
noncomputable abbrev wsX30 : List Cond := u_ws RX3 TX3 1
noncomputable def RX4 : String := "VatHouse$Runner"
noncomputable def TX4 : u_T := fun k => match k with
  | 0 => ("VatHouse$Runner", "works", "LVatHouse$Works;", true)
  | 1 => ("VatHouse$Runner", "limit", "I", false)
  | 2 => ("VatHouse$Runner", "result", "I", false)
  | 3 => ("VatHouse$Runner", "failure", "I", false)
  | 4 => ("VatHouse$Runner", "counted", "I", false)
  | 5 => ("VatHouse$Runner", "dipsDone", "I", false)
  | 6 => ("VatHouse$Runner", "grainsMoved", "I", false)
  | _ => ("VatHouse$Runner", "hoursRested", "I", false)
noncomputable def tyX4 : Nat → FieldType := fun k => match k with
  | 0 => .object "VatHouse$Works"
  | 1 => .int
  | 2 => .int
  | 3 => .int
  | 4 => .int
  | 5 => .int
  | 6 => .int
  | _ => .int
noncomputable abbrev wsX40 : List Cond := u_ws RX4 TX4 8
theorem nmX4 : ∀ a, a < 8 → ∀ b, b < 8 → a ≠ b → (TX4 a).2.1 ≠ (TX4 b).2.1 := nm_of (v := [512970877811, 465625246068, 125780054338676, 28817553043583589, 27988572849333604, 7235437916719115877, 125059506130665492215915876, 126254634435602527133394276]) (by decide +kernel) (by decide +kernel)
theorem tyX4_ok : ∀ k, k < 8 → parseFieldDescriptor (TX4 k).2.2.1 = some (tyX4 k) := fun k hk => by
  match k, hk with
  | 0, _ => exact pd_2
  | 1, _ => exact pd_0
  | 2, _ => exact pd_0
  | 3, _ => exact pd_0
  | 4, _ => exact pd_0
  | 5, _ => exact pd_0
  | 6, _ => exact pd_0
  | 7, _ => exact pd_0
  | n + 8, h => exact absurd h (by omega)
noncomputable abbrev cX4_init : ByteArray := prog_6_method_1_code
noncomputable def yX4_init : MethodName := ⟨RX4, "<init>", "(LVatHouse$Works;)V"⟩
noncomputable def RX5 : String := "VatHouse$Step"
noncomputable def TX5 : u_T := fun k => match k with
  | 0 => ("VatHouse$Step", "word", "I", true)
  | 1 => ("VatHouse$Step", "vat", "I", false)
  | 2 => ("VatHouse$Step", "number", "I", false)
  | 3 => ("VatHouse$Step", "look", "I", false)
  | 4 => ("VatHouse$Step", "below", "Z", false)
  | 5 => ("VatHouse$Step", "block", "LVatHouse$Step;", false)
  | 6 => ("VatHouse$Step", "other", "LVatHouse$Step;", false)
  | _ => ("VatHouse$Step", "next", "LVatHouse$Step;", false)
noncomputable abbrev wsX50 : List Cond := u_ws RX5 TX5 8
noncomputable def RX6 : String := "VatHouse$Tokens"
noncomputable def TX6 : u_T := fun k => match k with
  | 0 => ("VatHouse$Tokens", "text", "[B", true)
  | 1 => ("VatHouse$Tokens", "length", "I", false)
  | 2 => ("VatHouse$Tokens", "at", "I", false)
  | 3 => ("VatHouse$Tokens", "size", "I", false)
  | 4 => ("VatHouse$Tokens", "kinds", "[I", true)
  | 5 => ("VatHouse$Tokens", "starts", "[I", true)
  | _ => ("VatHouse$Tokens", "values", "[I", true)
noncomputable def tyX6 : Nat → FieldType := fun k => match k with
  | 0 => .array .byte
  | 1 => .int
  | 2 => .int
  | 3 => .int
  | 4 => .array .int
  | 5 => .array .int
  | _ => .array .int
noncomputable abbrev wsX60 : List Cond := u_ws RX6 TX6 7
theorem nmX6 : ∀ a, a < 7 → ∀ b, b < 7 → a ≠ b → (TX6 a).2.1 ≠ (TX6 b).2.1 := nm_of (v := [1952807028, 119182899770472, 24948, 1936292453, 461330343027, 126943688291443, 130160803538291]) (by decide +kernel) (by decide +kernel)
theorem pd_8 : parseFieldDescriptor "[B" = some (.array .byte : FieldType) := by decide +kernel
theorem tyX6_ok : ∀ k, k < 7 → parseFieldDescriptor (TX6 k).2.2.1 = some (tyX6 k) := fun k hk => by
  match k, hk with
  | 0, _ => exact pd_8
  | 1, _ => exact pd_0
  | 2, _ => exact pd_0
  | 3, _ => exact pd_0
  | 4, _ => exact pd_5
  | 5, _ => exact pd_5
  | 6, _ => exact pd_5
  | n + 7, h => exact absurd h (by omega)
noncomputable abbrev cX6_init : ByteArray := prog_8_method_1_code
noncomputable def yX6_init : MethodName := ⟨RX6, "<init>", "([B)V"⟩
noncomputable def RX7 : String := "VatHouse$Vat"
noncomputable def TX7 : u_T := fun k => match k with
  | 0 => ("VatHouse$Vat", "number", "I", true)
  | 1 => ("VatHouse$Vat", "grains", "I", false)
  | 2 => ("VatHouse$Vat", "food", "I", false)
  | 3 => ("VatHouse$Vat", "minutes", "I", false)
  | 4 => ("VatHouse$Vat", "state", "I", false)
  | 5 => ("VatHouse$Vat", "dips", "I", false)
  | 6 => ("VatHouse$Vat", "clothBits", "I", false)
  | _ => ("VatHouse$Vat", "lastDipped", "I", false)
noncomputable def tyX7 : Nat → FieldType := fun k => match k with
  | 0 => .int
  | 1 => .int
  | 2 => .int
  | 3 => .int
  | 4 => .int
  | 5 => .int
  | 6 => .int
  | _ => .int
noncomputable abbrev wsX70 : List Cond := u_ws RX7 TX7 8
theorem nmX7 : ∀ a, a < 8 → ∀ b, b < 8 → a ≠ b → (TX7 a).2.1 ≠ (TX7 b).2.1 := nm_of (v := [121450625394034, 113740958232179, 1718579044, 30796695599342963, 495873782885, 1684631667, 1834041255166896338035, 511813233674702818403684]) (by decide +kernel) (by decide +kernel)
theorem tyX7_ok : ∀ k, k < 8 → parseFieldDescriptor (TX7 k).2.2.1 = some (tyX7 k) := fun k hk => by
  match k, hk with
  | 0, _ => exact pd_0
  | 1, _ => exact pd_0
  | 2, _ => exact pd_0
  | 3, _ => exact pd_0
  | 4, _ => exact pd_0
  | 5, _ => exact pd_0
  | 6, _ => exact pd_0
  | 7, _ => exact pd_0
  | n + 8, h => exact absurd h (by omega)
noncomputable abbrev cX7_init : ByteArray := prog_9_method_1_code
noncomputable def yX7_init : MethodName := ⟨RX7, "<init>", "(I)V"⟩
noncomputable abbrev cX7_givesTo : ByteArray := prog_9_method_2_code
noncomputable def yX7_givesTo : MethodName := ⟨RX7, "givesTo", "(LVatHouse$Cloth;I)I"⟩
noncomputable abbrev cX7_soak : ByteArray := prog_9_method_3_code
noncomputable def yX7_soak : MethodName := ⟨RX7, "soak", "(LVatHouse$Cloth;II)V"⟩
noncomputable abbrev cX7_takeFood : ByteArray := prog_9_method_4_code
noncomputable def yX7_takeFood : MethodName := ⟨RX7, "takeFood", "(I)Z"⟩
noncomputable abbrev cX7_takeLime : ByteArray := prog_9_method_5_code
noncomputable def yX7_takeLime : MethodName := ⟨RX7, "takeLime", "()V"⟩
noncomputable abbrev cX7_copyFrom : ByteArray := prog_9_method_7_code
noncomputable def yX7_copyFrom : MethodName := ⟨RX7, "copyFrom", "(LVatHouse$Vat;)V"⟩
noncomputable def RX8 : String := "VatHouse$Works"
noncomputable def TX8 : u_T := fun k => match k with
  | 0 => ("VatHouse$Works", "vats", "[LVatHouse$Vat;", true)
  | 1 => ("VatHouse$Works", "hours", "I", false)
  | _ => ("VatHouse$Works", "drain", "I", false)
noncomputable def tyX8 : Nat → FieldType := fun k => match k with
  | 0 => .array (.object "VatHouse$Vat")
  | 1 => .int
  | _ => .int
noncomputable abbrev wsX80 : List Cond := u_ws RX8 TX8 3
theorem nmX8 : ∀ a, a < 3 → ∀ b, b < 3 → a ≠ b → (TX8 a).2.1 ≠ (TX8 b).2.1 := by decide +kernel
theorem tyX8_ok : ∀ k, k < 3 → parseFieldDescriptor (TX8 k).2.2.1 = some (tyX8 k) := fun k hk => by
  match k, hk with
  | 0, _ => exact pd_3
  | 1, _ => exact pd_0
  | 2, _ => exact pd_0
  | n + 3, h => exact absurd h (by omega)
noncomputable abbrev cX8_init : ByteArray := prog_10_method_1_code
noncomputable def yX8_init : MethodName := ⟨RX8, "<init>", "()V"⟩
noncomputable abbrev cX8_vatAt : ByteArray := prog_10_method_2_code
noncomputable def yX8_vatAt : MethodName := ⟨RX8, "vatAt", "(I)LVatHouse$Vat;"⟩
noncomputable abbrev cX8_airOut : ByteArray := prog_10_method_4_code
noncomputable def yX8_airOut : MethodName := ⟨RX8, "airOut", "(LVatHouse$Cloth;)I"⟩
noncomputable abbrev cX8_washOut : ByteArray := prog_10_method_5_code
noncomputable def yX8_washOut : MethodName := ⟨RX8, "washOut", "(LVatHouse$Cloth;)I"⟩
noncomputable abbrev cX8_dryOut : ByteArray := prog_10_method_6_code
noncomputable def yX8_dryOut : MethodName := ⟨RX8, "dryOut", "(LVatHouse$Cloth;)I"⟩
noncomputable def RX9 : String := "VatHouse"
noncomputable def TX9 : u_T := fun k => match k with
  | 0 => ("VatHouse", "works", "LVatHouse$Works;", true)
  | 1 => ("VatHouse", "cloths", "[LVatHouse$Cloth;", true)
  | 2 => ("VatHouse", "clothsMade", "I", false)
  | 3 => ("VatHouse", "grainsPutIn", "I", false)
  | 4 => ("VatHouse", "tape", "[B", true)
  | 5 => ("VatHouse", "tapeLength", "I", false)
  | 6 => ("VatHouse", "reader", "LVatHouse$Reader;", true)
  | 7 => ("VatHouse", "recipes", "[LVatHouse$Recipe;", true)
  | 8 => ("VatHouse", "stepsRead", "I", false)
  | 9 => ("VatHouse", "runner", "LVatHouse$Runner;", true)
  | _ => ("VatHouse", "planner", "LVatHouse$Planner;", true)
noncomputable def tyX9 : Nat → FieldType := fun k => match k with
  | 0 => .object "VatHouse$Works"
  | 1 => .array (.object "VatHouse$Cloth")
  | 2 => .int
  | 3 => .int
  | 4 => .array .byte
  | 5 => .int
  | 6 => .object "VatHouse$Reader"
  | 7 => .array (.object "VatHouse$Recipe")
  | 8 => .int
  | 9 => .object "VatHouse$Runner"
  | _ => .object "VatHouse$Planner"
noncomputable abbrev wsX90 : List Cond := u_ws RX9 TX9 11
theorem nmX9 : ∀ a, a < 11 → ∀ b, b < 11 → a ≠ b → (TX9 a).2.1 ≠ (TX9 b).2.1 := nm_of (v := [512970877811, 109317377517683, 469514561322935444923493, 125059506130665505201342830, 1952542821, 549591945151532094682216, 125779751232882, 32199624990156147, 2129762801998251778404, 125848689468786, 31644363111949682]) (by decide +kernel) (by decide +kernel)
theorem pd_9 : parseFieldDescriptor "[LVatHouse$Cloth;" = some (.array (.object "VatHouse$Cloth") : FieldType) := by decide +kernel
theorem pd_10 : parseFieldDescriptor "LVatHouse$Reader;" = some (.object "VatHouse$Reader" : FieldType) := by decide +kernel
theorem pd_11 : parseFieldDescriptor "[LVatHouse$Recipe;" = some (.array (.object "VatHouse$Recipe") : FieldType) := by decide +kernel
theorem pd_12 : parseFieldDescriptor "LVatHouse$Runner;" = some (.object "VatHouse$Runner" : FieldType) := by decide +kernel
theorem pd_13 : parseFieldDescriptor "LVatHouse$Planner;" = some (.object "VatHouse$Planner" : FieldType) := by decide +kernel
theorem tyX9_ok : ∀ k, k < 11 → parseFieldDescriptor (TX9 k).2.2.1 = some (tyX9 k) := fun k hk => by
  match k, hk with
  | 0, _ => exact pd_2
  | 1, _ => exact pd_9
  | 2, _ => exact pd_0
  | 3, _ => exact pd_0
  | 4, _ => exact pd_8
  | 5, _ => exact pd_0
  | 6, _ => exact pd_10
  | 7, _ => exact pd_11
  | 8, _ => exact pd_0
  | 9, _ => exact pd_12
  | 10, _ => exact pd_13
  | n + 11, h => exact absurd h (by omega)
noncomputable abbrev cX9_init : ByteArray := prog_1_method_1_code
noncomputable def yX9_init : MethodName := ⟨RX9, "<init>", "()V"⟩
noncomputable abbrev cX9_charge : ByteArray := prog_1_method_2_code
noncomputable def yX9_charge : MethodName := ⟨RX9, "charge", "(II)I"⟩
noncomputable abbrev cX9_feed : ByteArray := prog_1_method_3_code
noncomputable def yX9_feed : MethodName := ⟨RX9, "feed", "(II)I"⟩
noncomputable abbrev cX9_lime : ByteArray := prog_1_method_4_code
noncomputable def yX9_lime : MethodName := ⟨RX9, "lime", "(I)I"⟩
noncomputable abbrev cX9_cloth : ByteArray := prog_1_method_6_code
noncomputable def yX9_cloth : MethodName := ⟨RX9, "cloth", "(I)I"⟩
noncomputable abbrev cX9_treat : ByteArray := prog_1_method_8_code
noncomputable def yX9_treat : MethodName := ⟨RX9, "treat", "(II)I"⟩
noncomputable abbrev cX9_plan : ByteArray := prog_1_method_14_code
noncomputable def yX9_plan : MethodName := ⟨RX9, "plan", "(IIII)I"⟩
noncomputable abbrev cX9_planned : ByteArray := prog_1_method_15_code
noncomputable def yX9_planned : MethodName := ⟨RX9, "planned", "(II)I"⟩
noncomputable abbrev cX9_clothAt : ByteArray := prog_1_method_21_code
noncomputable def yX9_clothAt : MethodName := ⟨RX9, "clothAt", "(I)LVatHouse$Cloth;"⟩
noncomputable abbrev cX9_demand : ByteArray := prog_1_method_22_code
noncomputable def yX9_demand : MethodName := ⟨RX9, "demand", "(Z)V"⟩
noncomputable def RX10 : String := "VatHouseModel"
noncomputable def TX10 : u_T := fun k => match k with
  | 0 => ("VatHouseModel", "thrown", "I", false)
  | 1 => ("VatHouseModel", "hours", "I", false)
  | 2 => ("VatHouseModel", "drain", "I", false)
  | 3 => ("VatHouseModel", "put", "I", false)
  | 4 => ("VatHouseModel", "grains", "[I", true)
  | 5 => ("VatHouseModel", "food", "[I", true)
  | 6 => ("VatHouseModel", "minutes", "[I", true)
  | 7 => ("VatHouseModel", "state", "[I", true)
  | 8 => ("VatHouseModel", "dips", "[I", true)
  | 9 => ("VatHouseModel", "dyed", "[I", true)
  | 10 => ("VatHouseModel", "isDipped", "[Z", true)
  | 11 => ("VatHouseModel", "wasDipped", "[Z", true)
  | 12 => ("VatHouseModel", "cloths", "I", false)
  | 13 => ("VatHouseModel", "weight", "[I", true)
  | 14 => ("VatHouseModel", "loose", "[I", true)
  | 15 => ("VatHouseModel", "fast", "[I", true)
  | 16 => ("VatHouseModel", "day", "[I", true)
  | 17 => ("VatHouseModel", "vats", "[I", true)
  | 18 => ("VatHouseModel", "often", "[I", true)
  | 19 => ("VatHouseModel", "tape", "[I", true)
  | 20 => ("VatHouseModel", "taped", "I", false)
  | 21 => ("VatHouseModel", "size", "I", false)
  | 22 => ("VatHouseModel", "at", "I", false)
  | 23 => ("VatHouseModel", "faultKind", "I", false)
  | 24 => ("VatHouseModel", "faultPlace", "I", false)
  | 25 => ("VatHouseModel", "value", "I", false)
  | 26 => ("VatHouseModel", "kind", "[I", true)
  | 27 => ("VatHouseModel", "one", "[I", true)
  | 28 => ("VatHouseModel", "two", "[I", true)
  | 29 => ("VatHouseModel", "look", "[I", true)
  | 30 => ("VatHouseModel", "sign", "[I", true)
  | 31 => ("VatHouseModel", "inner", "[I", true)
  | 32 => ("VatHouseModel", "other", "[I", true)
  | 33 => ("VatHouseModel", "next", "[I", true)
  | 34 => ("VatHouseModel", "first", "[I", true)
  | 35 => ("VatHouseModel", "many", "[I", true)
  | 36 => ("VatHouseModel", "nodes", "I", false)
  | 37 => ("VatHouseModel", "latest", "I", false)
  | 38 => ("VatHouseModel", "blocks", "I", false)
  | 39 => ("VatHouseModel", "limit", "I", false)
  | 40 => ("VatHouseModel", "counted", "I", false)
  | 41 => ("VatHouseModel", "ranDips", "I", false)
  | 42 => ("VatHouseModel", "ranGrains", "I", false)
  | 43 => ("VatHouseModel", "ranHours", "I", false)
  | 44 => ("VatHouseModel", "ran", "I", false)
  | 45 => ("VatHouseModel", "failure", "I", false)
  | 46 => ("VatHouseModel", "kept", "I", false)
  | 47 => ("VatHouseModel", "keptVat", "[I", true)
  | 48 => ("VatHouseModel", "keptMinutes", "[I", true)
  | 49 => ("VatHouseModel", "keptShade", "[I", true)
  | _ => ("VatHouseModel", "then", "[I", true)
noncomputable def tyX10 : Nat → FieldType := fun k => match k with
  | 0 => .int
  | 1 => .int
  | 2 => .int
  | 3 => .int
  | 4 => .array .int
  | 5 => .array .int
  | 6 => .array .int
  | 7 => .array .int
  | 8 => .array .int
  | 9 => .array .int
  | 10 => .array .boolean
  | 11 => .array .boolean
  | 12 => .int
  | 13 => .array .int
  | 14 => .array .int
  | 15 => .array .int
  | 16 => .array .int
  | 17 => .array .int
  | 18 => .array .int
  | 19 => .array .int
  | 20 => .int
  | 21 => .int
  | 22 => .int
  | 23 => .int
  | 24 => .int
  | 25 => .int
  | 26 => .array .int
  | 27 => .array .int
  | 28 => .array .int
  | 29 => .array .int
  | 30 => .array .int
  | 31 => .array .int
  | 32 => .array .int
  | 33 => .array .int
  | 34 => .array .int
  | 35 => .array .int
  | 36 => .int
  | 37 => .int
  | 38 => .int
  | 39 => .int
  | 40 => .int
  | 41 => .int
  | 42 => .int
  | 43 => .int
  | 44 => .int
  | 45 => .int
  | 46 => .int
  | 47 => .array .int
  | 48 => .array .int
  | 49 => .array .int
  | _ => .array .int
noncomputable abbrev wsX100 : List Cond := u_ws RX10 TX10 51
theorem nmX10 : ∀ a, a < 51 → ∀ b, b < 51 → a ≠ b → (TX10 a).2.1 ≠ (TX10 b).2.1 := nm_of (v := [127991945328494, 448546566771, 431415716206, 7370100, 113740958232179, 1718579044, 30796695599342963, 495873782885, 1684631667, 1685677412, 7598492215952827748, 2202184576235086046564, 109317377517683, 131277443786868, 465726042981, 1717662580, 6578553, 1986098291, 478460274030, 1952542821, 499850962276, 1936292453, 24948, 1888590533959065628260, 483479176693542325150565, 508440638821, 1802071652, 7302757, 7632751, 1819242347, 1936287598, 452824294770, 478694368626, 1852143732, 439855772532, 1835101817, 474315253107, 119165820433268, 108217864776563, 465625246068, 27988572849333604, 32195273567072371, 2109949451828592209523, 8241990050451386995, 7496046, 28817553043583589, 1801810036, 30229356170600820, 129834096129341816074167667, 1981111085983726658661, 1952998766]) (by decide +kernel) (by decide +kernel)
theorem pd_14 : parseFieldDescriptor "[Z" = some (.array .boolean : FieldType) := by decide +kernel
theorem tyX10_ok : ∀ k, k < 51 → parseFieldDescriptor (TX10 k).2.2.1 = some (tyX10 k) := fun k hk => by
  match k, hk with
  | 0, _ => exact pd_0
  | 1, _ => exact pd_0
  | 2, _ => exact pd_0
  | 3, _ => exact pd_0
  | 4, _ => exact pd_5
  | 5, _ => exact pd_5
  | 6, _ => exact pd_5
  | 7, _ => exact pd_5
  | 8, _ => exact pd_5
  | 9, _ => exact pd_5
  | 10, _ => exact pd_14
  | 11, _ => exact pd_14
  | 12, _ => exact pd_0
  | 13, _ => exact pd_5
  | 14, _ => exact pd_5
  | 15, _ => exact pd_5
  | 16, _ => exact pd_5
  | 17, _ => exact pd_5
  | 18, _ => exact pd_5
  | 19, _ => exact pd_5
  | 20, _ => exact pd_0
  | 21, _ => exact pd_0
  | 22, _ => exact pd_0
  | 23, _ => exact pd_0
  | 24, _ => exact pd_0
  | 25, _ => exact pd_0
  | 26, _ => exact pd_5
  | 27, _ => exact pd_5
  | 28, _ => exact pd_5
  | 29, _ => exact pd_5
  | 30, _ => exact pd_5
  | 31, _ => exact pd_5
  | 32, _ => exact pd_5
  | 33, _ => exact pd_5
  | 34, _ => exact pd_5
  | 35, _ => exact pd_5
  | 36, _ => exact pd_0
  | 37, _ => exact pd_0
  | 38, _ => exact pd_0
  | 39, _ => exact pd_0
  | 40, _ => exact pd_0
  | 41, _ => exact pd_0
  | 42, _ => exact pd_0
  | 43, _ => exact pd_0
  | 44, _ => exact pd_0
  | 45, _ => exact pd_0
  | 46, _ => exact pd_0
  | 47, _ => exact pd_5
  | 48, _ => exact pd_5
  | 49, _ => exact pd_5
  | 50, _ => exact pd_5
  | n + 51, h => exact absurd h (by omega)
noncomputable abbrev cX10_init : ByteArray := prog_12_method_1_code
noncomputable def yX10_init : MethodName := ⟨RX10, "<init>", "()V"⟩
noncomputable abbrev cX10_thrown : ByteArray := prog_12_method_2_code
noncomputable def yX10_thrown : MethodName := ⟨RX10, "thrown", "()I"⟩
noncomputable abbrev cX10_right : ByteArray := prog_12_method_3_code
noncomputable def yX10_right : MethodName := ⟨RX10, "right", "(ZI)Z"⟩
noncomputable abbrev cX10_isVat : ByteArray := prog_12_method_4_code
noncomputable def yX10_isVat : MethodName := ⟨RX10, "isVat", "(I)Z"⟩
noncomputable abbrev cX10_isCloth : ByteArray := prog_12_method_5_code
noncomputable def yX10_isCloth : MethodName := ⟨RX10, "isCloth", "(I)Z"⟩
noncomputable abbrev cX10_isDry : ByteArray := prog_12_method_6_code
noncomputable def yX10_isDry : MethodName := ⟨RX10, "isDry", "(I)Z"⟩
noncomputable abbrev cX10_shadeOf : ByteArray := prog_12_method_7_code
noncomputable def yX10_shadeOf : MethodName := ⟨RX10, "shadeOf", "(I)I"⟩
noncomputable abbrev cX10_charge : ByteArray := prog_12_method_8_code
noncomputable def yX10_charge : MethodName := ⟨RX10, "charge", "(II)I"⟩
noncomputable abbrev cX10_feeds : ByteArray := prog_12_method_9_code
noncomputable def yX10_feeds : MethodName := ⟨RX10, "feeds", "(II)Z"⟩
noncomputable abbrev cX10_feed : ByteArray := prog_12_method_10_code
noncomputable def yX10_feed : MethodName := ⟨RX10, "feed", "(II)I"⟩
noncomputable abbrev cX10_limes : ByteArray := prog_12_method_11_code
noncomputable def yX10_limes : MethodName := ⟨RX10, "limes", "(I)V"⟩
noncomputable abbrev cX10_lime : ByteArray := prog_12_method_12_code
noncomputable def yX10_lime : MethodName := ⟨RX10, "lime", "(I)I"⟩
noncomputable abbrev cX10_cloth : ByteArray := prog_12_method_15_code
noncomputable def yX10_cloth : MethodName := ⟨RX10, "cloth", "(I)I"⟩
noncomputable abbrev cX10_moves : ByteArray := prog_12_method_16_code
noncomputable def yX10_moves : MethodName := ⟨RX10, "moves", "(III)I"⟩
noncomputable abbrev cX10_airs : ByteArray := prog_12_method_19_code
noncomputable def yX10_airs : MethodName := ⟨RX10, "airs", "(I)I"⟩
noncomputable abbrev cX10_washes : ByteArray := prog_12_method_20_code
noncomputable def yX10_washes : MethodName := ⟨RX10, "washes", "(I)I"⟩
noncomputable abbrev cX10_treat : ByteArray := prog_12_method_21_code
noncomputable def yX10_treat : MethodName := ⟨RX10, "treat", "(II)I"⟩
noncomputable abbrev cX10_keeps : ByteArray := prog_12_method_53_code
noncomputable def yX10_keeps : MethodName := ⟨RX10, "keeps", "(II)V"⟩
noncomputable abbrev cX10_restores : ByteArray := prog_12_method_54_code
noncomputable def yX10_restores : MethodName := ⟨RX10, "restores", "(II)V"⟩
noncomputable abbrev cX10_thinks : ByteArray := prog_12_method_55_code
noncomputable def yX10_thinks : MethodName := ⟨RX10, "thinks", "(III)V"⟩
noncomputable abbrev cX10_leads : ByteArray := prog_12_method_56_code
noncomputable def yX10_leads : MethodName := ⟨RX10, "leads", "(IIIII)Z"⟩
noncomputable abbrev cX10_plan : ByteArray := prog_12_method_57_code
noncomputable def yX10_plan : MethodName := ⟨RX10, "plan", "(IIII)I"⟩
noncomputable abbrev cX10_planned : ByteArray := prog_12_method_58_code
noncomputable def yX10_planned : MethodName := ⟨RX10, "planned", "(II)I"⟩
noncomputable def RJ0 : String := "java/lang/String"
noncomputable def RJ3 : String := "jdk/internal/util/Preconditions"
noncomputable def RL : String := "VatHouseLaw"
noncomputable abbrev cL_charge : ByteArray := method_3_code
noncomputable def yL_charge : MethodName := ⟨RL, "charge", "(LVatHouse;II[J)I"⟩
noncomputable abbrev cL_feed : ByteArray := method_4_code
noncomputable def yL_feed : MethodName := ⟨RL, "feed", "(LVatHouse;II[J)I"⟩
noncomputable abbrev cL_lime : ByteArray := method_5_code
noncomputable def yL_lime : MethodName := ⟨RL, "lime", "(LVatHouse;I[J)I"⟩
noncomputable abbrev cL_treat : ByteArray := method_8_code
noncomputable def yL_treat : MethodName := ⟨RL, "treat", "(LVatHouse;II[J)I"⟩
noncomputable abbrev cL_plan : ByteArray := method_13_code
noncomputable def yL_plan : MethodName := ⟨RL, "plan", "(LVatHouse;IIII[J)I"⟩
noncomputable abbrev cL_planned : ByteArray := method_14_code
noncomputable def yL_planned : MethodName := ⟨RL, "planned", "(LVatHouse;II[J)I"⟩
noncomputable abbrev cL_law : ByteArray := code
noncomputable def wsX0_init : List Cond := .code yX0_init cX0_init 3 none :: ([.methodLink RX0 3 objectInit, .instanceMethod objectInit, .code objectInit ⟨#[0xb1]⟩ 1 none, .fieldLink RX0 9 "VatHouse$Cloth" "day" "I", .fieldLink RX0 15 "VatHouse$Cloth" "number" "I", .fieldLink RX0 18 "VatHouse$Cloth" "weight" "I"] ++ wsX00)
noncomputable def wsX0_shade : List Cond := .code yX0_shade cX0_shade 1 (some .int) :: ([.fieldLink RX0 18 "VatHouse$Cloth" "weight" "I", .fieldLink RX0 21 "VatHouse$Cloth" "fast" "I"] ++ wsX00)
noncomputable def wsX0_room : List Cond := .code yX0_room cX0_room 1 (some .int) :: ([.fieldLink RX0 18 "VatHouse$Cloth" "weight" "I", .fieldLink RX0 24 "VatHouse$Cloth" "loose" "I", .fieldLink RX0 21 "VatHouse$Cloth" "fast" "I"] ++ wsX00)
noncomputable def wsX0_loseByAir : List Cond := .code yX0_loseByAir cX0_loseByAir 2 (some .int) :: ([.fieldLink RX0 24 "VatHouse$Cloth" "loose" "I", .fieldLink RX0 21 "VatHouse$Cloth" "fast" "I"] ++ wsX00)
noncomputable def wsX0_loseByWash : List Cond := .code yX0_loseByWash cX0_loseByWash 3 (some .int) :: ([.fieldLink RX0 21 "VatHouse$Cloth" "fast" "I", .fieldLink RX0 24 "VatHouse$Cloth" "loose" "I"] ++ wsX00)
noncomputable def wsX0_copyFrom : List Cond := .code yX0_copyFrom cX0_copyFrom 2 none :: ([.fieldLink RX0 18 "VatHouse$Cloth" "weight" "I", .fieldLink RX0 24 "VatHouse$Cloth" "loose" "I", .fieldLink RX0 21 "VatHouse$Cloth" "fast" "I"] ++ wsX00)
noncomputable def wsX7_init : List Cond := .code yX7_init cX7_init 2 none :: ([.methodLink RX7 3 objectInit, .instanceMethod objectInit, .code objectInit ⟨#[0xb1]⟩ 1 none, .fieldLink RX7 9 "VatHouse$Vat" "state" "I", .fieldLink RX7 15 "VatHouse$Vat" "lastDipped" "I", .fieldLink RX7 18 "VatHouse$Vat" "number" "I"] ++ wsX70)
noncomputable def wsX1_init_r1 : List Cond := [Cond.methodLink RX1 3 objectInit, Cond.instanceMethod objectInit, Cond.code objectInit ⟨#[0xb1]⟩ 1 none, Cond.classLink RX1 9 RX7, Cond.fieldLink RX1 11 "VatHouse$Planner" "trialVats" "[LVatHouse$Vat;", Cond.classLink RX1 17 RX0, Cond.instantiable RX0 8, Cond.initialized RX0, Cond.fieldLink RX1 22 "VatHouse$Planner" "trialCloth" "LVatHouse$Cloth;", Cond.arrayClass .int, Cond.fieldLink RX1 26 "VatHouse$Planner" "keptVats" "[I", Cond.fieldLink RX1 30 "VatHouse$Planner" "keptMinutes" "[I", Cond.fieldLink RX1 33 "VatHouse$Planner" "keptShades" "[I", Cond.fieldLink RX1 36 "VatHouse$Planner" "works" "LVatHouse$Works;", Cond.instantiable RX7 8, Cond.initialized RX7, Cond.methodLink RX1 19 yX0_init, Cond.instanceMethod yX0_init, Cond.code yX0_init cX0_init 3 none, Cond.methodLink RX0 3 objectInit, Cond.fieldLink RX0 9 "VatHouse$Cloth" "day" "I", Cond.fieldLink RX0 15 "VatHouse$Cloth" "number" "I", Cond.fieldLink RX0 18 "VatHouse$Cloth" "weight" "I", Cond.methodLink RX1 40 yX7_init]
noncomputable def wsX1_init_r2 : List Cond := [Cond.instanceMethod yX7_init, Cond.code yX7_init cX7_init 2 none, Cond.methodLink RX7 3 objectInit, Cond.fieldLink RX7 9 "VatHouse$Vat" "state" "I", Cond.fieldLink RX7 15 "VatHouse$Vat" "lastDipped" "I", Cond.fieldLink RX7 18 "VatHouse$Vat" "number" "I"]
noncomputable def wsX1_init : List Cond := .code yX1_init cX1_init 3 none :: ((wsX1_init_r1 ++ wsX1_init_r2) ++ wsX10 ++ wsX00 ++ wsX70)
noncomputable def wsX8_vatAt : List Cond := .code yX8_vatAt cX8_vatAt 2 (some (.object "VatHouse$Vat")) :: ([.classLink RX8 20 "java/util/NoSuchElementException", .initialized "java/util/NoSuchElementException", .fieldLink RX8 11 "VatHouse$Works" "vats" "[LVatHouse$Vat;"] ++ wsX80 ++ (xN RX8 24).filter goodWord)
noncomputable def wsX7_copyFrom : List Cond := .code yX7_copyFrom cX7_copyFrom 2 none :: ([.fieldLink RX7 26 "VatHouse$Vat" "grains" "I", .fieldLink RX7 45 "VatHouse$Vat" "food" "I", .fieldLink RX7 42 "VatHouse$Vat" "minutes" "I", .fieldLink RX7 9 "VatHouse$Vat" "state" "I"] ++ wsX70)
noncomputable def wsX7_givesTo : List Cond := .code yX7_givesTo cX7_givesTo 5 (some .int) :: ([.fieldLink RX7 21 "VatHouse$Cloth" "weight" "I", .fieldLink RX7 9 "VatHouse$Vat" "state" "I", .fieldLink RX7 26 "VatHouse$Vat" "grains" "I", .methodLink RX7 33 Lib.Math.min.name, .static Lib.Math.min.name, .initialized "java/lang/Math", .code Lib.Math.min.name Lib.Math.min.code 2 (some .int), .methodLink RX7 29 yX0_room, .instanceMethod yX0_room, .selects RX0 yX0_room yX0_room, .initialized RX0, .code yX0_room cX0_room 1 (some .int), .fieldLink RX0 18 "VatHouse$Cloth" "weight" "I", .fieldLink RX0 24 "VatHouse$Cloth" "loose" "I", .fieldLink RX0 21 "VatHouse$Cloth" "fast" "I"] ++ wsX00 ++ wsX70)
noncomputable def wsX7_soak : List Cond := .code yX7_soak cX7_soak 4 none :: ([.fieldLink RX7 26 "VatHouse$Vat" "grains" "I", .fieldLink RX7 39 "VatHouse$Cloth" "loose" "I", .fieldLink RX7 42 "VatHouse$Vat" "minutes" "I", .fieldLink RX7 9 "VatHouse$Vat" "state" "I", .fieldLink RX7 45 "VatHouse$Vat" "food" "I"] ++ wsX70 ++ wsX00)
noncomputable def wsX1_reaches_r1 : List Cond := [Cond.fieldLink RX1 22 "VatHouse$Planner" "trialCloth" "LVatHouse$Cloth;", Cond.fieldLink RX1 70 "VatHouse$Cloth" "loose" "I", Cond.fieldLink RX1 43 "VatHouse$Planner" "low" "I", Cond.fieldLink RX1 47 "VatHouse$Planner" "high" "I", Cond.fieldLink RX1 11 "VatHouse$Planner" "trialVats" "[LVatHouse$Vat;", Cond.methodLink RX1 73 yX0_shade, Cond.instanceMethod yX0_shade, Cond.selects RX0 yX0_shade yX0_shade, Cond.initialized RX0, Cond.code yX0_shade cX0_shade 1 (some .int), Cond.fieldLink RX0 18 "VatHouse$Cloth" "weight" "I", Cond.fieldLink RX0 21 "VatHouse$Cloth" "fast" "I", Cond.methodLink RX1 77 yX1_reachesBy, Cond.instanceMethod yX1_reachesBy, Cond.selects RX1 yX1_reachesBy yX1_reachesBy, Cond.initialized RX1, Cond.code yX1_reachesBy cX1_reachesBy 13 (some .boolean), Cond.fieldLink RX1 85 "VatHouse$Vat" "grains" "I", Cond.fieldLink RX1 88 "VatHouse$Vat" "food" "I", Cond.fieldLink RX1 91 "VatHouse$Vat" "minutes" "I", Cond.fieldLink RX1 94 "VatHouse$Vat" "state" "I", Cond.fieldLink RX1 97 "VatHouse$Cloth" "fast" "I", Cond.fieldLink RX1 26 "VatHouse$Planner" "keptVats" "[I", Cond.fieldLink RX1 107 "VatHouse$Vat" "number" "I"]
noncomputable def wsX1_reaches_r2 : List Cond := [Cond.fieldLink RX1 30 "VatHouse$Planner" "keptMinutes" "[I", Cond.fieldLink RX1 33 "VatHouse$Planner" "keptShades" "[I", Cond.methodLink RX1 81 yX7_givesTo, Cond.instanceMethod yX7_givesTo, Cond.selects RX7 yX7_givesTo yX7_givesTo, Cond.initialized RX7, Cond.code yX7_givesTo cX7_givesTo 5 (some .int), Cond.fieldLink RX7 21 "VatHouse$Cloth" "weight" "I", Cond.fieldLink RX7 9 "VatHouse$Vat" "state" "I", Cond.fieldLink RX7 26 "VatHouse$Vat" "grains" "I", Cond.methodLink RX7 33 Lib.Math.min.name, Cond.static Lib.Math.min.name, Cond.initialized "java/lang/Math", Cond.code Lib.Math.min.name Lib.Math.min.code 2 (some .int), Cond.methodLink RX7 29 yX0_room, Cond.instanceMethod yX0_room, Cond.selects RX0 yX0_room yX0_room, Cond.code yX0_room cX0_room 1 (some .int), Cond.fieldLink RX0 24 "VatHouse$Cloth" "loose" "I", Cond.methodLink RX1 100 yX7_soak, Cond.instanceMethod yX7_soak, Cond.selects RX7 yX7_soak yX7_soak, Cond.code yX7_soak cX7_soak 4 none, Cond.fieldLink RX7 39 "VatHouse$Cloth" "loose" "I"]
noncomputable def wsX1_reaches_r3 : List Cond := [Cond.fieldLink RX7 42 "VatHouse$Vat" "minutes" "I", Cond.fieldLink RX7 45 "VatHouse$Vat" "food" "I", Cond.methodLink RX1 104 yX0_loseByAir, Cond.instanceMethod yX0_loseByAir, Cond.selects RX0 yX0_loseByAir yX0_loseByAir, Cond.code yX0_loseByAir cX0_loseByAir 2 (some .int), Cond.methodLink RX1 63 yX1_reaches, Cond.instanceMethod yX1_reaches, Cond.selects RX1 yX1_reaches yX1_reaches]
noncomputable def wsX1_reaches : List Cond := .code yX1_reaches cX1_reaches 5 (some .boolean) :: ((wsX1_reaches_r1 ++ (wsX1_reaches_r2 ++ wsX1_reaches_r3)) ++ wsX10 ++ wsX00 ++ wsX70)
noncomputable def wsX1_reachesBy_r1 : List Cond := [Cond.fieldLink RX1 22 "VatHouse$Planner" "trialCloth" "LVatHouse$Cloth;", Cond.fieldLink RX1 85 "VatHouse$Vat" "grains" "I", Cond.fieldLink RX1 88 "VatHouse$Vat" "food" "I", Cond.fieldLink RX1 91 "VatHouse$Vat" "minutes" "I", Cond.fieldLink RX1 94 "VatHouse$Vat" "state" "I", Cond.fieldLink RX1 70 "VatHouse$Cloth" "loose" "I", Cond.fieldLink RX1 97 "VatHouse$Cloth" "fast" "I", Cond.fieldLink RX1 26 "VatHouse$Planner" "keptVats" "[I", Cond.fieldLink RX1 107 "VatHouse$Vat" "number" "I", Cond.fieldLink RX1 30 "VatHouse$Planner" "keptMinutes" "[I", Cond.fieldLink RX1 33 "VatHouse$Planner" "keptShades" "[I", Cond.fieldLink RX1 47 "VatHouse$Planner" "high" "I", Cond.methodLink RX1 81 yX7_givesTo, Cond.instanceMethod yX7_givesTo, Cond.selects RX7 yX7_givesTo yX7_givesTo, Cond.initialized RX7, Cond.code yX7_givesTo cX7_givesTo 5 (some .int), Cond.fieldLink RX7 21 "VatHouse$Cloth" "weight" "I", Cond.fieldLink RX7 9 "VatHouse$Vat" "state" "I", Cond.fieldLink RX7 26 "VatHouse$Vat" "grains" "I", Cond.methodLink RX7 33 Lib.Math.min.name, Cond.static Lib.Math.min.name, Cond.initialized "java/lang/Math", Cond.code Lib.Math.min.name Lib.Math.min.code 2 (some .int)]
noncomputable def wsX1_reachesBy_r2 : List Cond := [Cond.methodLink RX7 29 yX0_room, Cond.instanceMethod yX0_room, Cond.selects RX0 yX0_room yX0_room, Cond.initialized RX0, Cond.code yX0_room cX0_room 1 (some .int), Cond.fieldLink RX0 18 "VatHouse$Cloth" "weight" "I", Cond.fieldLink RX0 24 "VatHouse$Cloth" "loose" "I", Cond.fieldLink RX0 21 "VatHouse$Cloth" "fast" "I", Cond.methodLink RX1 100 yX7_soak, Cond.instanceMethod yX7_soak, Cond.selects RX7 yX7_soak yX7_soak, Cond.code yX7_soak cX7_soak 4 none, Cond.fieldLink RX7 39 "VatHouse$Cloth" "loose" "I", Cond.fieldLink RX7 42 "VatHouse$Vat" "minutes" "I", Cond.fieldLink RX7 45 "VatHouse$Vat" "food" "I", Cond.methodLink RX1 104 yX0_loseByAir, Cond.instanceMethod yX0_loseByAir, Cond.selects RX0 yX0_loseByAir yX0_loseByAir, Cond.code yX0_loseByAir cX0_loseByAir 2 (some .int), Cond.methodLink RX1 73 yX0_shade, Cond.instanceMethod yX0_shade, Cond.selects RX0 yX0_shade yX0_shade, Cond.code yX0_shade cX0_shade 1 (some .int), Cond.methodLink RX1 63 yX1_reaches]
noncomputable def wsX1_reachesBy_r3 : List Cond := [Cond.instanceMethod yX1_reaches, Cond.selects RX1 yX1_reaches yX1_reaches, Cond.initialized RX1, Cond.code yX1_reaches cX1_reaches 5 (some .boolean), Cond.fieldLink RX1 43 "VatHouse$Planner" "low" "I", Cond.fieldLink RX1 11 "VatHouse$Planner" "trialVats" "[LVatHouse$Vat;", Cond.methodLink RX1 77 yX1_reachesBy, Cond.instanceMethod yX1_reachesBy, Cond.selects RX1 yX1_reachesBy yX1_reachesBy]
noncomputable def wsX1_reachesBy : List Cond := .code yX1_reachesBy cX1_reachesBy 13 (some .boolean) :: ((wsX1_reachesBy_r1 ++ (wsX1_reachesBy_r2 ++ wsX1_reachesBy_r3)) ++ wsX10 ++ wsX00 ++ wsX70)
noncomputable def wsX1_fewest_r1 : List Cond := [Cond.fieldLink RX1 43 "VatHouse$Planner" "low" "I", Cond.fieldLink RX1 47 "VatHouse$Planner" "high" "I", Cond.fieldLink RX1 11 "VatHouse$Planner" "trialVats" "[LVatHouse$Vat;", Cond.fieldLink RX1 36 "VatHouse$Planner" "works" "LVatHouse$Works;", Cond.fieldLink RX1 22 "VatHouse$Planner" "trialCloth" "LVatHouse$Cloth;", Cond.fieldLink RX1 67 "VatHouse$Planner" "kept" "I", Cond.methodLink RX1 50 yX8_vatAt, Cond.instanceMethod yX8_vatAt, Cond.selects RX8 yX8_vatAt yX8_vatAt, Cond.initialized RX8, Cond.code yX8_vatAt cX8_vatAt 2 (some (.object "VatHouse$Vat")), Cond.classLink RX8 20 "java/util/NoSuchElementException", Cond.initialized "java/util/NoSuchElementException", Cond.fieldLink RX8 11 "VatHouse$Works" "vats" "[LVatHouse$Vat;", Cond.methodLink RX1 56 yX7_copyFrom, Cond.instanceMethod yX7_copyFrom, Cond.selects RX7 yX7_copyFrom yX7_copyFrom, Cond.initialized RX7, Cond.code yX7_copyFrom cX7_copyFrom 2 none, Cond.fieldLink RX7 26 "VatHouse$Vat" "grains" "I", Cond.fieldLink RX7 45 "VatHouse$Vat" "food" "I", Cond.fieldLink RX7 42 "VatHouse$Vat" "minutes" "I", Cond.fieldLink RX7 9 "VatHouse$Vat" "state" "I", Cond.methodLink RX1 60 yX0_copyFrom]
noncomputable def wsX1_fewest_r2 : List Cond := [Cond.instanceMethod yX0_copyFrom, Cond.selects RX0 yX0_copyFrom yX0_copyFrom, Cond.initialized RX0, Cond.code yX0_copyFrom cX0_copyFrom 2 none, Cond.fieldLink RX0 18 "VatHouse$Cloth" "weight" "I", Cond.fieldLink RX0 24 "VatHouse$Cloth" "loose" "I", Cond.fieldLink RX0 21 "VatHouse$Cloth" "fast" "I", Cond.methodLink RX1 63 yX1_reaches, Cond.instanceMethod yX1_reaches, Cond.selects RX1 yX1_reaches yX1_reaches, Cond.initialized RX1, Cond.code yX1_reaches cX1_reaches 5 (some .boolean), Cond.fieldLink RX1 70 "VatHouse$Cloth" "loose" "I", Cond.methodLink RX1 73 yX0_shade, Cond.instanceMethod yX0_shade, Cond.selects RX0 yX0_shade yX0_shade, Cond.code yX0_shade cX0_shade 1 (some .int), Cond.methodLink RX1 77 yX1_reachesBy, Cond.instanceMethod yX1_reachesBy, Cond.selects RX1 yX1_reachesBy yX1_reachesBy, Cond.code yX1_reachesBy cX1_reachesBy 13 (some .boolean), Cond.fieldLink RX1 85 "VatHouse$Vat" "grains" "I", Cond.fieldLink RX1 88 "VatHouse$Vat" "food" "I", Cond.fieldLink RX1 91 "VatHouse$Vat" "minutes" "I"]
noncomputable def wsX1_fewest_r3 : List Cond := [Cond.fieldLink RX1 94 "VatHouse$Vat" "state" "I", Cond.fieldLink RX1 97 "VatHouse$Cloth" "fast" "I", Cond.fieldLink RX1 26 "VatHouse$Planner" "keptVats" "[I", Cond.fieldLink RX1 107 "VatHouse$Vat" "number" "I", Cond.fieldLink RX1 30 "VatHouse$Planner" "keptMinutes" "[I", Cond.fieldLink RX1 33 "VatHouse$Planner" "keptShades" "[I", Cond.methodLink RX1 81 yX7_givesTo, Cond.instanceMethod yX7_givesTo, Cond.selects RX7 yX7_givesTo yX7_givesTo, Cond.code yX7_givesTo cX7_givesTo 5 (some .int), Cond.fieldLink RX7 21 "VatHouse$Cloth" "weight" "I", Cond.methodLink RX7 33 Lib.Math.min.name, Cond.static Lib.Math.min.name, Cond.initialized "java/lang/Math", Cond.code Lib.Math.min.name Lib.Math.min.code 2 (some .int), Cond.methodLink RX7 29 yX0_room, Cond.instanceMethod yX0_room, Cond.selects RX0 yX0_room yX0_room, Cond.code yX0_room cX0_room 1 (some .int), Cond.methodLink RX1 100 yX7_soak, Cond.instanceMethod yX7_soak, Cond.selects RX7 yX7_soak yX7_soak, Cond.code yX7_soak cX7_soak 4 none, Cond.fieldLink RX7 39 "VatHouse$Cloth" "loose" "I"]
noncomputable def wsX1_fewest_r4 : List Cond := [Cond.methodLink RX1 104 yX0_loseByAir, Cond.instanceMethod yX0_loseByAir, Cond.selects RX0 yX0_loseByAir yX0_loseByAir, Cond.code yX0_loseByAir cX0_loseByAir 2 (some .int)]
noncomputable def wsX1_fewest : List Cond := .code yX1_fewest cX1_fewest 6 (some .int) :: ((wsX1_fewest_r1 ++ (wsX1_fewest_r2 ++ (wsX1_fewest_r3 ++ wsX1_fewest_r4))) ++ wsX10 ++ wsX80 ++ wsX70 ++ wsX00 ++ (xN RX8 24).filter goodWord)
noncomputable def wsX6_init : List Cond := .code yX6_init cX6_init 2 none :: ([.methodLink RX6 3 objectInit, .instanceMethod objectInit, .code objectInit ⟨#[0xb1]⟩ 1 none, .arrayClass .int, .fieldLink RX6 9 "VatHouse$Tokens" "kinds" "[I", .fieldLink RX6 15 "VatHouse$Tokens" "starts" "[I", .fieldLink RX6 18 "VatHouse$Tokens" "values" "[I", .fieldLink RX6 21 "VatHouse$Tokens" "text" "[B"] ++ wsX60)
noncomputable def wsX2_init : List Cond := .code yX2_init cX2_init 2 none :: ([.methodLink RX2 3 objectInit, .instanceMethod objectInit, .code objectInit ⟨#[0xb1]⟩ 1 none, .fieldLink RX2 9 "VatHouse$Reader" "place" "I", .classLink RX2 15 RX6, .instantiable RX6 7, .initialized RX6, .fieldLink RX2 20 "VatHouse$Reader" "tokens" "LVatHouse$Tokens;", .methodLink RX2 17 yX6_init, .instanceMethod yX6_init, .code yX6_init cX6_init 2 none, .methodLink RX6 3 objectInit, .arrayClass .int, .fieldLink RX6 9 "VatHouse$Tokens" "kinds" "[I", .fieldLink RX6 15 "VatHouse$Tokens" "starts" "[I", .fieldLink RX6 18 "VatHouse$Tokens" "values" "[I", .fieldLink RX6 21 "VatHouse$Tokens" "text" "[B"] ++ wsX20 ++ wsX60)
noncomputable def wsX4_init : List Cond := .code yX4_init cX4_init 2 none :: ([.methodLink RX4 3 objectInit, .instanceMethod objectInit, .code objectInit ⟨#[0xb1]⟩ 1 none, .fieldLink RX4 9 "VatHouse$Runner" "result" "I", .fieldLink RX4 15 "VatHouse$Runner" "works" "LVatHouse$Works;"] ++ wsX40)
noncomputable def wsX8_airOut : List Cond := .code yX8_airOut cX8_airOut 3 (some .int) :: ([.fieldLink RX8 58 "VatHouse$Works" "drain" "I", .methodLink RX8 54 yX0_loseByAir, .instanceMethod yX0_loseByAir, .selects RX0 yX0_loseByAir yX0_loseByAir, .initialized RX0, .code yX0_loseByAir cX0_loseByAir 2 (some .int), .fieldLink RX0 24 "VatHouse$Cloth" "loose" "I", .fieldLink RX0 21 "VatHouse$Cloth" "fast" "I"] ++ wsX80 ++ wsX00)
noncomputable def wsX8_washOut : List Cond := .code yX8_washOut cX8_washOut 3 (some .int) :: ([.fieldLink RX8 58 "VatHouse$Works" "drain" "I", .methodLink RX8 61 yX0_loseByWash, .instanceMethod yX0_loseByWash, .selects RX0 yX0_loseByWash yX0_loseByWash, .initialized RX0, .code yX0_loseByWash cX0_loseByWash 3 (some .int), .fieldLink RX0 21 "VatHouse$Cloth" "fast" "I", .fieldLink RX0 24 "VatHouse$Cloth" "loose" "I"] ++ wsX80 ++ wsX00)
noncomputable def wsX7_takeFood : List Cond := .code yX7_takeFood cX7_takeFood 2 (some .boolean) :: ([.fieldLink RX7 45 "VatHouse$Vat" "food" "I", .fieldLink RX7 9 "VatHouse$Vat" "state" "I"] ++ wsX70)
noncomputable def wsX7_takeLime : List Cond := .code yX7_takeLime cX7_takeLime 1 none :: ([.fieldLink RX7 9 "VatHouse$Vat" "state" "I", .fieldLink RX7 42 "VatHouse$Vat" "minutes" "I", .fieldLink RX7 45 "VatHouse$Vat" "food" "I"] ++ wsX70)
noncomputable def wsX8_init : List Cond := .code yX8_init cX8_init 2 none :: ([.methodLink RX8 3 objectInit, .instanceMethod objectInit, .code objectInit ⟨#[0xb1]⟩ 1 none, .classLink RX8 9 RX7, .fieldLink RX8 11 "VatHouse$Works" "vats" "[LVatHouse$Vat;", .instantiable RX7 8, .initialized RX7, .methodLink RX8 17 yX7_init, .instanceMethod yX7_init, .code yX7_init cX7_init 2 none, .methodLink RX7 3 objectInit, .fieldLink RX7 9 "VatHouse$Vat" "state" "I", .fieldLink RX7 15 "VatHouse$Vat" "lastDipped" "I", .fieldLink RX7 18 "VatHouse$Vat" "number" "I"] ++ wsX80 ++ wsX70)
noncomputable def wsX8_dryOut : List Cond := .code yX8_dryOut cX8_dryOut 3 (some .int) :: ([.fieldLink RX8 68 "VatHouse$Cloth" "dry" "Z", .fieldLink RX8 31 "VatHouse$Works" "hours" "I", .fieldLink RX8 72 "VatHouse$Cloth" "day" "I", .methodLink RX8 64 yX8_airOut, .instanceMethod yX8_airOut, .selects RX8 yX8_airOut yX8_airOut, .initialized RX8, .code yX8_airOut cX8_airOut 3 (some .int), .fieldLink RX8 58 "VatHouse$Works" "drain" "I", .methodLink RX8 54 yX0_loseByAir, .instanceMethod yX0_loseByAir, .selects RX0 yX0_loseByAir yX0_loseByAir, .initialized RX0, .code yX0_loseByAir cX0_loseByAir 2 (some .int), .fieldLink RX0 24 "VatHouse$Cloth" "loose" "I", .fieldLink RX0 21 "VatHouse$Cloth" "fast" "I"] ++ wsX00 ++ wsX80)
noncomputable def wsX9_init_r1 : List Cond := [Cond.methodLink RX9 1 objectInit, Cond.instanceMethod objectInit, Cond.code objectInit ⟨#[0xb1]⟩ 1 none, Cond.classLink RX9 7 RX8, Cond.instantiable RX8 3, Cond.initialized RX8, Cond.fieldLink RX9 10 "VatHouse" "works" "LVatHouse$Works;", Cond.classLink RX9 16 RX0, Cond.fieldLink RX9 18 "VatHouse" "cloths" "[LVatHouse$Cloth;", Cond.arrayClass .byte, Cond.fieldLink RX9 22 "VatHouse" "tape" "[B", Cond.classLink RX9 26 RX2, Cond.instantiable RX2 6, Cond.initialized RX2, Cond.fieldLink RX9 31 "VatHouse" "reader" "LVatHouse$Reader;", Cond.classLink RX9 35 RX3, Cond.fieldLink RX9 37 "VatHouse" "recipes" "[LVatHouse$Recipe;", Cond.classLink RX9 41 RX4, Cond.instantiable RX4 8, Cond.initialized RX4, Cond.fieldLink RX9 46 "VatHouse" "runner" "LVatHouse$Runner;", Cond.classLink RX9 50 RX1, Cond.instantiable RX1 9, Cond.initialized RX1]
noncomputable def wsX9_init_r2 : List Cond := [Cond.fieldLink RX9 53 "VatHouse" "planner" "LVatHouse$Planner;", Cond.methodLink RX9 9 yX8_init, Cond.instanceMethod yX8_init, Cond.code yX8_init cX8_init 2 none, Cond.methodLink RX8 3 objectInit, Cond.classLink RX8 9 RX7, Cond.fieldLink RX8 11 "VatHouse$Works" "vats" "[LVatHouse$Vat;", Cond.instantiable RX7 8, Cond.initialized RX7, Cond.methodLink RX8 17 yX7_init, Cond.instanceMethod yX7_init, Cond.code yX7_init cX7_init 2 none, Cond.methodLink RX7 3 objectInit, Cond.fieldLink RX7 9 "VatHouse$Vat" "state" "I", Cond.fieldLink RX7 15 "VatHouse$Vat" "lastDipped" "I", Cond.fieldLink RX7 18 "VatHouse$Vat" "number" "I", Cond.methodLink RX9 28 yX2_init, Cond.instanceMethod yX2_init, Cond.code yX2_init cX2_init 2 none, Cond.methodLink RX2 3 objectInit, Cond.fieldLink RX2 9 "VatHouse$Reader" "place" "I", Cond.classLink RX2 15 RX6, Cond.instantiable RX6 7, Cond.initialized RX6]
noncomputable def wsX9_init_r3 : List Cond := [Cond.fieldLink RX2 20 "VatHouse$Reader" "tokens" "LVatHouse$Tokens;", Cond.methodLink RX2 17 yX6_init, Cond.instanceMethod yX6_init, Cond.code yX6_init cX6_init 2 none, Cond.methodLink RX6 3 objectInit, Cond.arrayClass .int, Cond.fieldLink RX6 9 "VatHouse$Tokens" "kinds" "[I", Cond.fieldLink RX6 15 "VatHouse$Tokens" "starts" "[I", Cond.fieldLink RX6 18 "VatHouse$Tokens" "values" "[I", Cond.fieldLink RX6 21 "VatHouse$Tokens" "text" "[B", Cond.methodLink RX9 43 yX4_init, Cond.instanceMethod yX4_init, Cond.code yX4_init cX4_init 2 none, Cond.methodLink RX4 3 objectInit, Cond.fieldLink RX4 9 "VatHouse$Runner" "result" "I", Cond.fieldLink RX4 15 "VatHouse$Runner" "works" "LVatHouse$Works;", Cond.methodLink RX9 52 yX1_init, Cond.instanceMethod yX1_init, Cond.code yX1_init cX1_init 3 none, Cond.methodLink RX1 3 objectInit, Cond.classLink RX1 9 RX7, Cond.fieldLink RX1 11 "VatHouse$Planner" "trialVats" "[LVatHouse$Vat;", Cond.classLink RX1 17 RX0, Cond.instantiable RX0 8]
noncomputable def wsX9_init_r4 : List Cond := [Cond.initialized RX0, Cond.fieldLink RX1 22 "VatHouse$Planner" "trialCloth" "LVatHouse$Cloth;", Cond.fieldLink RX1 26 "VatHouse$Planner" "keptVats" "[I", Cond.fieldLink RX1 30 "VatHouse$Planner" "keptMinutes" "[I", Cond.fieldLink RX1 33 "VatHouse$Planner" "keptShades" "[I", Cond.fieldLink RX1 36 "VatHouse$Planner" "works" "LVatHouse$Works;", Cond.methodLink RX1 19 yX0_init, Cond.instanceMethod yX0_init, Cond.code yX0_init cX0_init 3 none, Cond.methodLink RX0 3 objectInit, Cond.fieldLink RX0 9 "VatHouse$Cloth" "day" "I", Cond.fieldLink RX0 15 "VatHouse$Cloth" "number" "I", Cond.fieldLink RX0 18 "VatHouse$Cloth" "weight" "I", Cond.methodLink RX1 40 yX7_init]
noncomputable def wsX9_init : List Cond := .code yX9_init cX9_init 1 none :: ((wsX9_init_r1 ++ (wsX9_init_r2 ++ (wsX9_init_r3 ++ wsX9_init_r4))) ++ wsX80 ++ wsX90 ++ wsX20 ++ wsX40 ++ wsX10 ++ wsX70 ++ wsX60 ++ wsX00)
noncomputable def wsX9_charge : List Cond := .code yX9_charge cX9_charge 4 (some .int) :: ([.fieldLink RX9 10 "VatHouse" "works" "LVatHouse$Works;", .constant RX9 61 (1000000), .fieldLink RX9 62 "VatHouse$Vat" "grains" "I", .fieldLink RX9 68 "VatHouse" "grainsPutIn" "I", .methodLink RX9 57 yX8_vatAt, .instanceMethod yX8_vatAt, .selects RX8 yX8_vatAt yX8_vatAt, .initialized RX8, .code yX8_vatAt cX8_vatAt 2 (some (.object "VatHouse$Vat")), .classLink RX8 20 "java/util/NoSuchElementException", .initialized "java/util/NoSuchElementException", .fieldLink RX8 11 "VatHouse$Works" "vats" "[LVatHouse$Vat;"] ++ wsX90 ++ wsX70 ++ wsX80 ++ (xN RX8 24).filter goodWord)
noncomputable def wsX9_demand : List Cond := .code yX9_demand cX9_demand 1 none :: ([.classLink RX9 252 "java/lang/IllegalArgumentException", .initialized "java/lang/IllegalArgumentException"] ++ (xI RX9 256).filter goodWord)
noncomputable def wsX9_feed : List Cond := .code yX9_feed cX9_feed 4 (some .int) :: ([.fieldLink RX9 10 "VatHouse" "works" "LVatHouse$Works;", .fieldLink RX9 79 "VatHouse$Vat" "state" "I", .methodLink RX9 57 yX8_vatAt, .instanceMethod yX8_vatAt, .selects RX8 yX8_vatAt yX8_vatAt, .initialized RX8, .code yX8_vatAt cX8_vatAt 2 (some (.object "VatHouse$Vat")), .classLink RX8 20 "java/util/NoSuchElementException", .initialized "java/util/NoSuchElementException", .fieldLink RX8 11 "VatHouse$Works" "vats" "[LVatHouse$Vat;", .methodLink RX9 71 yX9_demand, .static yX9_demand, .initialized RX9, .code yX9_demand cX9_demand 1 none, .classLink RX9 252 "java/lang/IllegalArgumentException", .initialized "java/lang/IllegalArgumentException", .methodLink RX9 75 yX7_takeFood, .instanceMethod yX7_takeFood, .selects RX7 yX7_takeFood yX7_takeFood, .initialized RX7, .code yX7_takeFood cX7_takeFood 2 (some .boolean), .fieldLink RX7 45 "VatHouse$Vat" "food" "I", .fieldLink RX7 9 "VatHouse$Vat" "state" "I"] ++ wsX90 ++ wsX70 ++ wsX80 ++ (xN RX8 24).filter goodWord ++ (xI RX9 256).filter goodWord)
noncomputable def wsX9_lime : List Cond := .code yX9_lime cX9_lime 3 (some .int) :: ([.fieldLink RX9 10 "VatHouse" "works" "LVatHouse$Works;", .fieldLink RX9 79 "VatHouse$Vat" "state" "I", .methodLink RX9 57 yX8_vatAt, .instanceMethod yX8_vatAt, .selects RX8 yX8_vatAt yX8_vatAt, .initialized RX8, .code yX8_vatAt cX8_vatAt 2 (some (.object "VatHouse$Vat")), .classLink RX8 20 "java/util/NoSuchElementException", .initialized "java/util/NoSuchElementException", .fieldLink RX8 11 "VatHouse$Works" "vats" "[LVatHouse$Vat;", .methodLink RX9 82 yX7_takeLime, .instanceMethod yX7_takeLime, .selects RX7 yX7_takeLime yX7_takeLime, .initialized RX7, .code yX7_takeLime cX7_takeLime 1 none, .fieldLink RX7 9 "VatHouse$Vat" "state" "I", .fieldLink RX7 42 "VatHouse$Vat" "minutes" "I", .fieldLink RX7 45 "VatHouse$Vat" "food" "I"] ++ wsX90 ++ wsX70 ++ wsX80 ++ (xN RX8 24).filter goodWord)
noncomputable def wsX9_cloth : List Cond := .code yX9_cloth cX9_cloth 2 (some .int) :: ([.fieldLink RX9 92 "VatHouse" "clothsMade" "I", .fieldLink RX9 18 "VatHouse" "cloths" "[LVatHouse$Cloth;", .classLink RX9 16 RX0, .instantiable RX0 8, .initialized RX0, .methodLink RX9 95 yX0_init, .instanceMethod yX0_init, .code yX0_init cX0_init 3 none, .methodLink RX0 3 objectInit, .instanceMethod objectInit, .code objectInit ⟨#[0xb1]⟩ 1 none, .fieldLink RX0 9 "VatHouse$Cloth" "day" "I", .fieldLink RX0 15 "VatHouse$Cloth" "number" "I", .fieldLink RX0 18 "VatHouse$Cloth" "weight" "I"] ++ wsX90 ++ wsX00)
noncomputable def wsX9_clothAt : List Cond := .code yX9_clothAt cX9_clothAt 3 (some (.object "VatHouse$Cloth")) :: ([.classLink RX9 149 "java/util/NoSuchElementException", .initialized "java/util/NoSuchElementException", .fieldLink RX9 92 "VatHouse" "clothsMade" "I", .fieldLink RX9 18 "VatHouse" "cloths" "[LVatHouse$Cloth;"] ++ wsX90 ++ (xN RX9 153).filter goodWord)
noncomputable def wsX9_treat_r1 : List Cond := [Cond.fieldLink RX9 102 "VatHouse$Cloth" "dry" "Z", Cond.fieldLink RX9 10 "VatHouse" "works" "LVatHouse$Works;", Cond.methodLink RX9 98 yX9_clothAt, Cond.instanceMethod yX9_clothAt, Cond.selects RX9 yX9_clothAt yX9_clothAt, Cond.initialized RX9, Cond.code yX9_clothAt cX9_clothAt 3 (some (.object "VatHouse$Cloth")), Cond.classLink RX9 149 "java/util/NoSuchElementException", Cond.initialized "java/util/NoSuchElementException", Cond.fieldLink RX9 92 "VatHouse" "clothsMade" "I", Cond.fieldLink RX9 18 "VatHouse" "cloths" "[LVatHouse$Cloth;", Cond.methodLink RX9 71 yX9_demand, Cond.static yX9_demand, Cond.code yX9_demand cX9_demand 1 none, Cond.classLink RX9 252 "java/lang/IllegalArgumentException", Cond.initialized "java/lang/IllegalArgumentException", Cond.methodLink RX9 114 yX8_airOut, Cond.instanceMethod yX8_airOut, Cond.selects RX8 yX8_airOut yX8_airOut, Cond.initialized RX8, Cond.code yX8_airOut cX8_airOut 3 (some .int), Cond.fieldLink RX8 58 "VatHouse$Works" "drain" "I", Cond.methodLink RX8 54 yX0_loseByAir, Cond.instanceMethod yX0_loseByAir]
noncomputable def wsX9_treat_r2 : List Cond := [Cond.selects RX0 yX0_loseByAir yX0_loseByAir, Cond.initialized RX0, Cond.code yX0_loseByAir cX0_loseByAir 2 (some .int), Cond.fieldLink RX0 24 "VatHouse$Cloth" "loose" "I", Cond.fieldLink RX0 21 "VatHouse$Cloth" "fast" "I", Cond.methodLink RX9 118 yX8_washOut, Cond.instanceMethod yX8_washOut, Cond.selects RX8 yX8_washOut yX8_washOut, Cond.code yX8_washOut cX8_washOut 3 (some .int), Cond.methodLink RX8 61 yX0_loseByWash, Cond.instanceMethod yX0_loseByWash, Cond.selects RX0 yX0_loseByWash yX0_loseByWash, Cond.code yX0_loseByWash cX0_loseByWash 3 (some .int), Cond.methodLink RX9 121 yX8_dryOut, Cond.instanceMethod yX8_dryOut, Cond.selects RX8 yX8_dryOut yX8_dryOut, Cond.code yX8_dryOut cX8_dryOut 3 (some .int), Cond.fieldLink RX8 68 "VatHouse$Cloth" "dry" "Z", Cond.fieldLink RX8 31 "VatHouse$Works" "hours" "I", Cond.fieldLink RX8 72 "VatHouse$Cloth" "day" "I", Cond.methodLink RX8 64 yX8_airOut]
noncomputable def wsX9_treat : List Cond := .code yX9_treat cX9_treat 4 (some .int) :: ((wsX9_treat_r1 ++ wsX9_treat_r2) ++ wsX00 ++ wsX90 ++ wsX80 ++ (xN RX9 153).filter goodWord ++ (xI RX9 256).filter goodWord)
noncomputable def wsX9_plan_r1 : List Cond := [Cond.fieldLink RX9 102 "VatHouse$Cloth" "dry" "Z", Cond.fieldLink RX9 53 "VatHouse" "planner" "LVatHouse$Planner;", Cond.methodLink RX9 98 yX9_clothAt, Cond.instanceMethod yX9_clothAt, Cond.selects RX9 yX9_clothAt yX9_clothAt, Cond.initialized RX9, Cond.code yX9_clothAt cX9_clothAt 3 (some (.object "VatHouse$Cloth")), Cond.classLink RX9 149 "java/util/NoSuchElementException", Cond.initialized "java/util/NoSuchElementException", Cond.fieldLink RX9 92 "VatHouse" "clothsMade" "I", Cond.fieldLink RX9 18 "VatHouse" "cloths" "[LVatHouse$Cloth;", Cond.methodLink RX9 71 yX9_demand, Cond.static yX9_demand, Cond.code yX9_demand cX9_demand 1 none, Cond.classLink RX9 252 "java/lang/IllegalArgumentException", Cond.initialized "java/lang/IllegalArgumentException", Cond.methodLink RX9 182 yX1_fewest, Cond.instanceMethod yX1_fewest, Cond.selects RX1 yX1_fewest yX1_fewest, Cond.initialized RX1, Cond.code yX1_fewest cX1_fewest 6 (some .int), Cond.fieldLink RX1 43 "VatHouse$Planner" "low" "I", Cond.fieldLink RX1 47 "VatHouse$Planner" "high" "I", Cond.fieldLink RX1 11 "VatHouse$Planner" "trialVats" "[LVatHouse$Vat;"]
noncomputable def wsX9_plan_r2 : List Cond := [Cond.fieldLink RX1 36 "VatHouse$Planner" "works" "LVatHouse$Works;", Cond.fieldLink RX1 22 "VatHouse$Planner" "trialCloth" "LVatHouse$Cloth;", Cond.fieldLink RX1 67 "VatHouse$Planner" "kept" "I", Cond.methodLink RX1 50 yX8_vatAt, Cond.instanceMethod yX8_vatAt, Cond.selects RX8 yX8_vatAt yX8_vatAt, Cond.initialized RX8, Cond.code yX8_vatAt cX8_vatAt 2 (some (.object "VatHouse$Vat")), Cond.classLink RX8 20 "java/util/NoSuchElementException", Cond.fieldLink RX8 11 "VatHouse$Works" "vats" "[LVatHouse$Vat;", Cond.methodLink RX1 56 yX7_copyFrom, Cond.instanceMethod yX7_copyFrom, Cond.selects RX7 yX7_copyFrom yX7_copyFrom, Cond.initialized RX7, Cond.code yX7_copyFrom cX7_copyFrom 2 none, Cond.fieldLink RX7 26 "VatHouse$Vat" "grains" "I", Cond.fieldLink RX7 45 "VatHouse$Vat" "food" "I", Cond.fieldLink RX7 42 "VatHouse$Vat" "minutes" "I", Cond.fieldLink RX7 9 "VatHouse$Vat" "state" "I", Cond.methodLink RX1 60 yX0_copyFrom, Cond.instanceMethod yX0_copyFrom, Cond.selects RX0 yX0_copyFrom yX0_copyFrom, Cond.initialized RX0, Cond.code yX0_copyFrom cX0_copyFrom 2 none]
noncomputable def wsX9_plan_r3 : List Cond := [Cond.fieldLink RX0 18 "VatHouse$Cloth" "weight" "I", Cond.fieldLink RX0 24 "VatHouse$Cloth" "loose" "I", Cond.fieldLink RX0 21 "VatHouse$Cloth" "fast" "I", Cond.methodLink RX1 63 yX1_reaches, Cond.instanceMethod yX1_reaches, Cond.selects RX1 yX1_reaches yX1_reaches, Cond.code yX1_reaches cX1_reaches 5 (some .boolean), Cond.fieldLink RX1 70 "VatHouse$Cloth" "loose" "I", Cond.methodLink RX1 73 yX0_shade, Cond.instanceMethod yX0_shade, Cond.selects RX0 yX0_shade yX0_shade, Cond.code yX0_shade cX0_shade 1 (some .int), Cond.methodLink RX1 77 yX1_reachesBy, Cond.instanceMethod yX1_reachesBy, Cond.selects RX1 yX1_reachesBy yX1_reachesBy, Cond.code yX1_reachesBy cX1_reachesBy 13 (some .boolean), Cond.fieldLink RX1 85 "VatHouse$Vat" "grains" "I", Cond.fieldLink RX1 88 "VatHouse$Vat" "food" "I", Cond.fieldLink RX1 91 "VatHouse$Vat" "minutes" "I", Cond.fieldLink RX1 94 "VatHouse$Vat" "state" "I", Cond.fieldLink RX1 97 "VatHouse$Cloth" "fast" "I", Cond.fieldLink RX1 26 "VatHouse$Planner" "keptVats" "[I", Cond.fieldLink RX1 107 "VatHouse$Vat" "number" "I", Cond.fieldLink RX1 30 "VatHouse$Planner" "keptMinutes" "[I"]
noncomputable def wsX9_plan_r4 : List Cond := [Cond.fieldLink RX1 33 "VatHouse$Planner" "keptShades" "[I", Cond.methodLink RX1 81 yX7_givesTo, Cond.instanceMethod yX7_givesTo, Cond.selects RX7 yX7_givesTo yX7_givesTo, Cond.code yX7_givesTo cX7_givesTo 5 (some .int), Cond.fieldLink RX7 21 "VatHouse$Cloth" "weight" "I", Cond.methodLink RX7 33 Lib.Math.min.name, Cond.static Lib.Math.min.name, Cond.initialized "java/lang/Math", Cond.code Lib.Math.min.name Lib.Math.min.code 2 (some .int), Cond.methodLink RX7 29 yX0_room, Cond.instanceMethod yX0_room, Cond.selects RX0 yX0_room yX0_room, Cond.code yX0_room cX0_room 1 (some .int), Cond.methodLink RX1 100 yX7_soak, Cond.instanceMethod yX7_soak, Cond.selects RX7 yX7_soak yX7_soak, Cond.code yX7_soak cX7_soak 4 none, Cond.fieldLink RX7 39 "VatHouse$Cloth" "loose" "I", Cond.methodLink RX1 104 yX0_loseByAir, Cond.instanceMethod yX0_loseByAir, Cond.selects RX0 yX0_loseByAir yX0_loseByAir, Cond.code yX0_loseByAir cX0_loseByAir 2 (some .int)]
noncomputable def wsX9_plan : List Cond := .code yX9_plan cX9_plan 6 (some .int) :: ((wsX9_plan_r1 ++ (wsX9_plan_r2 ++ (wsX9_plan_r3 ++ wsX9_plan_r4))) ++ wsX00 ++ wsX90 ++ wsX10 ++ wsX80 ++ wsX70 ++ (xN RX9 153).filter goodWord ++ (xI RX9 256).filter goodWord ++ (xN RX8 24).filter goodWord)
noncomputable def wsX9_planned : List Cond := .code yX9_planned cX9_planned 3 (some .int) :: ([.classLink RX9 149 "java/util/NoSuchElementException", .initialized "java/util/NoSuchElementException", .fieldLink RX9 53 "VatHouse" "planner" "LVatHouse$Planner;", .fieldLink RX9 186 "VatHouse$Planner" "kept" "I", .fieldLink RX9 191 "VatHouse$Planner" "keptVats" "[I", .fieldLink RX9 195 "VatHouse$Planner" "keptMinutes" "[I", .fieldLink RX9 198 "VatHouse$Planner" "keptShades" "[I"] ++ wsX90 ++ wsX10 ++ (xN RX9 153).filter goodWord)
noncomputable def wsX10_init_r1 : List Cond := [Cond.methodLink RX10 1 objectInit, Cond.instanceMethod objectInit, Cond.code objectInit ⟨#[0xb1]⟩ 1 none, Cond.arrayClass .int, Cond.fieldLink RX10 7 "VatHouseModel" "grains" "[I", Cond.fieldLink RX10 13 "VatHouseModel" "food" "[I", Cond.fieldLink RX10 16 "VatHouseModel" "minutes" "[I", Cond.fieldLink RX10 19 "VatHouseModel" "state" "[I", Cond.fieldLink RX10 22 "VatHouseModel" "dips" "[I", Cond.fieldLink RX10 25 "VatHouseModel" "dyed" "[I", Cond.arrayClass .boolean, Cond.fieldLink RX10 28 "VatHouseModel" "isDipped" "[Z", Cond.fieldLink RX10 32 "VatHouseModel" "wasDipped" "[Z", Cond.fieldLink RX10 35 "VatHouseModel" "weight" "[I", Cond.fieldLink RX10 38 "VatHouseModel" "loose" "[I", Cond.fieldLink RX10 41 "VatHouseModel" "fast" "[I", Cond.fieldLink RX10 44 "VatHouseModel" "day" "[I", Cond.fieldLink RX10 47 "VatHouseModel" "vats" "[I", Cond.fieldLink RX10 50 "VatHouseModel" "often" "[I", Cond.fieldLink RX10 53 "VatHouseModel" "tape" "[I", Cond.fieldLink RX10 56 "VatHouseModel" "faultPlace" "I", Cond.fieldLink RX10 60 "VatHouseModel" "kind" "[I", Cond.fieldLink RX10 63 "VatHouseModel" "one" "[I", Cond.fieldLink RX10 66 "VatHouseModel" "two" "[I"]
noncomputable def wsX10_init_r2 : List Cond := [Cond.fieldLink RX10 69 "VatHouseModel" "look" "[I", Cond.fieldLink RX10 72 "VatHouseModel" "sign" "[I", Cond.fieldLink RX10 75 "VatHouseModel" "inner" "[I", Cond.fieldLink RX10 78 "VatHouseModel" "other" "[I", Cond.fieldLink RX10 81 "VatHouseModel" "next" "[I", Cond.fieldLink RX10 84 "VatHouseModel" "first" "[I", Cond.fieldLink RX10 87 "VatHouseModel" "many" "[I", Cond.fieldLink RX10 90 "VatHouseModel" "ran" "I", Cond.fieldLink RX10 93 "VatHouseModel" "keptVat" "[I", Cond.fieldLink RX10 96 "VatHouseModel" "keptMinutes" "[I", Cond.fieldLink RX10 99 "VatHouseModel" "keptShade" "[I", Cond.fieldLink RX10 102 "VatHouseModel" "then" "[I"]
noncomputable def wsX10_init : List Cond := .code yX10_init cX10_init 2 none :: ((wsX10_init_r1 ++ wsX10_init_r2) ++ wsX100)
noncomputable def wsX10_thrown : List Cond := .code yX10_thrown cX10_thrown 1 (some .int) :: ([.fieldLink RX10 105 "VatHouseModel" "thrown" "I"] ++ wsX100)
noncomputable def wsX10_right : List Cond := .code yX10_right cX10_right 3 (some .boolean) :: ([.fieldLink RX10 105 "VatHouseModel" "thrown" "I"] ++ wsX100)
noncomputable def wsX10_isVat : List Cond := .code yX10_isVat cX10_isVat 2 (some .boolean) :: ([.fieldLink RX10 105 "VatHouseModel" "thrown" "I", .methodLink RX10 108 yX10_right, .instanceMethod yX10_right, .selects RX10 yX10_right yX10_right, .initialized RX10, .code yX10_right cX10_right 3 (some .boolean)] ++ wsX100)
noncomputable def wsX10_isCloth : List Cond := .code yX10_isCloth cX10_isCloth 2 (some .boolean) :: ([.fieldLink RX10 105 "VatHouseModel" "thrown" "I", .fieldLink RX10 112 "VatHouseModel" "cloths" "I", .methodLink RX10 108 yX10_right, .instanceMethod yX10_right, .selects RX10 yX10_right yX10_right, .initialized RX10, .code yX10_right cX10_right 3 (some .boolean)] ++ wsX100)
noncomputable def wsX10_isDry : List Cond := .code yX10_isDry cX10_isDry 2 (some .boolean) :: ([.fieldLink RX10 44 "VatHouseModel" "day" "[I"] ++ wsX100)
noncomputable def wsX10_shadeOf : List Cond := .code yX10_shadeOf cX10_shadeOf 2 (some .int) :: ([.fieldLink RX10 41 "VatHouseModel" "fast" "[I", .fieldLink RX10 35 "VatHouseModel" "weight" "[I"] ++ wsX100)
noncomputable def wsX10_charge : List Cond := .code yX10_charge cX10_charge 3 (some .int) :: ([.constant RX10 119 (1000000), .fieldLink RX10 7 "VatHouseModel" "grains" "[I", .fieldLink RX10 120 "VatHouseModel" "put" "I", .methodLink RX10 115 yX10_isVat, .instanceMethod yX10_isVat, .selects RX10 yX10_isVat yX10_isVat, .initialized RX10, .code yX10_isVat cX10_isVat 2 (some .boolean), .fieldLink RX10 105 "VatHouseModel" "thrown" "I", .methodLink RX10 108 yX10_right, .instanceMethod yX10_right, .selects RX10 yX10_right yX10_right, .code yX10_right cX10_right 3 (some .boolean)] ++ wsX100)
noncomputable def wsX10_feeds : List Cond := .code yX10_feeds cX10_feeds 3 (some .boolean) :: ([.fieldLink RX10 13 "VatHouseModel" "food" "[I", .fieldLink RX10 19 "VatHouseModel" "state" "[I"] ++ wsX100)
noncomputable def wsX10_feed : List Cond := .code yX10_feed cX10_feed 3 (some .int) :: ([.fieldLink RX10 19 "VatHouseModel" "state" "[I", .methodLink RX10 115 yX10_isVat, .instanceMethod yX10_isVat, .selects RX10 yX10_isVat yX10_isVat, .initialized RX10, .code yX10_isVat cX10_isVat 2 (some .boolean), .fieldLink RX10 105 "VatHouseModel" "thrown" "I", .methodLink RX10 108 yX10_right, .instanceMethod yX10_right, .selects RX10 yX10_right yX10_right, .code yX10_right cX10_right 3 (some .boolean), .methodLink RX10 123 yX10_feeds, .instanceMethod yX10_feeds, .selects RX10 yX10_feeds yX10_feeds, .code yX10_feeds cX10_feeds 3 (some .boolean), .fieldLink RX10 13 "VatHouseModel" "food" "[I"] ++ wsX100)
noncomputable def wsX10_limes : List Cond := .code yX10_limes cX10_limes 2 none :: ([.fieldLink RX10 19 "VatHouseModel" "state" "[I", .fieldLink RX10 16 "VatHouseModel" "minutes" "[I", .fieldLink RX10 13 "VatHouseModel" "food" "[I"] ++ wsX100)
noncomputable def wsX10_lime : List Cond := .code yX10_lime cX10_lime 2 (some .int) :: ([.fieldLink RX10 19 "VatHouseModel" "state" "[I", .methodLink RX10 115 yX10_isVat, .instanceMethod yX10_isVat, .selects RX10 yX10_isVat yX10_isVat, .initialized RX10, .code yX10_isVat cX10_isVat 2 (some .boolean), .fieldLink RX10 105 "VatHouseModel" "thrown" "I", .methodLink RX10 108 yX10_right, .instanceMethod yX10_right, .selects RX10 yX10_right yX10_right, .code yX10_right cX10_right 3 (some .boolean), .methodLink RX10 127 yX10_limes, .instanceMethod yX10_limes, .selects RX10 yX10_limes yX10_limes, .code yX10_limes cX10_limes 2 none, .fieldLink RX10 16 "VatHouseModel" "minutes" "[I", .fieldLink RX10 13 "VatHouseModel" "food" "[I"] ++ wsX100)
noncomputable def wsX10_cloth : List Cond := .code yX10_cloth cX10_cloth 2 (some .int) :: ([.fieldLink RX10 105 "VatHouseModel" "thrown" "I", .fieldLink RX10 112 "VatHouseModel" "cloths" "I", .fieldLink RX10 35 "VatHouseModel" "weight" "[I"] ++ wsX100)
noncomputable def wsX10_moves : List Cond := .code yX10_moves cX10_moves 6 (some .int) :: ([.fieldLink RX10 7 "VatHouseModel" "grains" "[I", .fieldLink RX10 35 "VatHouseModel" "weight" "[I", .fieldLink RX10 19 "VatHouseModel" "state" "[I", .fieldLink RX10 38 "VatHouseModel" "loose" "[I", .fieldLink RX10 41 "VatHouseModel" "fast" "[I"] ++ wsX100)
noncomputable def wsX10_airs : List Cond := .code yX10_airs cX10_airs 3 (some .int) :: ([.fieldLink RX10 38 "VatHouseModel" "loose" "[I", .fieldLink RX10 41 "VatHouseModel" "fast" "[I", .fieldLink RX10 149 "VatHouseModel" "drain" "I"] ++ wsX100)
noncomputable def wsX10_washes : List Cond := .code yX10_washes cX10_washes 3 (some .int) :: ([.fieldLink RX10 38 "VatHouseModel" "loose" "[I", .fieldLink RX10 41 "VatHouseModel" "fast" "[I", .fieldLink RX10 149 "VatHouseModel" "drain" "I"] ++ wsX100)
noncomputable def wsX10_treat_r1 : List Cond := [Cond.fieldLink RX10 44 "VatHouseModel" "day" "[I", Cond.fieldLink RX10 131 "VatHouseModel" "hours" "I", Cond.methodLink RX10 141 yX10_isCloth, Cond.instanceMethod yX10_isCloth, Cond.selects RX10 yX10_isCloth yX10_isCloth, Cond.initialized RX10, Cond.code yX10_isCloth cX10_isCloth 2 (some .boolean), Cond.fieldLink RX10 105 "VatHouseModel" "thrown" "I", Cond.fieldLink RX10 112 "VatHouseModel" "cloths" "I", Cond.methodLink RX10 108 yX10_right, Cond.instanceMethod yX10_right, Cond.selects RX10 yX10_right yX10_right, Cond.code yX10_right cX10_right 3 (some .boolean), Cond.methodLink RX10 144 yX10_isDry, Cond.instanceMethod yX10_isDry, Cond.selects RX10 yX10_isDry yX10_isDry, Cond.code yX10_isDry cX10_isDry 2 (some .boolean), Cond.methodLink RX10 152 yX10_washes, Cond.instanceMethod yX10_washes, Cond.selects RX10 yX10_washes yX10_washes, Cond.code yX10_washes cX10_washes 3 (some .int), Cond.fieldLink RX10 38 "VatHouseModel" "loose" "[I", Cond.fieldLink RX10 41 "VatHouseModel" "fast" "[I", Cond.fieldLink RX10 149 "VatHouseModel" "drain" "I"]
noncomputable def wsX10_treat_r2 : List Cond := [Cond.methodLink RX10 156 yX10_airs, Cond.instanceMethod yX10_airs, Cond.selects RX10 yX10_airs yX10_airs, Cond.code yX10_airs cX10_airs 3 (some .int)]
noncomputable def wsX10_treat : List Cond := .code yX10_treat cX10_treat 4 (some .int) :: ((wsX10_treat_r1 ++ wsX10_treat_r2) ++ wsX100)
noncomputable def wsX10_keeps : List Cond := .code yX10_keeps cX10_keeps 5 none :: ([.fieldLink RX10 102 "VatHouseModel" "then" "[I", .fieldLink RX10 7 "VatHouseModel" "grains" "[I", .fieldLink RX10 13 "VatHouseModel" "food" "[I", .fieldLink RX10 16 "VatHouseModel" "minutes" "[I", .fieldLink RX10 19 "VatHouseModel" "state" "[I", .fieldLink RX10 38 "VatHouseModel" "loose" "[I", .fieldLink RX10 41 "VatHouseModel" "fast" "[I"] ++ wsX100)
noncomputable def wsX10_restores : List Cond := .code yX10_restores cX10_restores 5 none :: ([.fieldLink RX10 7 "VatHouseModel" "grains" "[I", .fieldLink RX10 102 "VatHouseModel" "then" "[I", .fieldLink RX10 13 "VatHouseModel" "food" "[I", .fieldLink RX10 16 "VatHouseModel" "minutes" "[I", .fieldLink RX10 19 "VatHouseModel" "state" "[I", .fieldLink RX10 38 "VatHouseModel" "loose" "[I", .fieldLink RX10 41 "VatHouseModel" "fast" "[I"] ++ wsX100)
noncomputable def wsX10_thinks : List Cond := .code yX10_thinks cX10_thinks 5 none :: ([.fieldLink RX10 7 "VatHouseModel" "grains" "[I", .fieldLink RX10 38 "VatHouseModel" "loose" "[I", .fieldLink RX10 16 "VatHouseModel" "minutes" "[I", .fieldLink RX10 19 "VatHouseModel" "state" "[I", .fieldLink RX10 13 "VatHouseModel" "food" "[I", .fieldLink RX10 41 "VatHouseModel" "fast" "[I", .methodLink RX10 137 yX10_moves, .instanceMethod yX10_moves, .selects RX10 yX10_moves yX10_moves, .initialized RX10, .code yX10_moves cX10_moves 6 (some .int), .fieldLink RX10 35 "VatHouseModel" "weight" "[I"] ++ wsX100)
noncomputable def wsX10_leads_r1 : List Cond := [Cond.fieldLink RX10 38 "VatHouseModel" "loose" "[I", Cond.fieldLink RX10 19 "VatHouseModel" "state" "[I", Cond.fieldLink RX10 93 "VatHouseModel" "keptVat" "[I", Cond.fieldLink RX10 96 "VatHouseModel" "keptMinutes" "[I", Cond.fieldLink RX10 99 "VatHouseModel" "keptShade" "[I", Cond.methodLink RX10 322 yX10_shadeOf, Cond.instanceMethod yX10_shadeOf, Cond.selects RX10 yX10_shadeOf yX10_shadeOf, Cond.initialized RX10, Cond.code yX10_shadeOf cX10_shadeOf 2 (some .int), Cond.fieldLink RX10 41 "VatHouseModel" "fast" "[I", Cond.fieldLink RX10 35 "VatHouseModel" "weight" "[I", Cond.methodLink RX10 331 yX10_keeps, Cond.instanceMethod yX10_keeps, Cond.selects RX10 yX10_keeps yX10_keeps, Cond.code yX10_keeps cX10_keeps 5 none, Cond.fieldLink RX10 102 "VatHouseModel" "then" "[I", Cond.fieldLink RX10 7 "VatHouseModel" "grains" "[I", Cond.fieldLink RX10 13 "VatHouseModel" "food" "[I", Cond.fieldLink RX10 16 "VatHouseModel" "minutes" "[I", Cond.methodLink RX10 137 yX10_moves, Cond.instanceMethod yX10_moves, Cond.selects RX10 yX10_moves yX10_moves, Cond.code yX10_moves cX10_moves 6 (some .int)]
noncomputable def wsX10_leads_r2 : List Cond := [Cond.methodLink RX10 335 yX10_thinks, Cond.instanceMethod yX10_thinks, Cond.selects RX10 yX10_thinks yX10_thinks, Cond.code yX10_thinks cX10_thinks 5 none, Cond.methodLink RX10 339 yX10_leads, Cond.instanceMethod yX10_leads, Cond.selects RX10 yX10_leads yX10_leads, Cond.methodLink RX10 343 yX10_restores, Cond.instanceMethod yX10_restores, Cond.selects RX10 yX10_restores yX10_restores, Cond.code yX10_restores cX10_restores 5 none]
noncomputable def wsX10_leads : List Cond := .code yX10_leads cX10_leads 9 (some .boolean) :: ((wsX10_leads_r1 ++ wsX10_leads_r2) ++ wsX100)
noncomputable def wsX10_plan_r1 : List Cond := [Cond.fieldLink RX10 346 "VatHouseModel" "kept" "I", Cond.methodLink RX10 141 yX10_isCloth, Cond.instanceMethod yX10_isCloth, Cond.selects RX10 yX10_isCloth yX10_isCloth, Cond.initialized RX10, Cond.code yX10_isCloth cX10_isCloth 2 (some .boolean), Cond.fieldLink RX10 105 "VatHouseModel" "thrown" "I", Cond.fieldLink RX10 112 "VatHouseModel" "cloths" "I", Cond.methodLink RX10 108 yX10_right, Cond.instanceMethod yX10_right, Cond.selects RX10 yX10_right yX10_right, Cond.code yX10_right cX10_right 3 (some .boolean), Cond.methodLink RX10 144 yX10_isDry, Cond.instanceMethod yX10_isDry, Cond.selects RX10 yX10_isDry yX10_isDry, Cond.code yX10_isDry cX10_isDry 2 (some .boolean), Cond.fieldLink RX10 44 "VatHouseModel" "day" "[I", Cond.methodLink RX10 339 yX10_leads, Cond.instanceMethod yX10_leads, Cond.selects RX10 yX10_leads yX10_leads, Cond.code yX10_leads cX10_leads 9 (some .boolean), Cond.fieldLink RX10 38 "VatHouseModel" "loose" "[I", Cond.fieldLink RX10 19 "VatHouseModel" "state" "[I", Cond.fieldLink RX10 93 "VatHouseModel" "keptVat" "[I"]
noncomputable def wsX10_plan_r2 : List Cond := [Cond.fieldLink RX10 96 "VatHouseModel" "keptMinutes" "[I", Cond.fieldLink RX10 99 "VatHouseModel" "keptShade" "[I", Cond.methodLink RX10 322 yX10_shadeOf, Cond.instanceMethod yX10_shadeOf, Cond.selects RX10 yX10_shadeOf yX10_shadeOf, Cond.code yX10_shadeOf cX10_shadeOf 2 (some .int), Cond.fieldLink RX10 41 "VatHouseModel" "fast" "[I", Cond.fieldLink RX10 35 "VatHouseModel" "weight" "[I", Cond.methodLink RX10 331 yX10_keeps, Cond.instanceMethod yX10_keeps, Cond.selects RX10 yX10_keeps yX10_keeps, Cond.code yX10_keeps cX10_keeps 5 none, Cond.fieldLink RX10 102 "VatHouseModel" "then" "[I", Cond.fieldLink RX10 7 "VatHouseModel" "grains" "[I", Cond.fieldLink RX10 13 "VatHouseModel" "food" "[I", Cond.fieldLink RX10 16 "VatHouseModel" "minutes" "[I", Cond.methodLink RX10 137 yX10_moves, Cond.instanceMethod yX10_moves, Cond.selects RX10 yX10_moves yX10_moves, Cond.code yX10_moves cX10_moves 6 (some .int), Cond.methodLink RX10 335 yX10_thinks, Cond.instanceMethod yX10_thinks, Cond.selects RX10 yX10_thinks yX10_thinks, Cond.code yX10_thinks cX10_thinks 5 none]
noncomputable def wsX10_plan_r3 : List Cond := [Cond.methodLink RX10 343 yX10_restores, Cond.instanceMethod yX10_restores, Cond.selects RX10 yX10_restores yX10_restores, Cond.code yX10_restores cX10_restores 5 none]
noncomputable def wsX10_plan : List Cond := .code yX10_plan cX10_plan 6 (some .int) :: ((wsX10_plan_r1 ++ (wsX10_plan_r2 ++ wsX10_plan_r3)) ++ wsX100)
noncomputable def wsX10_planned : List Cond := .code yX10_planned cX10_planned 3 (some .int) :: ([.fieldLink RX10 105 "VatHouseModel" "thrown" "I", .fieldLink RX10 346 "VatHouseModel" "kept" "I", .fieldLink RX10 93 "VatHouseModel" "keptVat" "[I", .fieldLink RX10 96 "VatHouseModel" "keptMinutes" "[I", .fieldLink RX10 99 "VatHouseModel" "keptShade" "[I", .methodLink RX10 108 yX10_right, .instanceMethod yX10_right, .selects RX10 yX10_right yX10_right, .initialized RX10, .code yX10_right cX10_right 3 (some .boolean)] ++ wsX100)
noncomputable def wsL_charge : List Cond := .codeWith yL_charge cL_charge 5 (some .int) [(0, 10, 13, 13)] :: ([.classLink RL 13 "java/util/NoSuchElementException", .methodLink RL 7 yX9_charge, .instanceMethod yX9_charge, .selects RX9 yX9_charge yX9_charge, .initialized RX9, .code yX9_charge cX9_charge 4 (some .int), .fieldLink RX9 10 "VatHouse" "works" "LVatHouse$Works;", .constant RX9 61 (1000000), .fieldLink RX9 62 "VatHouse$Vat" "grains" "I", .fieldLink RX9 68 "VatHouse" "grainsPutIn" "I", .methodLink RX9 57 yX8_vatAt, .instanceMethod yX8_vatAt, .selects RX8 yX8_vatAt yX8_vatAt, .initialized RX8, .code yX8_vatAt cX8_vatAt 2 (some (.object "VatHouse$Vat")), .classLink RX8 20 "java/util/NoSuchElementException", .initialized "java/util/NoSuchElementException", .fieldLink RX8 11 "VatHouse$Works" "vats" "[LVatHouse$Vat;"] ++ wsX90 ++ wsX70 ++ wsX80 ++ (xN RX8 24).filter goodWord)
noncomputable def wsL_feed_r1 : List Cond := [Cond.classLink RL 13 "java/util/NoSuchElementException", Cond.classLink RL 18 "java/lang/IllegalArgumentException", Cond.methodLink RL 15 yX9_feed, Cond.instanceMethod yX9_feed, Cond.selects RX9 yX9_feed yX9_feed, Cond.initialized RX9, Cond.code yX9_feed cX9_feed 4 (some .int), Cond.fieldLink RX9 10 "VatHouse" "works" "LVatHouse$Works;", Cond.fieldLink RX9 79 "VatHouse$Vat" "state" "I", Cond.methodLink RX9 57 yX8_vatAt, Cond.instanceMethod yX8_vatAt, Cond.selects RX8 yX8_vatAt yX8_vatAt, Cond.initialized RX8, Cond.code yX8_vatAt cX8_vatAt 2 (some (.object "VatHouse$Vat")), Cond.classLink RX8 20 "java/util/NoSuchElementException", Cond.initialized "java/util/NoSuchElementException", Cond.fieldLink RX8 11 "VatHouse$Works" "vats" "[LVatHouse$Vat;", Cond.methodLink RX9 71 yX9_demand, Cond.static yX9_demand, Cond.code yX9_demand cX9_demand 1 none, Cond.classLink RX9 252 "java/lang/IllegalArgumentException", Cond.initialized "java/lang/IllegalArgumentException", Cond.methodLink RX9 75 yX7_takeFood, Cond.instanceMethod yX7_takeFood]
noncomputable def wsL_feed_r2 : List Cond := [Cond.selects RX7 yX7_takeFood yX7_takeFood, Cond.initialized RX7, Cond.code yX7_takeFood cX7_takeFood 2 (some .boolean), Cond.fieldLink RX7 45 "VatHouse$Vat" "food" "I", Cond.fieldLink RX7 9 "VatHouse$Vat" "state" "I"]
noncomputable def wsL_feed : List Cond := .codeWith yL_feed cL_feed 5 (some .int) [(0, 10, 13, 13), (0, 10, 17, 18)] :: ((wsL_feed_r1 ++ wsL_feed_r2) ++ wsX90 ++ wsX70 ++ wsX80 ++ (xN RX8 24).filter goodWord ++ (xI RX9 256).filter goodWord)
noncomputable def wsL_lime : List Cond := .codeWith yL_lime cL_lime 4 (some .int) [(0, 9, 12, 13)] :: ([.classLink RL 13 "java/util/NoSuchElementException", .methodLink RL 20 yX9_lime, .instanceMethod yX9_lime, .selects RX9 yX9_lime yX9_lime, .initialized RX9, .code yX9_lime cX9_lime 3 (some .int), .fieldLink RX9 10 "VatHouse" "works" "LVatHouse$Works;", .fieldLink RX9 79 "VatHouse$Vat" "state" "I", .methodLink RX9 57 yX8_vatAt, .instanceMethod yX8_vatAt, .selects RX8 yX8_vatAt yX8_vatAt, .initialized RX8, .code yX8_vatAt cX8_vatAt 2 (some (.object "VatHouse$Vat")), .classLink RX8 20 "java/util/NoSuchElementException", .initialized "java/util/NoSuchElementException", .fieldLink RX8 11 "VatHouse$Works" "vats" "[LVatHouse$Vat;", .methodLink RX9 82 yX7_takeLime, .instanceMethod yX7_takeLime, .selects RX7 yX7_takeLime yX7_takeLime, .initialized RX7, .code yX7_takeLime cX7_takeLime 1 none, .fieldLink RX7 9 "VatHouse$Vat" "state" "I", .fieldLink RX7 42 "VatHouse$Vat" "minutes" "I", .fieldLink RX7 45 "VatHouse$Vat" "food" "I"] ++ wsX90 ++ wsX70 ++ wsX80 ++ (xN RX8 24).filter goodWord)
noncomputable def wsL_treat_r1 : List Cond := [Cond.classLink RL 13 "java/util/NoSuchElementException", Cond.classLink RL 18 "java/lang/IllegalArgumentException", Cond.methodLink RL 31 yX9_treat, Cond.instanceMethod yX9_treat, Cond.selects RX9 yX9_treat yX9_treat, Cond.initialized RX9, Cond.code yX9_treat cX9_treat 4 (some .int), Cond.fieldLink RX9 102 "VatHouse$Cloth" "dry" "Z", Cond.fieldLink RX9 10 "VatHouse" "works" "LVatHouse$Works;", Cond.methodLink RX9 98 yX9_clothAt, Cond.instanceMethod yX9_clothAt, Cond.selects RX9 yX9_clothAt yX9_clothAt, Cond.code yX9_clothAt cX9_clothAt 3 (some (.object "VatHouse$Cloth")), Cond.classLink RX9 149 "java/util/NoSuchElementException", Cond.initialized "java/util/NoSuchElementException", Cond.fieldLink RX9 92 "VatHouse" "clothsMade" "I", Cond.fieldLink RX9 18 "VatHouse" "cloths" "[LVatHouse$Cloth;", Cond.methodLink RX9 71 yX9_demand, Cond.static yX9_demand, Cond.code yX9_demand cX9_demand 1 none, Cond.classLink RX9 252 "java/lang/IllegalArgumentException", Cond.initialized "java/lang/IllegalArgumentException", Cond.methodLink RX9 114 yX8_airOut, Cond.instanceMethod yX8_airOut]
noncomputable def wsL_treat_r2 : List Cond := [Cond.selects RX8 yX8_airOut yX8_airOut, Cond.initialized RX8, Cond.code yX8_airOut cX8_airOut 3 (some .int), Cond.fieldLink RX8 58 "VatHouse$Works" "drain" "I", Cond.methodLink RX8 54 yX0_loseByAir, Cond.instanceMethod yX0_loseByAir, Cond.selects RX0 yX0_loseByAir yX0_loseByAir, Cond.initialized RX0, Cond.code yX0_loseByAir cX0_loseByAir 2 (some .int), Cond.fieldLink RX0 24 "VatHouse$Cloth" "loose" "I", Cond.fieldLink RX0 21 "VatHouse$Cloth" "fast" "I", Cond.methodLink RX9 118 yX8_washOut, Cond.instanceMethod yX8_washOut, Cond.selects RX8 yX8_washOut yX8_washOut, Cond.code yX8_washOut cX8_washOut 3 (some .int), Cond.methodLink RX8 61 yX0_loseByWash, Cond.instanceMethod yX0_loseByWash, Cond.selects RX0 yX0_loseByWash yX0_loseByWash, Cond.code yX0_loseByWash cX0_loseByWash 3 (some .int), Cond.methodLink RX9 121 yX8_dryOut, Cond.instanceMethod yX8_dryOut, Cond.selects RX8 yX8_dryOut yX8_dryOut, Cond.code yX8_dryOut cX8_dryOut 3 (some .int), Cond.fieldLink RX8 68 "VatHouse$Cloth" "dry" "Z"]
noncomputable def wsL_treat_r3 : List Cond := [Cond.fieldLink RX8 31 "VatHouse$Works" "hours" "I", Cond.fieldLink RX8 72 "VatHouse$Cloth" "day" "I", Cond.methodLink RX8 64 yX8_airOut]
noncomputable def wsL_treat : List Cond := .codeWith yL_treat cL_treat 5 (some .int) [(0, 10, 13, 13), (0, 10, 17, 18)] :: ((wsL_treat_r1 ++ (wsL_treat_r2 ++ wsL_treat_r3)) ++ wsX00 ++ wsX90 ++ wsX80 ++ (xN RX9 153).filter goodWord ++ (xI RX9 256).filter goodWord)
noncomputable def wsL_plan_r1 : List Cond := [Cond.classLink RL 13 "java/util/NoSuchElementException", Cond.classLink RL 18 "java/lang/IllegalArgumentException", Cond.methodLink RL 46 yX9_plan, Cond.instanceMethod yX9_plan, Cond.selects RX9 yX9_plan yX9_plan, Cond.initialized RX9, Cond.code yX9_plan cX9_plan 6 (some .int), Cond.fieldLink RX9 102 "VatHouse$Cloth" "dry" "Z", Cond.fieldLink RX9 53 "VatHouse" "planner" "LVatHouse$Planner;", Cond.methodLink RX9 98 yX9_clothAt, Cond.instanceMethod yX9_clothAt, Cond.selects RX9 yX9_clothAt yX9_clothAt, Cond.code yX9_clothAt cX9_clothAt 3 (some (.object "VatHouse$Cloth")), Cond.classLink RX9 149 "java/util/NoSuchElementException", Cond.initialized "java/util/NoSuchElementException", Cond.fieldLink RX9 92 "VatHouse" "clothsMade" "I", Cond.fieldLink RX9 18 "VatHouse" "cloths" "[LVatHouse$Cloth;", Cond.methodLink RX9 71 yX9_demand, Cond.static yX9_demand, Cond.code yX9_demand cX9_demand 1 none, Cond.classLink RX9 252 "java/lang/IllegalArgumentException", Cond.initialized "java/lang/IllegalArgumentException", Cond.methodLink RX9 182 yX1_fewest, Cond.instanceMethod yX1_fewest]
noncomputable def wsL_plan_r2 : List Cond := [Cond.selects RX1 yX1_fewest yX1_fewest, Cond.initialized RX1, Cond.code yX1_fewest cX1_fewest 6 (some .int), Cond.fieldLink RX1 43 "VatHouse$Planner" "low" "I", Cond.fieldLink RX1 47 "VatHouse$Planner" "high" "I", Cond.fieldLink RX1 11 "VatHouse$Planner" "trialVats" "[LVatHouse$Vat;", Cond.fieldLink RX1 36 "VatHouse$Planner" "works" "LVatHouse$Works;", Cond.fieldLink RX1 22 "VatHouse$Planner" "trialCloth" "LVatHouse$Cloth;", Cond.fieldLink RX1 67 "VatHouse$Planner" "kept" "I", Cond.methodLink RX1 50 yX8_vatAt, Cond.instanceMethod yX8_vatAt, Cond.selects RX8 yX8_vatAt yX8_vatAt, Cond.initialized RX8, Cond.code yX8_vatAt cX8_vatAt 2 (some (.object "VatHouse$Vat")), Cond.classLink RX8 20 "java/util/NoSuchElementException", Cond.fieldLink RX8 11 "VatHouse$Works" "vats" "[LVatHouse$Vat;", Cond.methodLink RX1 56 yX7_copyFrom, Cond.instanceMethod yX7_copyFrom, Cond.selects RX7 yX7_copyFrom yX7_copyFrom, Cond.initialized RX7, Cond.code yX7_copyFrom cX7_copyFrom 2 none, Cond.fieldLink RX7 26 "VatHouse$Vat" "grains" "I", Cond.fieldLink RX7 45 "VatHouse$Vat" "food" "I", Cond.fieldLink RX7 42 "VatHouse$Vat" "minutes" "I"]
noncomputable def wsL_plan_r3 : List Cond := [Cond.fieldLink RX7 9 "VatHouse$Vat" "state" "I", Cond.methodLink RX1 60 yX0_copyFrom, Cond.instanceMethod yX0_copyFrom, Cond.selects RX0 yX0_copyFrom yX0_copyFrom, Cond.initialized RX0, Cond.code yX0_copyFrom cX0_copyFrom 2 none, Cond.fieldLink RX0 18 "VatHouse$Cloth" "weight" "I", Cond.fieldLink RX0 24 "VatHouse$Cloth" "loose" "I", Cond.fieldLink RX0 21 "VatHouse$Cloth" "fast" "I", Cond.methodLink RX1 63 yX1_reaches, Cond.instanceMethod yX1_reaches, Cond.selects RX1 yX1_reaches yX1_reaches, Cond.code yX1_reaches cX1_reaches 5 (some .boolean), Cond.fieldLink RX1 70 "VatHouse$Cloth" "loose" "I", Cond.methodLink RX1 73 yX0_shade, Cond.instanceMethod yX0_shade, Cond.selects RX0 yX0_shade yX0_shade, Cond.code yX0_shade cX0_shade 1 (some .int), Cond.methodLink RX1 77 yX1_reachesBy, Cond.instanceMethod yX1_reachesBy, Cond.selects RX1 yX1_reachesBy yX1_reachesBy, Cond.code yX1_reachesBy cX1_reachesBy 13 (some .boolean), Cond.fieldLink RX1 85 "VatHouse$Vat" "grains" "I", Cond.fieldLink RX1 88 "VatHouse$Vat" "food" "I"]
noncomputable def wsL_plan_r4 : List Cond := [Cond.fieldLink RX1 91 "VatHouse$Vat" "minutes" "I", Cond.fieldLink RX1 94 "VatHouse$Vat" "state" "I", Cond.fieldLink RX1 97 "VatHouse$Cloth" "fast" "I", Cond.fieldLink RX1 26 "VatHouse$Planner" "keptVats" "[I", Cond.fieldLink RX1 107 "VatHouse$Vat" "number" "I", Cond.fieldLink RX1 30 "VatHouse$Planner" "keptMinutes" "[I", Cond.fieldLink RX1 33 "VatHouse$Planner" "keptShades" "[I", Cond.methodLink RX1 81 yX7_givesTo, Cond.instanceMethod yX7_givesTo, Cond.selects RX7 yX7_givesTo yX7_givesTo, Cond.code yX7_givesTo cX7_givesTo 5 (some .int), Cond.fieldLink RX7 21 "VatHouse$Cloth" "weight" "I", Cond.methodLink RX7 33 Lib.Math.min.name, Cond.static Lib.Math.min.name, Cond.initialized "java/lang/Math", Cond.code Lib.Math.min.name Lib.Math.min.code 2 (some .int), Cond.methodLink RX7 29 yX0_room, Cond.instanceMethod yX0_room, Cond.selects RX0 yX0_room yX0_room, Cond.code yX0_room cX0_room 1 (some .int), Cond.methodLink RX1 100 yX7_soak, Cond.instanceMethod yX7_soak, Cond.selects RX7 yX7_soak yX7_soak, Cond.code yX7_soak cX7_soak 4 none]
noncomputable def wsL_plan_r5 : List Cond := [Cond.fieldLink RX7 39 "VatHouse$Cloth" "loose" "I", Cond.methodLink RX1 104 yX0_loseByAir, Cond.instanceMethod yX0_loseByAir, Cond.selects RX0 yX0_loseByAir yX0_loseByAir, Cond.code yX0_loseByAir cX0_loseByAir 2 (some .int)]
noncomputable def wsL_plan : List Cond := .codeWith yL_plan cL_plan 7 (some .int) [(0, 14, 17, 13), (0, 14, 21, 18)] :: ((wsL_plan_r1 ++ (wsL_plan_r2 ++ (wsL_plan_r3 ++ (wsL_plan_r4 ++ wsL_plan_r5)))) ++ wsX00 ++ wsX90 ++ wsX10 ++ wsX80 ++ wsX70 ++ (xN RX9 153).filter goodWord ++ (xI RX9 256).filter goodWord ++ (xN RX8 24).filter goodWord)
noncomputable def wsL_planned : List Cond := .codeWith yL_planned cL_planned 5 (some .int) [(0, 10, 13, 13)] :: ([.classLink RL 13 "java/util/NoSuchElementException", .methodLink RL 50 yX9_planned, .instanceMethod yX9_planned, .selects RX9 yX9_planned yX9_planned, .initialized RX9, .code yX9_planned cX9_planned 3 (some .int), .classLink RX9 149 "java/util/NoSuchElementException", .initialized "java/util/NoSuchElementException", .fieldLink RX9 53 "VatHouse" "planner" "LVatHouse$Planner;", .fieldLink RX9 186 "VatHouse$Planner" "kept" "I", .fieldLink RX9 191 "VatHouse$Planner" "keptVats" "[I", .fieldLink RX9 195 "VatHouse$Planner" "keptMinutes" "[I", .fieldLink RX9 198 "VatHouse$Planner" "keptShades" "[I"] ++ wsX90 ++ wsX10 ++ (xN RX9 153).filter goodWord)
noncomputable abbrev vwCl : List vw_C := [(RX0, TX0, 8), (RX1, TX1, 9), (RX2, TX2, 6), (RX3, TX3, 1), (RX4, TX4, 8), (RX5, TX5, 8), (RX6, TX6, 7), (RX7, TX7, 8), (RX8, TX8, 3), (RX9, TX9, 11), (RX10, TX10, 51)]
