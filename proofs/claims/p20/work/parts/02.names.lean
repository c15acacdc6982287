theorem goodIn_r0 {big : List Cond} (ws : List Cond) (ps : List Nat) (hp : ws = ps.filterMap (fun i => big[i]?)) (h : ws.all goodWord = true) : GoodIn big ws := by
  intro w hw
  have hg := good_of_word (List.all_eq_true.mp h w hw)
  rw [hp] at hw
  obtain ⟨i, -, hi⟩ := List.mem_filterMap.mp hw
  exact ⟨List.mem_of_getElem? hi, hg⟩
theorem goodIn_app0 {big a b : List Cond} (ha : GoodIn big a) (hb : GoodIn big b) : GoodIn big (a ++ b) := fun w h => (List.mem_append.mp h).elim (ha w) (hb w)
def RX0 : String := "ApartCost"
def TX0 : u_T := fun k => match k with
  | 0 => ("ApartCost", "product", "LApartCost$Product;", true)
  | 1 => ("ApartCost", "planner", "LApartCost$Planner;", true)
  | 2 => ("ApartCost", "found", "LApartCost$Found;", true)
  | _ => ("ApartCost", "line", "LApartCost$Line;", true)
def tyX0 : Nat → FieldType := fun k => match k with
  | 0 => .object "ApartCost$Product"
  | 1 => .object "ApartCost$Planner"
  | 2 => .object "ApartCost$Found"
  | _ => .object "ApartCost$Line"
theorem nmX0 : ∀ a, a < 4 → ∀ b, b < 4 → a ≠ b → (TX0 a).2.1 ≠ (TX0 b).2.1 := by decide +kernel
theorem tyX0_ok : ∀ k, k < 4 → parseFieldDescriptor (TX0 k).2.2.1 = some (tyX0 k) := by decide +kernel
def RX1 : String := "ApartCost$Product"
def TX1 : u_T := fun k => match k with
  | 0 => ("ApartCost$Product", "acts", "I", false)
  | 1 => ("ApartCost$Product", "frees", "[I", true)
  | 2 => ("ApartCost$Product", "tools", "[I", true)
  | 3 => ("ApartCost$Product", "sides", "[I", true)
  | 4 => ("ApartCost$Product", "cents", "[J", true)
  | 5 => ("ApartCost$Product", "needs", "[I", true)
  | 6 => ("ApartCost$Product", "breaking", "I", false)
  | 7 => ("ApartCost$Product", "changes", "[J", true)
  | 8 => ("ApartCost$Product", "turns", "[J", true)
  | 9 => ("ApartCost$Product", "worths", "[J", true)
  | 10 => ("ApartCost$Product", "shares", "[J", true)
  | 11 => ("ApartCost$Product", "rests", "I", false)
  | 12 => ("ApartCost$Product", "restParts", "[I", true)
  | _ => ("ApartCost$Product", "restCents", "[J", true)
def tyX1 : Nat → FieldType := fun k => match k with
  | 0 => .int
  | 1 => .array .int
  | 2 => .array .int
  | 3 => .array .int
  | 4 => .array .long
  | 5 => .array .int
  | 6 => .int
  | 7 => .array .long
  | 8 => .array .long
  | 9 => .array .long
  | 10 => .array .long
  | 11 => .int
  | 12 => .array .int
  | _ => .array .long
theorem nmX1 : ∀ a, a < 14 → ∀ b, b < 14 → a ≠ b → (TX1 a).2.1 ≠ (TX1 b).2.1 := by decide +kernel
theorem tyX1_ok : ∀ k, k < 14 → parseFieldDescriptor (TX1 k).2.2.1 = some (tyX1 k) := by decide +kernel
def RX2 : String := "ApartCost$Planner"
def TX2 : u_T := fun k => match k with
  | 0 => ("ApartCost$Planner", "product", "LApartCost$Product;", true)
  | 1 => ("ApartCost$Planner", "values", "[J", true)
  | 2 => ("ApartCost$Planner", "steps", "[J", true)
  | _ => ("ApartCost$Planner", "most", "[J", true)
def tyX2 : Nat → FieldType := fun k => match k with
  | 0 => .object "ApartCost$Product"
  | 1 => .array .long
  | 2 => .array .long
  | _ => .array .long
theorem nmX2 : ∀ a, a < 4 → ∀ b, b < 4 → a ≠ b → (TX2 a).2.1 ≠ (TX2 b).2.1 := by decide +kernel
theorem tyX2_ok : ∀ k, k < 4 → parseFieldDescriptor (TX2 k).2.2.1 = some (tyX2 k) := by decide +kernel
def RX3 : String := "ApartCost$Found"
def TX3 : u_T := fun k => match k with
  | 0 => ("ApartCost$Found", "any", "Z", false)
  | 1 => ("ApartCost$Found", "upToDate", "Z", false)
  | 2 => ("ApartCost$Found", "length", "I", false)
  | 3 => ("ApartCost$Found", "set", "I", false)
  | 4 => ("ApartCost$Found", "free", "I", false)
  | 5 => ("ApartCost$Found", "total", "J", false)
  | 6 => ("ApartCost$Found", "row", "[I", true)
  | _ => ("ApartCost$Found", "brought", "[J", true)
def tyX3 : Nat → FieldType := fun k => match k with
  | 0 => .boolean
  | 1 => .boolean
  | 2 => .int
  | 3 => .int
  | 4 => .int
  | 5 => .long
  | 6 => .array .int
  | _ => .array .long
theorem nmX3 : ∀ a, a < 8 → ∀ b, b < 8 → a ≠ b → (TX3 a).2.1 ≠ (TX3 b).2.1 := by decide +kernel
theorem tyX3_ok : ∀ k, k < 8 → parseFieldDescriptor (TX3 k).2.2.1 = some (tyX3 k) := by decide +kernel
def RX4 : String := "ApartCost$Line"
def TX4 : u_T := fun k => match k with
  | 0 => ("ApartCost$Line", "told", "[I", true)
  | 1 => ("ApartCost$Line", "product", "LApartCost$Product;", true)
  | 2 => ("ApartCost$Line", "trial", "[I", true)
  | 3 => ("ApartCost$Line", "loads", "[J", true)
  | 4 => ("ApartCost$Line", "set", "I", false)
  | 5 => ("ApartCost$Line", "stations", "I", false)
  | 6 => ("ApartCost$Line", "longest", "J", false)
  | _ => ("ApartCost$Line", "least", "J", false)
def tyX4 : Nat → FieldType := fun k => match k with
  | 0 => .array .int
  | 1 => .object "ApartCost$Product"
  | 2 => .array .int
  | 3 => .array .long
  | 4 => .int
  | 5 => .int
  | 6 => .long
  | _ => .long
theorem nmX4 : ∀ a, a < 8 → ∀ b, b < 8 → a ≠ b → (TX4 a).2.1 ≠ (TX4 b).2.1 := by decide +kernel
theorem tyX4_ok : ∀ k, k < 8 → parseFieldDescriptor (TX4 k).2.2.1 = some (tyX4 k) := by decide +kernel
def RX5 : String := "ApartCostModel"
def TX5 : u_T := fun k => match k with
  | 0 => ("ApartCostModel", "count", "I", false)
  | 1 => ("ApartCostModel", "freed", "[I", true)
  | 2 => ("ApartCostModel", "tools", "[I", true)
  | 3 => ("ApartCostModel", "sides", "[I", true)
  | 4 => ("ApartCostModel", "costs", "[J", true)
  | 5 => ("ApartCostModel", "breaking", "[Z", true)
  | 6 => ("ApartCostModel", "needs", "[Z", true)
  | 7 => ("ApartCostModel", "changes", "[J", true)
  | 8 => ("ApartCostModel", "turns", "[J", true)
  | 9 => ("ApartCostModel", "worths", "[J", true)
  | 10 => ("ApartCostModel", "above", "[I", true)
  | 11 => ("ApartCostModel", "below", "[I", true)
  | 12 => ("ApartCostModel", "rests", "[I", true)
  | 13 => ("ApartCostModel", "restWorths", "[J", true)
  | 14 => ("ApartCostModel", "restCount", "I", false)
  | 15 => ("ApartCostModel", "row", "[I", true)
  | 16 => ("ApartCostModel", "length", "I", false)
  | 17 => ("ApartCostModel", "found", "J", false)
  | 18 => ("ApartCostModel", "brought", "[J", true)
  | 19 => ("ApartCostModel", "isFresh", "Z", false)
  | 20 => ("ApartCostModel", "openParts", "I", false)
  | 21 => ("ApartCostModel", "actsThen", "I", false)
  | 22 => ("ApartCostModel", "places", "[I", true)
  | 23 => ("ApartCostModel", "isShared", "Z", false)
  | 24 => ("ApartCostModel", "tested", "I", false)
  | 25 => ("ApartCostModel", "testedAs", "I", false)
  | 26 => ("ApartCostModel", "needed", "[I", true)
  | 27 => ("ApartCostModel", "least", "[J", true)
  | 28 => ("ApartCostModel", "values", "[J", true)
  | 29 => ("ApartCostModel", "tried", "[I", true)
  | _ => ("ApartCostModel", "behind", "[Z", true)
def tyX5 : Nat → FieldType := fun k => match k with
  | 0 => .int
  | 1 => .array .int
  | 2 => .array .int
  | 3 => .array .int
  | 4 => .array .long
  | 5 => .array .boolean
  | 6 => .array .boolean
  | 7 => .array .long
  | 8 => .array .long
  | 9 => .array .long
  | 10 => .array .int
  | 11 => .array .int
  | 12 => .array .int
  | 13 => .array .long
  | 14 => .int
  | 15 => .array .int
  | 16 => .int
  | 17 => .long
  | 18 => .array .long
  | 19 => .boolean
  | 20 => .int
  | 21 => .int
  | 22 => .array .int
  | 23 => .boolean
  | 24 => .int
  | 25 => .int
  | 26 => .array .int
  | 27 => .array .long
  | 28 => .array .long
  | 29 => .array .int
  | _ => .array .boolean
theorem nmX5 : ∀ a, a < 31 → ∀ b, b < 31 → a ≠ b → (TX5 a).2.1 ≠ (TX5 b).2.1 := by decide +kernel
theorem tyX5_ok : ∀ k, k < 31 → parseFieldDescriptor (TX5 k).2.2.1 = some (tyX5 k) := by decide +kernel
def RJI : String := "java/lang/Integer"
def RJA : String := "java/util/Arrays"
def RL : String := "ApartCostLaw"
abbrev vwCl : List vw_C := [(RX0, TX0, 4), (RX1, TX1, 14), (RX2, TX2, 4), (RX3, TX3, 8), (RX4, TX4, 8), (RX5, TX5, 31)]
def am_b0 : List Cond := [.selects "ApartCost$Product" ⟨"ApartCost$Product", "placeOfRest", "(I)I"⟩ ⟨"ApartCost$Product", "placeOfRest", "(I)I"⟩,
  .selects "ApartCost$Product" ⟨"ApartCost$Product", "neededBy", "(I)I"⟩ ⟨"ApartCost$Product", "neededBy", "(I)I"⟩,
  .selects "ApartCost$Planner" ⟨"ApartCost$Planner", "setSteps", "()V"⟩ ⟨"ApartCost$Planner", "setSteps", "()V"⟩,
  .selects "ApartCost$Planner" ⟨"ApartCost$Planner", "setMost", "(I)V"⟩ ⟨"ApartCost$Planner", "setMost", "(I)V"⟩,
  .selects "ApartCost$Planner" ⟨"ApartCost$Planner", "endOf", "(I)J"⟩ ⟨"ApartCost$Planner", "endOf", "(I)J"⟩,
  .selects "ApartCost$Planner" ⟨"ApartCost$Planner", "mostFrom", "(IIIJ)J"⟩ ⟨"ApartCost$Planner", "mostFrom", "(IIIJ)J"⟩,
  .selects "ApartCost$Planner" ⟨"ApartCost$Planner", "mostBy", "(III)J"⟩ ⟨"ApartCost$Planner", "mostBy", "(III)J"⟩,
  .selects "ApartCost$Found" ⟨"ApartCost$Found", "keepParts", "(LApartCost$Planner;)V"⟩ ⟨"ApartCost$Found", "keepParts", "(LApartCost$Planner;)V"⟩,
  .selects "ApartCost$Line" ⟨"ApartCost$Line", "setLimits", "()V"⟩ ⟨"ApartCost$Line", "setLimits", "()V"⟩,
  .selects "ApartCost$Line" ⟨"ApartCost$Line", "keepTrial", "(J)V"⟩ ⟨"ApartCost$Line", "keepTrial", "(J)V"⟩,
  .selects "ApartCost$Line" ⟨"ApartCost$Line", "latestFor", "(I)I"⟩ ⟨"ApartCost$Line", "latestFor", "(I)I"⟩,
  .selects "ApartCost$Line" ⟨"ApartCost$Line", "earliestFor", "(I)I"⟩ ⟨"ApartCost$Line", "earliestFor", "(I)I"⟩,
  .selects "ApartCostModel" ⟨"ApartCostModel", "isAct", "(I)Z"⟩ ⟨"ApartCostModel", "isAct", "(I)Z"⟩,
  .selects "ApartCostModel" ⟨"ApartCostModel", "leadsTo", "(II)Z"⟩ ⟨"ApartCostModel", "leadsTo", "(II)Z"⟩,
  .selects "ApartCostModel" ⟨"ApartCostModel", "isClosed", "(I)Z"⟩ ⟨"ApartCostModel", "isClosed", "(I)Z"⟩,
  .selects "ApartCostModel" ⟨"ApartCostModel", "reckonValues", "()V"⟩ ⟨"ApartCostModel", "reckonValues", "()V"⟩,
  .selects "ApartCostModel" ⟨"ApartCostModel", "valueOf", "(I)J"⟩ ⟨"ApartCostModel", "valueOf", "(I)J"⟩,
  .selects "ApartCostModel" ⟨"ApartCostModel", "bringsOf", "(II)J"⟩ ⟨"ApartCostModel", "bringsOf", "(II)J"⟩,
  .selects "ApartCostModel" ⟨"ApartCostModel", "restOf", "(I)I"⟩ ⟨"ApartCostModel", "restOf", "(I)I"⟩,
  .selects "ApartCostModel" ⟨"ApartCostModel", "bestFrom", "(IIJ)J"⟩ ⟨"ApartCostModel", "bestFrom", "(IIJ)J"⟩,
  .selects "ApartCostModel" ⟨"ApartCostModel", "canDo", "(II)Z"⟩ ⟨"ApartCostModel", "canDo", "(II)Z"⟩,
  .selects "ApartCostModel" ⟨"ApartCostModel", "stepCost", "(II)J"⟩ ⟨"ApartCostModel", "stepCost", "(II)J"⟩,
  .selects "ApartCostModel" ⟨"ApartCostModel", "spread", "(IIJ)V"⟩ ⟨"ApartCostModel", "spread", "(IIJ)V"⟩,
  .selects "ApartCostModel" ⟨"ApartCostModel", "isInRow", "(I)Z"⟩ ⟨"ApartCostModel", "isInRow", "(I)Z"⟩,
  .selects "ApartCostModel" ⟨"ApartCostModel", "bestWith", "(II)J"⟩ ⟨"ApartCostModel", "bestWith", "(II)J"⟩,
  .selects "ApartCostModel" ⟨"ApartCostModel", "keeps", "([I)Z"⟩ ⟨"ApartCostModel", "keeps", "([I)Z"⟩,
  .selects "ApartCostModel" ⟨"ApartCostModel", "longestOf", "([I)J"⟩ ⟨"ApartCostModel", "longestOf", "([I)J"⟩,
  .selects "ApartCostModel" ⟨"ApartCostModel", "next", "(I)Z"⟩ ⟨"ApartCostModel", "next", "(I)Z"⟩,
  (Jvm.Cond.initialized "ApartCostLaw"),
  (Jvm.Cond.initialized "ApartCost"),
  (Jvm.Cond.initialized "ApartCost$Product"),
  (Jvm.Cond.initialized "java/util/Arrays"),
  (Jvm.Cond.initialized "ApartCost$Planner"),
  (Jvm.Cond.initialized "ApartCost$Found"),
  (Jvm.Cond.initialized "ApartCost$Line"),
  (Jvm.Cond.initialized "ApartCostModel"),
  (Jvm.Cond.initialized "java/lang/Integer"),
  (Jvm.Cond.initialized "java/lang/Math"),
  (Jvm.Cond.classLink "ApartCostLaw" (7 : Nat) "ApartCost"),
  (Jvm.Cond.instantiable "ApartCost" (4 : Nat)),
  (Jvm.Cond.methodLink "ApartCostLaw" (9 : Nat) ({ cls := "ApartCost", name := "<init>", desc := "()V" } : Jvm.MethodName)),
  (Jvm.Cond.instanceMethod ({ cls := "ApartCost", name := "<init>", desc := "()V" } : Jvm.MethodName)),
  (Jvm.Cond.code ({ cls := "ApartCost", name := "<init>", desc := "()V" } : Jvm.MethodName) prog_1_method_1_code (1 : Nat) (Option.none : Option Jvm.ClassFile.FieldType)),
  (Jvm.Cond.methodLink "ApartCost" (3 : Nat) ({ cls := "java/lang/Object", name := "<init>", desc := "()V" } : Jvm.MethodName)),
  (Jvm.Cond.instanceMethod ({ cls := "java/lang/Object", name := "<init>", desc := "()V" } : Jvm.MethodName)),
  (Jvm.Cond.code ({ cls := "java/lang/Object", name := "<init>", desc := "()V" } : Jvm.MethodName) object_method_1_code (1 : Nat) (Option.none : Option Jvm.ClassFile.FieldType)),
  (Jvm.Cond.classLink "ApartCost" (9 : Nat) "ApartCost$Product"),
  (Jvm.Cond.instantiable "ApartCost$Product" (14 : Nat)),
  (Jvm.Cond.methodLink "ApartCost" (11 : Nat) ({ cls := "ApartCost$Product", name := "<init>", desc := "()V" } : Jvm.MethodName)),
  (Jvm.Cond.instanceMethod ({ cls := "ApartCost$Product", name := "<init>", desc := "()V" } : Jvm.MethodName)),
  (Jvm.Cond.code ({ cls := "ApartCost$Product", name := "<init>", desc := "()V" } : Jvm.MethodName) prog_5_method_1_code (1 : Nat) (Option.none : Option Jvm.ClassFile.FieldType)),
  (Jvm.Cond.methodLink "ApartCost$Product" (3 : Nat) ({ cls := "java/lang/Object", name := "<init>", desc := "()V" } : Jvm.MethodName)),
  (Jvm.Cond.constantLong "ApartCost$Product" (46 : Nat) (27720 : Int64)),
  (Jvm.Cond.methodLink "ApartCost$Product" (48 : Nat) ({ cls := "java/util/Arrays", name := "fill", desc := "([JJ)V" } : Jvm.MethodName)),
  (Jvm.Cond.static ({ cls := "java/util/Arrays", name := "fill", desc := "([JJ)V" } : Jvm.MethodName)),
  (Jvm.Cond.code ({ cls := "java/util/Arrays", name := "fill", desc := "([JJ)V" } : Jvm.MethodName) prog_10_method_101_code (5 : Nat) (Option.none : Option Jvm.ClassFile.FieldType)),
  (Jvm.Cond.fieldLink "ApartCost$Product" (54 : Nat) "ApartCost$Product" "acts" "I"),
  (Jvm.Cond.fieldLink "ApartCost" (43 : Nat) "ApartCost$Product" "acts" "I"),
  (Jvm.Cond.fieldLink "ApartCost$Line" (53 : Nat) "ApartCost$Product" "acts" "I"),
  (Jvm.Cond.fieldLink "ApartCost$Planner" (56 : Nat) "ApartCost$Product" "acts" "I")]
def am_b1 : List Cond := [(Jvm.Cond.fieldLink "ApartCost$Product" (9 : Nat) "ApartCost$Product" "frees" "[I"),
  (Jvm.Cond.fieldLink "ApartCost$Product" (15 : Nat) "ApartCost$Product" "tools" "[I"),
  (Jvm.Cond.fieldLink "ApartCost$Product" (18 : Nat) "ApartCost$Product" "sides" "[I"),
  (Jvm.Cond.fieldLink "ApartCost$Product" (21 : Nat) "ApartCost$Product" "cents" "[J"),
  (Jvm.Cond.fieldLink "ApartCost$Line" (62 : Nat) "ApartCost$Product" "cents" "[J"),
  (Jvm.Cond.fieldLink "ApartCost$Product" (25 : Nat) "ApartCost$Product" "needs" "[I"),
  (Jvm.Cond.fieldLink "ApartCost" (65 : Nat) "ApartCost$Product" "needs" "[I"),
  (Jvm.Cond.fieldLink "ApartCost$Line" (85 : Nat) "ApartCost$Product" "needs" "[I"),
  (Jvm.Cond.fieldLink "ApartCost" (99 : Nat) "ApartCost$Product" "breaking" "I"),
  (Jvm.Cond.fieldLink "ApartCost$Product" (72 : Nat) "ApartCost$Product" "breaking" "I"),
  (Jvm.Cond.fieldLink "ApartCost$Product" (28 : Nat) "ApartCost$Product" "changes" "[J"),
  (Jvm.Cond.fieldLink "ApartCost" (80 : Nat) "ApartCost$Product" "changes" "[J"),
  (Jvm.Cond.fieldLink "ApartCost$Product" (31 : Nat) "ApartCost$Product" "turns" "[J"),
  (Jvm.Cond.fieldLink "ApartCost" (84 : Nat) "ApartCost$Product" "turns" "[J"),
  (Jvm.Cond.fieldLink "ApartCost$Product" (34 : Nat) "ApartCost$Product" "worths" "[J"),
  (Jvm.Cond.fieldLink "ApartCost$Planner" (31 : Nat) "ApartCost$Product" "worths" "[J"),
  (Jvm.Cond.fieldLink "ApartCost" (90 : Nat) "ApartCost$Product" "worths" "[J"),
  (Jvm.Cond.fieldLink "ApartCost$Product" (37 : Nat) "ApartCost$Product" "shares" "[J"),
  (Jvm.Cond.fieldLink "ApartCost" (104 : Nat) "ApartCost$Product" "shares" "[J"),
  (Jvm.Cond.fieldLink "ApartCost$Product" (66 : Nat) "ApartCost$Product" "rests" "I"),
  (Jvm.Cond.fieldLink "ApartCost" (153 : Nat) "ApartCost$Product" "rests" "I"),
  (Jvm.Cond.fieldLink "ApartCost$Product" (40 : Nat) "ApartCost$Product" "restParts" "[I"),
  (Jvm.Cond.fieldLink "ApartCost$Product" (43 : Nat) "ApartCost$Product" "restCents" "[J"),
  (Jvm.Cond.fieldLink "ApartCost" (156 : Nat) "ApartCost$Product" "restCents" "[J"),
  (Jvm.Cond.lays "ApartCost$Product" "ApartCost$Product" "acts" "I"),
  (Jvm.Cond.laysFinal "ApartCost$Product" "ApartCost$Product" "frees" "[I"),
  (Jvm.Cond.laysFinal "ApartCost$Product" "ApartCost$Product" "tools" "[I"),
  (Jvm.Cond.laysFinal "ApartCost$Product" "ApartCost$Product" "sides" "[I"),
  (Jvm.Cond.laysFinal "ApartCost$Product" "ApartCost$Product" "cents" "[J"),
  (Jvm.Cond.laysFinal "ApartCost$Product" "ApartCost$Product" "needs" "[I"),
  (Jvm.Cond.lays "ApartCost$Product" "ApartCost$Product" "breaking" "I"),
  (Jvm.Cond.laysFinal "ApartCost$Product" "ApartCost$Product" "changes" "[J"),
  (Jvm.Cond.laysFinal "ApartCost$Product" "ApartCost$Product" "turns" "[J"),
  (Jvm.Cond.laysFinal "ApartCost$Product" "ApartCost$Product" "worths" "[J"),
  (Jvm.Cond.laysFinal "ApartCost$Product" "ApartCost$Product" "shares" "[J"),
  (Jvm.Cond.lays "ApartCost$Product" "ApartCost$Product" "rests" "I"),
  (Jvm.Cond.laysFinal "ApartCost$Product" "ApartCost$Product" "restParts" "[I"),
  (Jvm.Cond.laysFinal "ApartCost$Product" "ApartCost$Product" "restCents" "[J"),
  (Jvm.Cond.arrayClass Jvm.ClassFile.FieldType.int),
  (Jvm.Cond.arrayClass Jvm.ClassFile.FieldType.long),
  (Jvm.Cond.classLink "ApartCost" (16 : Nat) "ApartCost$Planner"),
  (Jvm.Cond.instantiable "ApartCost$Planner" (4 : Nat)),
  (Jvm.Cond.methodLink "ApartCost" (18 : Nat) ({ cls := "ApartCost$Planner", name := "<init>", desc := "(LApartCost$Product;)V" } : Jvm.MethodName)),
  (Jvm.Cond.instanceMethod ({ cls := "ApartCost$Planner", name := "<init>", desc := "(LApartCost$Product;)V" } : Jvm.MethodName)),
  (Jvm.Cond.code ({ cls := "ApartCost$Planner", name := "<init>", desc := "(LApartCost$Product;)V" } : Jvm.MethodName) prog_4_method_1_code (2 : Nat) (Option.none : Option Jvm.ClassFile.FieldType)),
  (Jvm.Cond.methodLink "ApartCost$Planner" (3 : Nat) ({ cls := "java/lang/Object", name := "<init>", desc := "()V" } : Jvm.MethodName)),
  (Jvm.Cond.fieldLink "ApartCost$Planner" (21 : Nat) "ApartCost$Planner" "product" "LApartCost$Product;"),
  (Jvm.Cond.fieldLink "ApartCost$Found" (43 : Nat) "ApartCost$Planner" "product" "LApartCost$Product;"),
  (Jvm.Cond.fieldLink "ApartCost$Planner" (9 : Nat) "ApartCost$Planner" "values" "[J"),
  (Jvm.Cond.fieldLink "ApartCost$Found" (63 : Nat) "ApartCost$Planner" "values" "[J"),
  (Jvm.Cond.fieldLink "ApartCost$Planner" (15 : Nat) "ApartCost$Planner" "steps" "[J"),
  (Jvm.Cond.fieldLink "ApartCost$Planner" (18 : Nat) "ApartCost$Planner" "most" "[J"),
  (Jvm.Cond.laysFinal "ApartCost$Planner" "ApartCost$Planner" "product" "LApartCost$Product;"),
  (Jvm.Cond.laysFinal "ApartCost$Planner" "ApartCost$Planner" "values" "[J"),
  (Jvm.Cond.laysFinal "ApartCost$Planner" "ApartCost$Planner" "steps" "[J"),
  (Jvm.Cond.laysFinal "ApartCost$Planner" "ApartCost$Planner" "most" "[J"),
  (Jvm.Cond.classLink "ApartCost" (25 : Nat) "ApartCost$Found"),
  (Jvm.Cond.instantiable "ApartCost$Found" (8 : Nat)),
  (Jvm.Cond.instanceMethod ({ cls := "ApartCost$Found", name := "<init>", desc := "()V" } : Jvm.MethodName)),
  (Jvm.Cond.code ({ cls := "ApartCost$Found", name := "<init>", desc := "()V" } : Jvm.MethodName) prog_2_method_1_code (1 : Nat) (Option.none : Option Jvm.ClassFile.FieldType))]
def am_b2 : List Cond := [(Jvm.Cond.methodLink "ApartCost$Found" (3 : Nat) ({ cls := "java/lang/Object", name := "<init>", desc := "()V" } : Jvm.MethodName)),
  (Jvm.Cond.fieldLink "ApartCost$Found" (36 : Nat) "ApartCost$Found" "any" "Z"),
  (Jvm.Cond.fieldLink "ApartCost" (133 : Nat) "ApartCost$Found" "any" "Z"),
  (Jvm.Cond.fieldLink "ApartCost" (54 : Nat) "ApartCost$Found" "upToDate" "Z"),
  (Jvm.Cond.fieldLink "ApartCost$Found" (40 : Nat) "ApartCost$Found" "upToDate" "Z"),
  (Jvm.Cond.fieldLink "ApartCost$Found" (19 : Nat) "ApartCost$Found" "length" "I"),
  (Jvm.Cond.fieldLink "ApartCost" (127 : Nat) "ApartCost$Found" "length" "I"),
  (Jvm.Cond.fieldLink "ApartCost$Found" (23 : Nat) "ApartCost$Found" "set" "I"),
  (Jvm.Cond.fieldLink "ApartCost" (147 : Nat) "ApartCost$Found" "set" "I"),
  (Jvm.Cond.fieldLink "ApartCost$Found" (53 : Nat) "ApartCost$Found" "free" "I"),
  (Jvm.Cond.fieldLink "ApartCost" (136 : Nat) "ApartCost$Found" "free" "I"),
  (Jvm.Cond.fieldLink "ApartCost" (119 : Nat) "ApartCost$Found" "total" "J"),
  (Jvm.Cond.fieldLink "ApartCost$Found" (9 : Nat) "ApartCost$Found" "row" "[I"),
  (Jvm.Cond.fieldLink "ApartCost" (130 : Nat) "ApartCost$Found" "row" "[I"),
  (Jvm.Cond.fieldLink "ApartCost$Found" (15 : Nat) "ApartCost$Found" "brought" "[J"),
  (Jvm.Cond.fieldLink "ApartCost" (150 : Nat) "ApartCost$Found" "brought" "[J"),
  (Jvm.Cond.lays "ApartCost$Found" "ApartCost$Found" "any" "Z"),
  (Jvm.Cond.lays "ApartCost$Found" "ApartCost$Found" "upToDate" "Z"),
  (Jvm.Cond.lays "ApartCost$Found" "ApartCost$Found" "length" "I"),
  (Jvm.Cond.lays "ApartCost$Found" "ApartCost$Found" "set" "I"),
  (Jvm.Cond.lays "ApartCost$Found" "ApartCost$Found" "free" "I"),
  (Jvm.Cond.lays "ApartCost$Found" "ApartCost$Found" "total" "J"),
  (Jvm.Cond.laysFinal "ApartCost$Found" "ApartCost$Found" "row" "[I"),
  (Jvm.Cond.laysFinal "ApartCost$Found" "ApartCost$Found" "brought" "[J"),
  (Jvm.Cond.classLink "ApartCost" (32 : Nat) "ApartCost$Line"),
  (Jvm.Cond.instantiable "ApartCost$Line" (8 : Nat)),
  (Jvm.Cond.methodLink "ApartCost" (34 : Nat) ({ cls := "ApartCost$Line", name := "<init>", desc := "(LApartCost$Product;)V" } : Jvm.MethodName)),
  (Jvm.Cond.instanceMethod ({ cls := "ApartCost$Line", name := "<init>", desc := "(LApartCost$Product;)V" } : Jvm.MethodName)),
  (Jvm.Cond.code ({ cls := "ApartCost$Line", name := "<init>", desc := "(LApartCost$Product;)V" } : Jvm.MethodName) prog_3_method_1_code (2 : Nat) (Option.none : Option Jvm.ClassFile.FieldType)),
  (Jvm.Cond.methodLink "ApartCost$Line" (3 : Nat) ({ cls := "java/lang/Object", name := "<init>", desc := "()V" } : Jvm.MethodName)),
  (Jvm.Cond.methodLink "ApartCost$Line" (26 : Nat) ({ cls := "java/util/Arrays", name := "fill", desc := "([II)V" } : Jvm.MethodName)),
  (Jvm.Cond.static ({ cls := "java/util/Arrays", name := "fill", desc := "([II)V" } : Jvm.MethodName)),
  (Jvm.Cond.code ({ cls := "java/util/Arrays", name := "fill", desc := "([II)V" } : Jvm.MethodName) prog_10_method_103_code (4 : Nat) (Option.none : Option Jvm.ClassFile.FieldType)),
  (Jvm.Cond.fieldLink "ApartCost$Line" (9 : Nat) "ApartCost$Line" "told" "[I"),
  (Jvm.Cond.fieldLink "ApartCost" (177 : Nat) "ApartCost$Line" "told" "[I"),
  (Jvm.Cond.fieldLink "ApartCost$Line" (22 : Nat) "ApartCost$Line" "product" "LApartCost$Product;"),
  (Jvm.Cond.fieldLink "ApartCost$Line" (15 : Nat) "ApartCost$Line" "trial" "[I"),
  (Jvm.Cond.fieldLink "ApartCost$Line" (18 : Nat) "ApartCost$Line" "loads" "[J"),
  (Jvm.Cond.fieldLink "ApartCost$Line" (32 : Nat) "ApartCost$Line" "set" "I"),
  (Jvm.Cond.fieldLink "ApartCost$Line" (36 : Nat) "ApartCost$Line" "stations" "I"),
  (Jvm.Cond.fieldLink "ApartCost$Line" (49 : Nat) "ApartCost$Line" "longest" "J"),
  (Jvm.Cond.fieldLink "ApartCost$Line" (71 : Nat) "ApartCost$Line" "least" "J"),
  (Jvm.Cond.laysFinal "ApartCost$Line" "ApartCost$Line" "told" "[I"),
  (Jvm.Cond.laysFinal "ApartCost$Line" "ApartCost$Line" "product" "LApartCost$Product;"),
  (Jvm.Cond.laysFinal "ApartCost$Line" "ApartCost$Line" "trial" "[I"),
  (Jvm.Cond.laysFinal "ApartCost$Line" "ApartCost$Line" "loads" "[J"),
  (Jvm.Cond.lays "ApartCost$Line" "ApartCost$Line" "set" "I"),
  (Jvm.Cond.lays "ApartCost$Line" "ApartCost$Line" "stations" "I"),
  (Jvm.Cond.lays "ApartCost$Line" "ApartCost$Line" "longest" "J"),
  (Jvm.Cond.lays "ApartCost$Line" "ApartCost$Line" "least" "J"),
  (Jvm.Cond.fieldLink "ApartCost" (12 : Nat) "ApartCost" "product" "LApartCost$Product;"),
  (Jvm.Cond.fieldLink "ApartCost" (21 : Nat) "ApartCost" "planner" "LApartCost$Planner;"),
  (Jvm.Cond.fieldLink "ApartCost" (28 : Nat) "ApartCost" "found" "LApartCost$Found;"),
  (Jvm.Cond.fieldLink "ApartCost" (35 : Nat) "ApartCost" "line" "LApartCost$Line;"),
  (Jvm.Cond.laysFinal "ApartCost" "ApartCost" "product" "LApartCost$Product;"),
  (Jvm.Cond.laysFinal "ApartCost" "ApartCost" "planner" "LApartCost$Planner;"),
  (Jvm.Cond.laysFinal "ApartCost" "ApartCost" "found" "LApartCost$Found;"),
  (Jvm.Cond.laysFinal "ApartCost" "ApartCost" "line" "LApartCost$Line;"),
  (Jvm.Cond.methodLink "ApartCostLaw" (15 : Nat) ({ cls := "ApartCost", name := "act", desc := "(IIIJ)I" } : Jvm.MethodName)),
  (Jvm.Cond.instanceMethod ({ cls := "ApartCost", name := "act", desc := "(IIIJ)I" } : Jvm.MethodName))]
def am_b3 : List Cond := [(Jvm.Cond.selects "ApartCost" ({ cls := "ApartCost", name := "act", desc := "(IIIJ)I" } : Jvm.MethodName) ({ cls := "ApartCost", name := "act", desc := "(IIIJ)I" } : Jvm.MethodName)),
  (Jvm.Cond.code ({ cls := "ApartCost", name := "act", desc := "(IIIJ)I" } : Jvm.MethodName) prog_1_method_2_code (7 : Nat) (Option.some Jvm.ClassFile.FieldType.int)),
  (Jvm.Cond.methodLink "ApartCost" (39 : Nat) ({ cls := "ApartCost", name := "isPart", desc := "(I)Z" } : Jvm.MethodName)),
  (Jvm.Cond.static ({ cls := "ApartCost", name := "isPart", desc := "(I)Z" } : Jvm.MethodName)),
  (Jvm.Cond.code ({ cls := "ApartCost", name := "isPart", desc := "(I)Z" } : Jvm.MethodName) prog_1_method_21_code (1 : Nat) (Option.some Jvm.ClassFile.FieldType.boolean)),
  (Jvm.Cond.methodLink "ApartCost" (47 : Nat) ({ cls := "ApartCost", name := "isKind", desc := "(I)Z" } : Jvm.MethodName)),
  (Jvm.Cond.static ({ cls := "ApartCost", name := "isKind", desc := "(I)Z" } : Jvm.MethodName)),
  (Jvm.Cond.code ({ cls := "ApartCost", name := "isKind", desc := "(I)Z" } : Jvm.MethodName) prog_1_method_22_code (1 : Nat) (Option.some Jvm.ClassFile.FieldType.boolean)),
  (Jvm.Cond.methodLink "ApartCost" (50 : Nat) ({ cls := "ApartCost", name := "isPrice", desc := "(J)Z" } : Jvm.MethodName)),
  (Jvm.Cond.static ({ cls := "ApartCost", name := "isPrice", desc := "(J)Z" } : Jvm.MethodName)),
  (Jvm.Cond.code ({ cls := "ApartCost", name := "isPrice", desc := "(J)Z" } : Jvm.MethodName) prog_1_method_24_code (2 : Nat) (Option.some Jvm.ClassFile.FieldType.boolean)),
  (Jvm.Cond.constantLong "ApartCost" (180 : Nat) (1000000 : Int64)),
  (Jvm.Cond.methodLink "ApartCost" (58 : Nat) ({ cls := "ApartCost$Product", name := "addAct", desc := "(IIIJ)I" } : Jvm.MethodName)),
  (Jvm.Cond.instanceMethod ({ cls := "ApartCost$Product", name := "addAct", desc := "(IIIJ)I" } : Jvm.MethodName)),
  (Jvm.Cond.selects "ApartCost$Product" ({ cls := "ApartCost$Product", name := "addAct", desc := "(IIIJ)I" } : Jvm.MethodName) ({ cls := "ApartCost$Product", name := "addAct", desc := "(IIIJ)I" } : Jvm.MethodName)),
  (Jvm.Cond.code ({ cls := "ApartCost$Product", name := "addAct", desc := "(IIIJ)I" } : Jvm.MethodName) prog_5_method_4_code (7 : Nat) (Option.some Jvm.ClassFile.FieldType.int)),
  (Jvm.Cond.methodLink "ApartCostLaw" (20 : Nat) ({ cls := "ApartCost", name := "before", desc := "(II)Z" } : Jvm.MethodName)),
  (Jvm.Cond.instanceMethod ({ cls := "ApartCost", name := "before", desc := "(II)Z" } : Jvm.MethodName)),
  (Jvm.Cond.selects "ApartCost" ({ cls := "ApartCost", name := "before", desc := "(II)Z" } : Jvm.MethodName) ({ cls := "ApartCost", name := "before", desc := "(II)Z" } : Jvm.MethodName)),
  (Jvm.Cond.code ({ cls := "ApartCost", name := "before", desc := "(II)Z" } : Jvm.MethodName) prog_1_method_3_code (3 : Nat) (Option.some Jvm.ClassFile.FieldType.boolean)),
  (Jvm.Cond.methodLink "ApartCost" (62 : Nat) ({ cls := "ApartCost$Product", name := "hasAct", desc := "(I)Z" } : Jvm.MethodName)),
  (Jvm.Cond.instanceMethod ({ cls := "ApartCost$Product", name := "hasAct", desc := "(I)Z" } : Jvm.MethodName)),
  (Jvm.Cond.selects "ApartCost$Product" ({ cls := "ApartCost$Product", name := "hasAct", desc := "(I)Z" } : Jvm.MethodName) ({ cls := "ApartCost$Product", name := "hasAct", desc := "(I)Z" } : Jvm.MethodName)),
  (Jvm.Cond.code ({ cls := "ApartCost$Product", name := "hasAct", desc := "(I)Z" } : Jvm.MethodName) prog_5_method_2_code (2 : Nat) (Option.some Jvm.ClassFile.FieldType.boolean)),
  (Jvm.Cond.methodLink "ApartCost" (69 : Nat) ({ cls := "ApartCost", name := "has", desc := "(II)Z" } : Jvm.MethodName)),
  (Jvm.Cond.static ({ cls := "ApartCost", name := "has", desc := "(II)Z" } : Jvm.MethodName)),
  (Jvm.Cond.code ({ cls := "ApartCost", name := "has", desc := "(II)Z" } : Jvm.MethodName) prog_1_method_26_code (2 : Nat) (Option.some Jvm.ClassFile.FieldType.boolean)),
  (Jvm.Cond.methodLink "ApartCost" (73 : Nat) ({ cls := "ApartCost$Product", name := "addNeed", desc := "(II)V" } : Jvm.MethodName)),
  (Jvm.Cond.instanceMethod ({ cls := "ApartCost$Product", name := "addNeed", desc := "(II)V" } : Jvm.MethodName)),
  (Jvm.Cond.selects "ApartCost$Product" ({ cls := "ApartCost$Product", name := "addNeed", desc := "(II)V" } : Jvm.MethodName) ({ cls := "ApartCost$Product", name := "addNeed", desc := "(II)V" } : Jvm.MethodName)),
  (Jvm.Cond.code ({ cls := "ApartCost$Product", name := "addNeed", desc := "(II)V" } : Jvm.MethodName) prog_5_method_5_code (5 : Nat) (Option.none : Option Jvm.ClassFile.FieldType)),
  (Jvm.Cond.methodLink "ApartCostLaw" (25 : Nat) ({ cls := "ApartCost", name := "change", desc := "(IIJ)Z" } : Jvm.MethodName)),
  (Jvm.Cond.instanceMethod ({ cls := "ApartCost", name := "change", desc := "(IIJ)Z" } : Jvm.MethodName)),
  (Jvm.Cond.selects "ApartCost" ({ cls := "ApartCost", name := "change", desc := "(IIJ)Z" } : Jvm.MethodName) ({ cls := "ApartCost", name := "change", desc := "(IIJ)Z" } : Jvm.MethodName)),
  (Jvm.Cond.code ({ cls := "ApartCost", name := "change", desc := "(IIJ)Z" } : Jvm.MethodName) prog_1_method_4_code (5 : Nat) (Option.some Jvm.ClassFile.FieldType.boolean)),
  (Jvm.Cond.methodLink "ApartCost" (77 : Nat) ({ cls := "ApartCost", name := "isMove", desc := "(II)Z" } : Jvm.MethodName)),
  (Jvm.Cond.static ({ cls := "ApartCost", name := "isMove", desc := "(II)Z" } : Jvm.MethodName)),
  (Jvm.Cond.code ({ cls := "ApartCost", name := "isMove", desc := "(II)Z" } : Jvm.MethodName) prog_1_method_23_code (2 : Nat) (Option.some Jvm.ClassFile.FieldType.boolean)),
  (Jvm.Cond.methodLink "ApartCostLaw" (30 : Nat) ({ cls := "ApartCost", name := "turn", desc := "(IIJ)Z" } : Jvm.MethodName)),
  (Jvm.Cond.instanceMethod ({ cls := "ApartCost", name := "turn", desc := "(IIJ)Z" } : Jvm.MethodName)),
  (Jvm.Cond.selects "ApartCost" ({ cls := "ApartCost", name := "turn", desc := "(IIJ)Z" } : Jvm.MethodName) ({ cls := "ApartCost", name := "turn", desc := "(IIJ)Z" } : Jvm.MethodName)),
  (Jvm.Cond.code ({ cls := "ApartCost", name := "turn", desc := "(IIJ)Z" } : Jvm.MethodName) prog_1_method_5_code (5 : Nat) (Option.some Jvm.ClassFile.FieldType.boolean)),
  (Jvm.Cond.methodLink "ApartCostLaw" (34 : Nat) ({ cls := "ApartCost", name := "worth", desc := "(IJ)Z" } : Jvm.MethodName)),
  (Jvm.Cond.instanceMethod ({ cls := "ApartCost", name := "worth", desc := "(IJ)Z" } : Jvm.MethodName)),
  (Jvm.Cond.selects "ApartCost" ({ cls := "ApartCost", name := "worth", desc := "(IJ)Z" } : Jvm.MethodName) ({ cls := "ApartCost", name := "worth", desc := "(IJ)Z" } : Jvm.MethodName)),
  (Jvm.Cond.code ({ cls := "ApartCost", name := "worth", desc := "(IJ)Z" } : Jvm.MethodName) prog_1_method_6_code (4 : Nat) (Option.some Jvm.ClassFile.FieldType.boolean)),
  (Jvm.Cond.methodLink "ApartCost" (87 : Nat) ({ cls := "ApartCost", name := "isWorth", desc := "(J)Z" } : Jvm.MethodName)),
  (Jvm.Cond.static ({ cls := "ApartCost", name := "isWorth", desc := "(J)Z" } : Jvm.MethodName)),
  (Jvm.Cond.code ({ cls := "ApartCost", name := "isWorth", desc := "(J)Z" } : Jvm.MethodName) prog_1_method_25_code (2 : Nat) (Option.some Jvm.ClassFile.FieldType.boolean)),
  (Jvm.Cond.constantLong "ApartCost" (182 : Nat) (-1000000 : Int64)),
  (Jvm.Cond.methodLink "ApartCostLaw" (39 : Nat) ({ cls := "ApartCost", name := "rest", desc := "(JJ)Z" } : Jvm.MethodName)),
  (Jvm.Cond.instanceMethod ({ cls := "ApartCost", name := "rest", desc := "(JJ)Z" } : Jvm.MethodName)),
  (Jvm.Cond.selects "ApartCost" ({ cls := "ApartCost", name := "rest", desc := "(JJ)Z" } : Jvm.MethodName) ({ cls := "ApartCost", name := "rest", desc := "(JJ)Z" } : Jvm.MethodName)),
  (Jvm.Cond.code ({ cls := "ApartCost", name := "rest", desc := "(JJ)Z" } : Jvm.MethodName) prog_1_method_7_code (5 : Nat) (Option.some Jvm.ClassFile.FieldType.boolean)),
  (Jvm.Cond.constantLong "ApartCost" (93 : Nat) (4095 : Int64)),
  (Jvm.Cond.methodLink "ApartCost" (95 : Nat) ({ cls := "ApartCost$Product", name := "tellRest", desc := "(IJ)Z" } : Jvm.MethodName)),
  (Jvm.Cond.instanceMethod ({ cls := "ApartCost$Product", name := "tellRest", desc := "(IJ)Z" } : Jvm.MethodName)),
  (Jvm.Cond.selects "ApartCost$Product" ({ cls := "ApartCost$Product", name := "tellRest", desc := "(IJ)Z" } : Jvm.MethodName) ({ cls := "ApartCost$Product", name := "tellRest", desc := "(IJ)Z" } : Jvm.MethodName)),
  (Jvm.Cond.code ({ cls := "ApartCost$Product", name := "tellRest", desc := "(IJ)Z" } : Jvm.MethodName) prog_5_method_6_code (5 : Nat) (Option.some Jvm.ClassFile.FieldType.boolean)),
  (Jvm.Cond.methodLink "ApartCost$Product" (62 : Nat) ({ cls := "ApartCost$Product", name := "placeOfRest", desc := "(I)I" } : Jvm.MethodName))]
def am_b4 : List Cond := [(Jvm.Cond.instanceMethod ({ cls := "ApartCost$Product", name := "placeOfRest", desc := "(I)I" } : Jvm.MethodName)),
  (Jvm.Cond.code ({ cls := "ApartCost$Product", name := "placeOfRest", desc := "(I)I" } : Jvm.MethodName) prog_5_method_7_code (3 : Nat) (Option.some Jvm.ClassFile.FieldType.int)),
  (Jvm.Cond.methodLink "ApartCostLaw" (44 : Nat) ({ cls := "ApartCost", name := "breaks", desc := "(I)Z" } : Jvm.MethodName)),
  (Jvm.Cond.instanceMethod ({ cls := "ApartCost", name := "breaks", desc := "(I)Z" } : Jvm.MethodName)),
  (Jvm.Cond.selects "ApartCost" ({ cls := "ApartCost", name := "breaks", desc := "(I)Z" } : Jvm.MethodName) ({ cls := "ApartCost", name := "breaks", desc := "(I)Z" } : Jvm.MethodName)),
  (Jvm.Cond.code ({ cls := "ApartCost", name := "breaks", desc := "(I)Z" } : Jvm.MethodName) prog_1_method_8_code (2 : Nat) (Option.some Jvm.ClassFile.FieldType.boolean)),
  (Jvm.Cond.methodLink "ApartCostLaw" (49 : Nat) ({ cls := "ApartCost", name := "sure", desc := "(IJJ)Z" } : Jvm.MethodName)),
  (Jvm.Cond.instanceMethod ({ cls := "ApartCost", name := "sure", desc := "(IJJ)Z" } : Jvm.MethodName)),
  (Jvm.Cond.selects "ApartCost" ({ cls := "ApartCost", name := "sure", desc := "(IJJ)Z" } : Jvm.MethodName) ({ cls := "ApartCost", name := "sure", desc := "(IJJ)Z" } : Jvm.MethodName)),
  (Jvm.Cond.code ({ cls := "ApartCost", name := "sure", desc := "(IJJ)Z" } : Jvm.MethodName) prog_1_method_9_code (6 : Nat) (Option.some Jvm.ClassFile.FieldType.boolean)),
  (Jvm.Cond.constantLong "ApartCost" (102 : Nat) (12 : Int64)),
  (Jvm.Cond.constantLong "ApartCost" (107 : Nat) (27720 : Int64)),
  (Jvm.Cond.methodLink "ApartCostLaw" (54 : Nat) ({ cls := "ApartCost", name := "states", desc := "()J" } : Jvm.MethodName)),
  (Jvm.Cond.instanceMethod ({ cls := "ApartCost", name := "states", desc := "()J" } : Jvm.MethodName)),
  (Jvm.Cond.selects "ApartCost" ({ cls := "ApartCost", name := "states", desc := "()J" } : Jvm.MethodName) ({ cls := "ApartCost", name := "states", desc := "()J" } : Jvm.MethodName)),
  (Jvm.Cond.code ({ cls := "ApartCost", name := "states", desc := "()J" } : Jvm.MethodName) prog_1_method_10_code (1 : Nat) (Option.some Jvm.ClassFile.FieldType.long)),
  (Jvm.Cond.methodLink "ApartCost" (109 : Nat) ({ cls := "ApartCost$Product", name := "countStates", desc := "()J" } : Jvm.MethodName)),
  (Jvm.Cond.instanceMethod ({ cls := "ApartCost$Product", name := "countStates", desc := "()J" } : Jvm.MethodName)),
  (Jvm.Cond.selects "ApartCost$Product" ({ cls := "ApartCost$Product", name := "countStates", desc := "()J" } : Jvm.MethodName) ({ cls := "ApartCost$Product", name := "countStates", desc := "()J" } : Jvm.MethodName)),
  (Jvm.Cond.code ({ cls := "ApartCost$Product", name := "countStates", desc := "()J" } : Jvm.MethodName) prog_5_method_16_code (4 : Nat) (Option.some Jvm.ClassFile.FieldType.long)),
  (Jvm.Cond.methodLink "ApartCost$Product" (78 : Nat) ({ cls := "ApartCost$Product", name := "allActs", desc := "()I" } : Jvm.MethodName)),
  (Jvm.Cond.instanceMethod ({ cls := "ApartCost$Product", name := "allActs", desc := "()I" } : Jvm.MethodName)),
  (Jvm.Cond.selects "ApartCost$Product" ({ cls := "ApartCost$Product", name := "allActs", desc := "()I" } : Jvm.MethodName) ({ cls := "ApartCost$Product", name := "allActs", desc := "()I" } : Jvm.MethodName)),
  (Jvm.Cond.code ({ cls := "ApartCost$Product", name := "allActs", desc := "()I" } : Jvm.MethodName) prog_5_method_3_code (1 : Nat) (Option.some Jvm.ClassFile.FieldType.int)),
  (Jvm.Cond.methodLink "ApartCost$Product" (82 : Nat) ({ cls := "ApartCost$Product", name := "lastsOf", desc := "(I)I" } : Jvm.MethodName)),
  (Jvm.Cond.instanceMethod ({ cls := "ApartCost$Product", name := "lastsOf", desc := "(I)I" } : Jvm.MethodName)),
  (Jvm.Cond.selects "ApartCost$Product" ({ cls := "ApartCost$Product", name := "lastsOf", desc := "(I)I" } : Jvm.MethodName) ({ cls := "ApartCost$Product", name := "lastsOf", desc := "(I)I" } : Jvm.MethodName)),
  (Jvm.Cond.code ({ cls := "ApartCost$Product", name := "lastsOf", desc := "(I)I" } : Jvm.MethodName) prog_5_method_14_code (3 : Nat) (Option.some Jvm.ClassFile.FieldType.int)),
  (Jvm.Cond.methodLink "ApartCost$Product" (75 : Nat) ({ cls := "ApartCost$Product", name := "neededBy", desc := "(I)I" } : Jvm.MethodName)),
  (Jvm.Cond.instanceMethod ({ cls := "ApartCost$Product", name := "neededBy", desc := "(I)I" } : Jvm.MethodName)),
  (Jvm.Cond.code ({ cls := "ApartCost$Product", name := "neededBy", desc := "(I)I" } : Jvm.MethodName) prog_5_method_13_code (4 : Nat) (Option.some Jvm.ClassFile.FieldType.int)),
  (Jvm.Cond.methodLink "ApartCost$Product" (85 : Nat) ({ cls := "java/lang/Integer", name := "bitCount", desc := "(I)I" } : Jvm.MethodName)),
  (Jvm.Cond.static ({ cls := "java/lang/Integer", name := "bitCount", desc := "(I)I" } : Jvm.MethodName)),
  (Jvm.Cond.code ({ cls := "java/lang/Integer", name := "bitCount", desc := "(I)I" } : Jvm.MethodName) prog_8_method_49_code (1 : Nat) (Option.some Jvm.ClassFile.FieldType.int)),
  (Jvm.Cond.constant "java/lang/Integer" (265 : Nat) (1431655765 : Int32)),
  (Jvm.Cond.constant "java/lang/Integer" (266 : Nat) (858993459 : Int32)),
  (Jvm.Cond.constant "java/lang/Integer" (267 : Nat) (252645135 : Int32)),
  (Jvm.Cond.methodLink "ApartCostLaw" (59 : Nat) ({ cls := "ApartCost", name := "run", desc := "(J)I" } : Jvm.MethodName)),
  (Jvm.Cond.instanceMethod ({ cls := "ApartCost", name := "run", desc := "(J)I" } : Jvm.MethodName)),
  (Jvm.Cond.selects "ApartCost" ({ cls := "ApartCost", name := "run", desc := "(J)I" } : Jvm.MethodName) ({ cls := "ApartCost", name := "run", desc := "(J)I" } : Jvm.MethodName)),
  (Jvm.Cond.code ({ cls := "ApartCost", name := "run", desc := "(J)I" } : Jvm.MethodName) prog_1_method_11_code (3 : Nat) (Option.some Jvm.ClassFile.FieldType.int)),
  (Jvm.Cond.methodLink "ApartCost" (113 : Nat) ({ cls := "ApartCost$Planner", name := "valueAsTold", desc := "()V" } : Jvm.MethodName)),
  (Jvm.Cond.instanceMethod ({ cls := "ApartCost$Planner", name := "valueAsTold", desc := "()V" } : Jvm.MethodName)),
  (Jvm.Cond.selects "ApartCost$Planner" ({ cls := "ApartCost$Planner", name := "valueAsTold", desc := "()V" } : Jvm.MethodName) ({ cls := "ApartCost$Planner", name := "valueAsTold", desc := "()V" } : Jvm.MethodName)),
  (Jvm.Cond.code ({ cls := "ApartCost$Planner", name := "valueAsTold", desc := "()V" } : Jvm.MethodName) prog_4_method_2_code (2 : Nat) (Option.none : Option Jvm.ClassFile.FieldType)),
  (Jvm.Cond.methodLink "ApartCost$Planner" (25 : Nat) ({ cls := "ApartCost$Product", name := "valueOf", desc := "(I)J" } : Jvm.MethodName)),
  (Jvm.Cond.instanceMethod ({ cls := "ApartCost$Product", name := "valueOf", desc := "(I)J" } : Jvm.MethodName)),
  (Jvm.Cond.selects "ApartCost$Product" ({ cls := "ApartCost$Product", name := "valueOf", desc := "(I)J" } : Jvm.MethodName) ({ cls := "ApartCost$Product", name := "valueOf", desc := "(I)J" } : Jvm.MethodName)),
  (Jvm.Cond.code ({ cls := "ApartCost$Product", name := "valueOf", desc := "(I)J" } : Jvm.MethodName) prog_5_method_9_code (2 : Nat) (Option.some Jvm.ClassFile.FieldType.long)),
  (Jvm.Cond.methodLink "ApartCost" (116 : Nat) ({ cls := "ApartCost$Planner", name := "greatestGain", desc := "()J" } : Jvm.MethodName)),
  (Jvm.Cond.instanceMethod ({ cls := "ApartCost$Planner", name := "greatestGain", desc := "()J" } : Jvm.MethodName)),
  (Jvm.Cond.selects "ApartCost$Planner" ({ cls := "ApartCost$Planner", name := "greatestGain", desc := "()J" } : Jvm.MethodName) ({ cls := "ApartCost$Planner", name := "greatestGain", desc := "()J" } : Jvm.MethodName)),
  (Jvm.Cond.code ({ cls := "ApartCost$Planner", name := "greatestGain", desc := "()J" } : Jvm.MethodName) prog_4_method_4_code (2 : Nat) (Option.some Jvm.ClassFile.FieldType.long)),
  (Jvm.Cond.methodLink "ApartCost$Planner" (34 : Nat) ({ cls := "ApartCost$Planner", name := "setSteps", desc := "()V" } : Jvm.MethodName)),
  (Jvm.Cond.instanceMethod ({ cls := "ApartCost$Planner", name := "setSteps", desc := "()V" } : Jvm.MethodName)),
  (Jvm.Cond.code ({ cls := "ApartCost$Planner", name := "setSteps", desc := "()V" } : Jvm.MethodName) prog_4_method_6_code (3 : Nat) (Option.none : Option Jvm.ClassFile.FieldType)),
  (Jvm.Cond.methodLink "ApartCost$Planner" (68 : Nat) ({ cls := "ApartCost$Planner", name := "stepPlace", desc := "(II)I" } : Jvm.MethodName)),
  (Jvm.Cond.static ({ cls := "ApartCost$Planner", name := "stepPlace", desc := "(II)I" } : Jvm.MethodName)),
  (Jvm.Cond.code ({ cls := "ApartCost$Planner", name := "stepPlace", desc := "(II)I" } : Jvm.MethodName) prog_4_method_7_code (2 : Nat) (Option.some Jvm.ClassFile.FieldType.int)),
  (Jvm.Cond.methodLink "ApartCost$Planner" (72 : Nat) ({ cls := "ApartCost$Product", name := "centsOfStep", desc := "(II)J" } : Jvm.MethodName))]
def am_b5 : List Cond := [(Jvm.Cond.instanceMethod ({ cls := "ApartCost$Product", name := "centsOfStep", desc := "(II)J" } : Jvm.MethodName)),
  (Jvm.Cond.selects "ApartCost$Product" ({ cls := "ApartCost$Product", name := "centsOfStep", desc := "(II)J" } : Jvm.MethodName) ({ cls := "ApartCost$Product", name := "centsOfStep", desc := "(II)J" } : Jvm.MethodName)),
  (Jvm.Cond.code ({ cls := "ApartCost$Product", name := "centsOfStep", desc := "(II)J" } : Jvm.MethodName) prog_5_method_12_code (7 : Nat) (Option.some Jvm.ClassFile.FieldType.long)),
  (Jvm.Cond.constantLong "ApartCost$Planner" (76 : Nat) (27720 : Int64)),
  (Jvm.Cond.methodLink "ApartCost$Planner" (37 : Nat) ({ cls := "ApartCost$Product", name := "allActs", desc := "()I" } : Jvm.MethodName)),
  (Jvm.Cond.methodLink "ApartCost$Planner" (41 : Nat) ({ cls := "ApartCost$Planner", name := "setMost", desc := "(I)V" } : Jvm.MethodName)),
  (Jvm.Cond.instanceMethod ({ cls := "ApartCost$Planner", name := "setMost", desc := "(I)V" } : Jvm.MethodName)),
  (Jvm.Cond.code ({ cls := "ApartCost$Planner", name := "setMost", desc := "(I)V" } : Jvm.MethodName) prog_4_method_8_code (7 : Nat) (Option.none : Option Jvm.ClassFile.FieldType)),
  (Jvm.Cond.methodLink "ApartCost$Planner" (78 : Nat) ({ cls := "ApartCost$Product", name := "lastsOf", desc := "(I)I" } : Jvm.MethodName)),
  (Jvm.Cond.methodLink "ApartCost$Planner" (45 : Nat) ({ cls := "ApartCost$Product", name := "nextsOf", desc := "(I)I" } : Jvm.MethodName)),
  (Jvm.Cond.instanceMethod ({ cls := "ApartCost$Product", name := "nextsOf", desc := "(I)I" } : Jvm.MethodName)),
  (Jvm.Cond.selects "ApartCost$Product" ({ cls := "ApartCost$Product", name := "nextsOf", desc := "(I)I" } : Jvm.MethodName) ({ cls := "ApartCost$Product", name := "nextsOf", desc := "(I)I" } : Jvm.MethodName)),
  (Jvm.Cond.code ({ cls := "ApartCost$Product", name := "nextsOf", desc := "(I)I" } : Jvm.MethodName) prog_5_method_15_code (4 : Nat) (Option.some Jvm.ClassFile.FieldType.int)),
  (Jvm.Cond.methodLink "ApartCost$Planner" (49 : Nat) ({ cls := "ApartCost$Planner", name := "endOf", desc := "(I)J" } : Jvm.MethodName)),
  (Jvm.Cond.instanceMethod ({ cls := "ApartCost$Planner", name := "endOf", desc := "(I)J" } : Jvm.MethodName)),
  (Jvm.Cond.code ({ cls := "ApartCost$Planner", name := "endOf", desc := "(I)J" } : Jvm.MethodName) prog_4_method_11_code (6 : Nat) (Option.some Jvm.ClassFile.FieldType.long)),
  (Jvm.Cond.methodLink "ApartCost$Planner" (87 : Nat) ({ cls := "ApartCost$Product", name := "wholeBy", desc := "(I)I" } : Jvm.MethodName)),
  (Jvm.Cond.instanceMethod ({ cls := "ApartCost$Product", name := "wholeBy", desc := "(I)I" } : Jvm.MethodName)),
  (Jvm.Cond.selects "ApartCost$Product" ({ cls := "ApartCost$Product", name := "wholeBy", desc := "(I)I" } : Jvm.MethodName) ({ cls := "ApartCost$Product", name := "wholeBy", desc := "(I)I" } : Jvm.MethodName)),
  (Jvm.Cond.code ({ cls := "ApartCost$Product", name := "wholeBy", desc := "(I)I" } : Jvm.MethodName) prog_5_method_11_code (2 : Nat) (Option.some Jvm.ClassFile.FieldType.int)),
  (Jvm.Cond.methodLink "ApartCost$Product" (69 : Nat) ({ cls := "ApartCost$Product", name := "freedBy", desc := "(I)I" } : Jvm.MethodName)),
  (Jvm.Cond.instanceMethod ({ cls := "ApartCost$Product", name := "freedBy", desc := "(I)I" } : Jvm.MethodName)),
  (Jvm.Cond.selects "ApartCost$Product" ({ cls := "ApartCost$Product", name := "freedBy", desc := "(I)I" } : Jvm.MethodName) ({ cls := "ApartCost$Product", name := "freedBy", desc := "(I)I" } : Jvm.MethodName)),
  (Jvm.Cond.code ({ cls := "ApartCost$Product", name := "freedBy", desc := "(I)I" } : Jvm.MethodName) prog_5_method_10_code (4 : Nat) (Option.some Jvm.ClassFile.FieldType.int)),
  (Jvm.Cond.methodLink "ApartCost$Planner" (90 : Nat) ({ cls := "ApartCost$Product", name := "freedBy", desc := "(I)I" } : Jvm.MethodName)),
  (Jvm.Cond.methodLink "ApartCost$Planner" (93 : Nat) ({ cls := "ApartCost$Product", name := "restWorth", desc := "(I)J" } : Jvm.MethodName)),
  (Jvm.Cond.instanceMethod ({ cls := "ApartCost$Product", name := "restWorth", desc := "(I)J" } : Jvm.MethodName)),
  (Jvm.Cond.selects "ApartCost$Product" ({ cls := "ApartCost$Product", name := "restWorth", desc := "(I)J" } : Jvm.MethodName) ({ cls := "ApartCost$Product", name := "restWorth", desc := "(I)J" } : Jvm.MethodName)),
  (Jvm.Cond.code ({ cls := "ApartCost$Product", name := "restWorth", desc := "(I)J" } : Jvm.MethodName) prog_5_method_8_code (3 : Nat) (Option.some Jvm.ClassFile.FieldType.long)),
  (Jvm.Cond.methodLink "ApartCost$Planner" (52 : Nat) ({ cls := "ApartCost$Planner", name := "mostFrom", desc := "(IIIJ)J" } : Jvm.MethodName)),
  (Jvm.Cond.instanceMethod ({ cls := "ApartCost$Planner", name := "mostFrom", desc := "(IIIJ)J" } : Jvm.MethodName)),
  (Jvm.Cond.code ({ cls := "ApartCost$Planner", name := "mostFrom", desc := "(IIIJ)J" } : Jvm.MethodName) prog_4_method_9_code (9 : Nat) (Option.some Jvm.ClassFile.FieldType.long)),
  (Jvm.Cond.methodLink "ApartCost$Planner" (64 : Nat) ({ cls := "ApartCost$Planner", name := "mostBy", desc := "(III)J" } : Jvm.MethodName)),
  (Jvm.Cond.instanceMethod ({ cls := "ApartCost$Planner", name := "mostBy", desc := "(III)J" } : Jvm.MethodName)),
  (Jvm.Cond.code ({ cls := "ApartCost$Planner", name := "mostBy", desc := "(III)J" } : Jvm.MethodName) prog_4_method_10_code (4 : Nat) (Option.some Jvm.ClassFile.FieldType.long)),
  (Jvm.Cond.methodLink "ApartCost$Planner" (81 : Nat) ({ cls := "java/lang/Math", name := "max", desc := "(JJ)J" } : Jvm.MethodName)),
  (Jvm.Cond.static ({ cls := "java/lang/Math", name := "max", desc := "(JJ)J" } : Jvm.MethodName)),
  (Jvm.Cond.code ({ cls := "java/lang/Math", name := "max", desc := "(JJ)J" } : Jvm.MethodName) prog_9_method_66_code (4 : Nat) (Option.some Jvm.ClassFile.FieldType.long)),
  (Jvm.Cond.methodLink "ApartCost" (123 : Nat) ({ cls := "ApartCost$Found", name := "keepRow", desc := "(LApartCost$Planner;)V" } : Jvm.MethodName)),
  (Jvm.Cond.instanceMethod ({ cls := "ApartCost$Found", name := "keepRow", desc := "(LApartCost$Planner;)V" } : Jvm.MethodName)),
  (Jvm.Cond.selects "ApartCost$Found" ({ cls := "ApartCost$Found", name := "keepRow", desc := "(LApartCost$Planner;)V" } : Jvm.MethodName) ({ cls := "ApartCost$Found", name := "keepRow", desc := "(LApartCost$Planner;)V" } : Jvm.MethodName)),
  (Jvm.Cond.code ({ cls := "ApartCost$Found", name := "keepRow", desc := "(LApartCost$Planner;)V" } : Jvm.MethodName) prog_2_method_2_code (3 : Nat) (Option.none : Option Jvm.ClassFile.FieldType)),
  (Jvm.Cond.methodLink "ApartCost$Found" (26 : Nat) ({ cls := "ApartCost$Planner", name := "bestNext", desc := "(II)I" } : Jvm.MethodName)),
  (Jvm.Cond.instanceMethod ({ cls := "ApartCost$Planner", name := "bestNext", desc := "(II)I" } : Jvm.MethodName)),
  (Jvm.Cond.selects "ApartCost$Planner" ({ cls := "ApartCost$Planner", name := "bestNext", desc := "(II)I" } : Jvm.MethodName) ({ cls := "ApartCost$Planner", name := "bestNext", desc := "(II)I" } : Jvm.MethodName)),
  (Jvm.Cond.code ({ cls := "ApartCost$Planner", name := "bestNext", desc := "(II)I" } : Jvm.MethodName) prog_4_method_5_code (9 : Nat) (Option.some Jvm.ClassFile.FieldType.int)),
  (Jvm.Cond.methodLink "ApartCost$Found" (32 : Nat) ({ cls := "ApartCost$Found", name := "keepParts", desc := "(LApartCost$Planner;)V" } : Jvm.MethodName)),
  (Jvm.Cond.instanceMethod ({ cls := "ApartCost$Found", name := "keepParts", desc := "(LApartCost$Planner;)V" } : Jvm.MethodName)),
  (Jvm.Cond.code ({ cls := "ApartCost$Found", name := "keepParts", desc := "(LApartCost$Planner;)V" } : Jvm.MethodName) prog_2_method_3_code (4 : Nat) (Option.none : Option Jvm.ClassFile.FieldType)),
  (Jvm.Cond.methodLink "ApartCost$Found" (47 : Nat) ({ cls := "ApartCost$Product", name := "freedBy", desc := "(I)I" } : Jvm.MethodName)),
  (Jvm.Cond.methodLink "ApartCost$Found" (56 : Nat) ({ cls := "ApartCost$Product", name := "wholeBy", desc := "(I)I" } : Jvm.MethodName)),
  (Jvm.Cond.methodLink "ApartCostLaw" (64 : Nat) ({ cls := "ApartCost", name := "step", desc := "(I)I" } : Jvm.MethodName)),
  (Jvm.Cond.instanceMethod ({ cls := "ApartCost", name := "step", desc := "(I)I" } : Jvm.MethodName)),
  (Jvm.Cond.selects "ApartCost" ({ cls := "ApartCost", name := "step", desc := "(I)I" } : Jvm.MethodName) ({ cls := "ApartCost", name := "step", desc := "(I)I" } : Jvm.MethodName)),
  (Jvm.Cond.code ({ cls := "ApartCost", name := "step", desc := "(I)I" } : Jvm.MethodName) prog_1_method_12_code (2 : Nat) (Option.some Jvm.ClassFile.FieldType.int)),
  (Jvm.Cond.methodLink "ApartCostLaw" (69 : Nat) ({ cls := "ApartCost", name := "stops", desc := "(I)I" } : Jvm.MethodName)),
  (Jvm.Cond.instanceMethod ({ cls := "ApartCost", name := "stops", desc := "(I)I" } : Jvm.MethodName)),
  (Jvm.Cond.selects "ApartCost" ({ cls := "ApartCost", name := "stops", desc := "(I)I" } : Jvm.MethodName) ({ cls := "ApartCost", name := "stops", desc := "(I)I" } : Jvm.MethodName)),
  (Jvm.Cond.code ({ cls := "ApartCost", name := "stops", desc := "(I)I" } : Jvm.MethodName) prog_1_method_13_code (2 : Nat) (Option.some Jvm.ClassFile.FieldType.int)),
  (Jvm.Cond.methodLink "ApartCost" (139 : Nat) ({ cls := "ApartCost", name := "member", desc := "(II)I" } : Jvm.MethodName))]
def am_b6 : List Cond := [(Jvm.Cond.static ({ cls := "ApartCost", name := "member", desc := "(II)I" } : Jvm.MethodName)),
  (Jvm.Cond.code ({ cls := "ApartCost", name := "member", desc := "(II)I" } : Jvm.MethodName) prog_1_method_27_code (4 : Nat) (Option.some Jvm.ClassFile.FieldType.int)),
  (Jvm.Cond.methodLink "ApartCostLaw" (73 : Nat) ({ cls := "ApartCost", name := "other", desc := "(I)I" } : Jvm.MethodName)),
  (Jvm.Cond.instanceMethod ({ cls := "ApartCost", name := "other", desc := "(I)I" } : Jvm.MethodName)),
  (Jvm.Cond.selects "ApartCost" ({ cls := "ApartCost", name := "other", desc := "(I)I" } : Jvm.MethodName) ({ cls := "ApartCost", name := "other", desc := "(I)I" } : Jvm.MethodName)),
  (Jvm.Cond.code ({ cls := "ApartCost", name := "other", desc := "(I)I" } : Jvm.MethodName) prog_1_method_14_code (2 : Nat) (Option.some Jvm.ClassFile.FieldType.int)),
  (Jvm.Cond.methodLink "ApartCost" (143 : Nat) ({ cls := "ApartCost$Product", name := "allActs", desc := "()I" } : Jvm.MethodName)),
  (Jvm.Cond.methodLink "ApartCostLaw" (77 : Nat) ({ cls := "ApartCost", name := "gain", desc := "(I)J" } : Jvm.MethodName)),
  (Jvm.Cond.instanceMethod ({ cls := "ApartCost", name := "gain", desc := "(I)J" } : Jvm.MethodName)),
  (Jvm.Cond.selects "ApartCost" ({ cls := "ApartCost", name := "gain", desc := "(I)J" } : Jvm.MethodName) ({ cls := "ApartCost", name := "gain", desc := "(I)J" } : Jvm.MethodName)),
  (Jvm.Cond.code ({ cls := "ApartCost", name := "gain", desc := "(I)J" } : Jvm.MethodName) prog_1_method_15_code (2 : Nat) (Option.some Jvm.ClassFile.FieldType.long)),
  (Jvm.Cond.methodLink "ApartCostLaw" (82 : Nat) ({ cls := "ApartCost", name := "proved", desc := "()Z" } : Jvm.MethodName)),
  (Jvm.Cond.instanceMethod ({ cls := "ApartCost", name := "proved", desc := "()Z" } : Jvm.MethodName)),
  (Jvm.Cond.selects "ApartCost" ({ cls := "ApartCost", name := "proved", desc := "()Z" } : Jvm.MethodName) ({ cls := "ApartCost", name := "proved", desc := "()Z" } : Jvm.MethodName)),
  (Jvm.Cond.code ({ cls := "ApartCost", name := "proved", desc := "()Z" } : Jvm.MethodName) prog_1_method_16_code (1 : Nat) (Option.some Jvm.ClassFile.FieldType.boolean)),
  (Jvm.Cond.methodLink "ApartCostLaw" (87 : Nat) ({ cls := "ApartCost", name := "bound", desc := "()J" } : Jvm.MethodName)),
  (Jvm.Cond.instanceMethod ({ cls := "ApartCost", name := "bound", desc := "()J" } : Jvm.MethodName)),
  (Jvm.Cond.selects "ApartCost" ({ cls := "ApartCost", name := "bound", desc := "()J" } : Jvm.MethodName) ({ cls := "ApartCost", name := "bound", desc := "()J" } : Jvm.MethodName)),
  (Jvm.Cond.code ({ cls := "ApartCost", name := "bound", desc := "()J" } : Jvm.MethodName) prog_1_method_17_code (4 : Nat) (Option.some Jvm.ClassFile.FieldType.long)),
  (Jvm.Cond.methodLink "ApartCost" (159 : Nat) ({ cls := "java/lang/Math", name := "max", desc := "(JJ)J" } : Jvm.MethodName)),
  (Jvm.Cond.methodLink "ApartCost" (165 : Nat) ({ cls := "ApartCost$Product", name := "valueOf", desc := "(I)J" } : Jvm.MethodName)),
  (Jvm.Cond.methodLink "ApartCostLaw" (91 : Nat) ({ cls := "ApartCost", name := "test", desc := "(IJ)I" } : Jvm.MethodName)),
  (Jvm.Cond.instanceMethod ({ cls := "ApartCost", name := "test", desc := "(IJ)I" } : Jvm.MethodName)),
  (Jvm.Cond.selects "ApartCost" ({ cls := "ApartCost", name := "test", desc := "(IJ)I" } : Jvm.MethodName) ({ cls := "ApartCost", name := "test", desc := "(IJ)I" } : Jvm.MethodName)),
  (Jvm.Cond.code ({ cls := "ApartCost", name := "test", desc := "(IJ)I" } : Jvm.MethodName) prog_1_method_18_code (14 : Nat) (Option.some Jvm.ClassFile.FieldType.int)),
  (Jvm.Cond.methodLink "ApartCost" (169 : Nat) ({ cls := "ApartCost$Planner", name := "valueByShare", desc := "(IJ)V" } : Jvm.MethodName)),
  (Jvm.Cond.instanceMethod ({ cls := "ApartCost$Planner", name := "valueByShare", desc := "(IJ)V" } : Jvm.MethodName)),
  (Jvm.Cond.selects "ApartCost$Planner" ({ cls := "ApartCost$Planner", name := "valueByShare", desc := "(IJ)V" } : Jvm.MethodName) ({ cls := "ApartCost$Planner", name := "valueByShare", desc := "(IJ)V" } : Jvm.MethodName)),
  (Jvm.Cond.code ({ cls := "ApartCost$Planner", name := "valueByShare", desc := "(IJ)V" } : Jvm.MethodName) prog_4_method_3_code (4 : Nat) (Option.none : Option Jvm.ClassFile.FieldType)),
  (Jvm.Cond.methodLink "ApartCostLaw" (96 : Nat) ({ cls := "ApartCost", name := "stations", desc := "(I)I" } : Jvm.MethodName)),
  (Jvm.Cond.instanceMethod ({ cls := "ApartCost", name := "stations", desc := "(I)I" } : Jvm.MethodName)),
  (Jvm.Cond.selects "ApartCost" ({ cls := "ApartCost", name := "stations", desc := "(I)I" } : Jvm.MethodName) ({ cls := "ApartCost", name := "stations", desc := "(I)I" } : Jvm.MethodName)),
  (Jvm.Cond.code ({ cls := "ApartCost", name := "stations", desc := "(I)I" } : Jvm.MethodName) prog_1_method_19_code (2 : Nat) (Option.some Jvm.ClassFile.FieldType.int)),
  (Jvm.Cond.methodLink "ApartCost" (173 : Nat) ({ cls := "ApartCost$Line", name := "shareOut", desc := "(II)J" } : Jvm.MethodName)),
  (Jvm.Cond.instanceMethod ({ cls := "ApartCost$Line", name := "shareOut", desc := "(II)J" } : Jvm.MethodName)),
  (Jvm.Cond.selects "ApartCost$Line" ({ cls := "ApartCost$Line", name := "shareOut", desc := "(II)J" } : Jvm.MethodName) ({ cls := "ApartCost$Line", name := "shareOut", desc := "(II)J" } : Jvm.MethodName)),
  (Jvm.Cond.code ({ cls := "ApartCost$Line", name := "shareOut", desc := "(II)J" } : Jvm.MethodName) prog_3_method_2_code (3 : Nat) (Option.some Jvm.ClassFile.FieldType.long)),
  (Jvm.Cond.methodLink "ApartCost$Line" (39 : Nat) ({ cls := "ApartCost$Line", name := "setLimits", desc := "()V" } : Jvm.MethodName)),
  (Jvm.Cond.instanceMethod ({ cls := "ApartCost$Line", name := "setLimits", desc := "()V" } : Jvm.MethodName)),
  (Jvm.Cond.code ({ cls := "ApartCost$Line", name := "setLimits", desc := "()V" } : Jvm.MethodName) prog_3_method_3_code (6 : Nat) (Option.none : Option Jvm.ClassFile.FieldType)),
  (Jvm.Cond.methodLink "ApartCost$Line" (65 : Nat) ({ cls := "java/lang/Math", name := "max", desc := "(JJ)J" } : Jvm.MethodName)),
  (Jvm.Cond.methodLink "ApartCost$Line" (42 : Nat) ({ cls := "java/util/Arrays", name := "fill", desc := "([JJ)V" } : Jvm.MethodName)),
  (Jvm.Cond.methodLink "ApartCost$Line" (45 : Nat) ({ cls := "ApartCost$Line", name := "tryFrom", desc := "(LApartCost$Line;IJ)V" } : Jvm.MethodName)),
  (Jvm.Cond.static ({ cls := "ApartCost$Line", name := "tryFrom", desc := "(LApartCost$Line;IJ)V" } : Jvm.MethodName)),
  (Jvm.Cond.code ({ cls := "ApartCost$Line", name := "tryFrom", desc := "(LApartCost$Line;IJ)V" } : Jvm.MethodName) prog_3_method_4_code (10 : Nat) (Option.none : Option Jvm.ClassFile.FieldType)),
  (Jvm.Cond.methodLink "ApartCost$Line" (74 : Nat) ({ cls := "ApartCost$Line", name := "keepTrial", desc := "(J)V" } : Jvm.MethodName)),
  (Jvm.Cond.instanceMethod ({ cls := "ApartCost$Line", name := "keepTrial", desc := "(J)V" } : Jvm.MethodName)),
  (Jvm.Cond.code ({ cls := "ApartCost$Line", name := "keepTrial", desc := "(J)V" } : Jvm.MethodName) prog_3_method_5_code (4 : Nat) (Option.none : Option Jvm.ClassFile.FieldType)),
  (Jvm.Cond.methodLink "ApartCost$Line" (78 : Nat) ({ cls := "ApartCost$Line", name := "latestFor", desc := "(I)I" } : Jvm.MethodName)),
  (Jvm.Cond.instanceMethod ({ cls := "ApartCost$Line", name := "latestFor", desc := "(I)I" } : Jvm.MethodName)),
  (Jvm.Cond.code ({ cls := "ApartCost$Line", name := "latestFor", desc := "(I)I" } : Jvm.MethodName) prog_3_method_7_code (4 : Nat) (Option.some Jvm.ClassFile.FieldType.int)),
  (Jvm.Cond.methodLink "ApartCost$Line" (91 : Nat) ({ cls := "java/lang/Math", name := "min", desc := "(II)I" } : Jvm.MethodName)),
  (Jvm.Cond.static ({ cls := "java/lang/Math", name := "min", desc := "(II)I" } : Jvm.MethodName)),
  (Jvm.Cond.code ({ cls := "java/lang/Math", name := "min", desc := "(II)I" } : Jvm.MethodName) prog_9_method_69_code (2 : Nat) (Option.some Jvm.ClassFile.FieldType.int)),
  (Jvm.Cond.methodLink "ApartCost$Line" (82 : Nat) ({ cls := "ApartCost$Line", name := "earliestFor", desc := "(I)I" } : Jvm.MethodName)),
  (Jvm.Cond.instanceMethod ({ cls := "ApartCost$Line", name := "earliestFor", desc := "(I)I" } : Jvm.MethodName)),
  (Jvm.Cond.code ({ cls := "ApartCost$Line", name := "earliestFor", desc := "(I)I" } : Jvm.MethodName) prog_3_method_6_code (4 : Nat) (Option.some Jvm.ClassFile.FieldType.int)),
  (Jvm.Cond.methodLink "ApartCost$Line" (88 : Nat) ({ cls := "java/lang/Math", name := "max", desc := "(II)I" } : Jvm.MethodName)),
  (Jvm.Cond.static ({ cls := "java/lang/Math", name := "max", desc := "(II)I" } : Jvm.MethodName)),
  (Jvm.Cond.code ({ cls := "java/lang/Math", name := "max", desc := "(II)I" } : Jvm.MethodName) prog_9_method_65_code (2 : Nat) (Option.some Jvm.ClassFile.FieldType.int))]
def am_b7 : List Cond := [(Jvm.Cond.methodLink "ApartCostLaw" (100 : Nat) ({ cls := "ApartCost", name := "station", desc := "(I)I" } : Jvm.MethodName)),
  (Jvm.Cond.instanceMethod ({ cls := "ApartCost", name := "station", desc := "(I)I" } : Jvm.MethodName)),
  (Jvm.Cond.selects "ApartCost" ({ cls := "ApartCost", name := "station", desc := "(I)I" } : Jvm.MethodName) ({ cls := "ApartCost", name := "station", desc := "(I)I" } : Jvm.MethodName)),
  (Jvm.Cond.code ({ cls := "ApartCost", name := "station", desc := "(I)I" } : Jvm.MethodName) prog_1_method_20_code (2 : Nat) (Option.some Jvm.ClassFile.FieldType.int)),
  (Jvm.Cond.classLink "ApartCostLaw" (10 : Nat) "ApartCostModel"),
  (Jvm.Cond.instantiable "ApartCostModel" (31 : Nat)),
  (Jvm.Cond.methodLink "ApartCostLaw" (12 : Nat) ({ cls := "ApartCostModel", name := "<init>", desc := "()V" } : Jvm.MethodName)),
  (Jvm.Cond.instanceMethod ({ cls := "ApartCostModel", name := "<init>", desc := "()V" } : Jvm.MethodName)),
  (Jvm.Cond.code ({ cls := "ApartCostModel", name := "<init>", desc := "()V" } : Jvm.MethodName) prog_7_method_1_code (2 : Nat) (Option.none : Option Jvm.ClassFile.FieldType)),
  (Jvm.Cond.methodLink "ApartCostModel" (1 : Nat) ({ cls := "java/lang/Object", name := "<init>", desc := "()V" } : Jvm.MethodName)),
  (Jvm.Cond.fieldLink "ApartCostModel" (86 : Nat) "ApartCostModel" "count" "I"),
  (Jvm.Cond.fieldLink "ApartCostModel" (7 : Nat) "ApartCostModel" "freed" "[I"),
  (Jvm.Cond.fieldLink "ApartCostModel" (13 : Nat) "ApartCostModel" "tools" "[I"),
  (Jvm.Cond.fieldLink "ApartCostModel" (16 : Nat) "ApartCostModel" "sides" "[I"),
  (Jvm.Cond.fieldLink "ApartCostModel" (19 : Nat) "ApartCostModel" "costs" "[J"),
  (Jvm.Cond.fieldLink "ApartCostModel" (23 : Nat) "ApartCostModel" "breaking" "[Z"),
  (Jvm.Cond.fieldLink "ApartCostModel" (27 : Nat) "ApartCostModel" "needs" "[Z"),
  (Jvm.Cond.fieldLink "ApartCostModel" (30 : Nat) "ApartCostModel" "changes" "[J"),
  (Jvm.Cond.fieldLink "ApartCostModel" (33 : Nat) "ApartCostModel" "turns" "[J"),
  (Jvm.Cond.fieldLink "ApartCostModel" (36 : Nat) "ApartCostModel" "worths" "[J"),
  (Jvm.Cond.fieldLink "ApartCostModel" (39 : Nat) "ApartCostModel" "above" "[I"),
  (Jvm.Cond.fieldLink "ApartCostModel" (42 : Nat) "ApartCostModel" "below" "[I"),
  (Jvm.Cond.fieldLink "ApartCostModel" (45 : Nat) "ApartCostModel" "rests" "[I"),
  (Jvm.Cond.fieldLink "ApartCostModel" (48 : Nat) "ApartCostModel" "restWorths" "[J"),
  (Jvm.Cond.fieldLink "ApartCostModel" (116 : Nat) "ApartCostModel" "restCount" "I"),
  (Jvm.Cond.fieldLink "ApartCostModel" (51 : Nat) "ApartCostModel" "row" "[I"),
  (Jvm.Cond.fieldLink "ApartCostModel" (54 : Nat) "ApartCostModel" "length" "I"),
  (Jvm.Cond.fieldLink "ApartCostModel" (167 : Nat) "ApartCostModel" "found" "J"),
  (Jvm.Cond.fieldLink "ApartCostModel" (58 : Nat) "ApartCostModel" "brought" "[J"),
  (Jvm.Cond.fieldLink "ApartCostModel" (97 : Nat) "ApartCostModel" "isFresh" "Z"),
  (Jvm.Cond.fieldLink "ApartCostModel" (171 : Nat) "ApartCostModel" "openParts" "I"),
  (Jvm.Cond.fieldLink "ApartCostModel" (174 : Nat) "ApartCostModel" "actsThen" "I"),
  (Jvm.Cond.fieldLink "ApartCostModel" (61 : Nat) "ApartCostModel" "places" "[I"),
  (Jvm.Cond.fieldLink "ApartCostModel" (196 : Nat) "ApartCostModel" "isShared" "Z"),
  (Jvm.Cond.fieldLink "ApartCostModel" (64 : Nat) "ApartCostModel" "tested" "I"),
  (Jvm.Cond.fieldLink "ApartCostModel" (127 : Nat) "ApartCostModel" "testedAs" "I"),
  (Jvm.Cond.fieldLink "ApartCostModel" (67 : Nat) "ApartCostModel" "needed" "[I"),
  (Jvm.Cond.fieldLink "ApartCostModel" (70 : Nat) "ApartCostModel" "least" "[J"),
  (Jvm.Cond.fieldLink "ApartCostModel" (73 : Nat) "ApartCostModel" "values" "[J"),
  (Jvm.Cond.fieldLink "ApartCostModel" (76 : Nat) "ApartCostModel" "tried" "[I"),
  (Jvm.Cond.fieldLink "ApartCostModel" (79 : Nat) "ApartCostModel" "behind" "[Z"),
  (Jvm.Cond.lays "ApartCostModel" "ApartCostModel" "count" "I"),
  (Jvm.Cond.laysFinal "ApartCostModel" "ApartCostModel" "freed" "[I"),
  (Jvm.Cond.laysFinal "ApartCostModel" "ApartCostModel" "tools" "[I"),
  (Jvm.Cond.laysFinal "ApartCostModel" "ApartCostModel" "sides" "[I"),
  (Jvm.Cond.laysFinal "ApartCostModel" "ApartCostModel" "costs" "[J"),
  (Jvm.Cond.laysFinal "ApartCostModel" "ApartCostModel" "breaking" "[Z"),
  (Jvm.Cond.laysFinal "ApartCostModel" "ApartCostModel" "needs" "[Z"),
  (Jvm.Cond.laysFinal "ApartCostModel" "ApartCostModel" "changes" "[J"),
  (Jvm.Cond.laysFinal "ApartCostModel" "ApartCostModel" "turns" "[J"),
  (Jvm.Cond.laysFinal "ApartCostModel" "ApartCostModel" "worths" "[J"),
  (Jvm.Cond.laysFinal "ApartCostModel" "ApartCostModel" "above" "[I"),
  (Jvm.Cond.laysFinal "ApartCostModel" "ApartCostModel" "below" "[I"),
  (Jvm.Cond.laysFinal "ApartCostModel" "ApartCostModel" "rests" "[I"),
  (Jvm.Cond.laysFinal "ApartCostModel" "ApartCostModel" "restWorths" "[J"),
  (Jvm.Cond.lays "ApartCostModel" "ApartCostModel" "restCount" "I"),
  (Jvm.Cond.laysFinal "ApartCostModel" "ApartCostModel" "row" "[I"),
  (Jvm.Cond.lays "ApartCostModel" "ApartCostModel" "length" "I"),
  (Jvm.Cond.lays "ApartCostModel" "ApartCostModel" "found" "J"),
  (Jvm.Cond.laysFinal "ApartCostModel" "ApartCostModel" "brought" "[J")]
def am_b8 : List Cond := [(Jvm.Cond.lays "ApartCostModel" "ApartCostModel" "isFresh" "Z"),
  (Jvm.Cond.lays "ApartCostModel" "ApartCostModel" "openParts" "I"),
  (Jvm.Cond.lays "ApartCostModel" "ApartCostModel" "actsThen" "I"),
  (Jvm.Cond.laysFinal "ApartCostModel" "ApartCostModel" "places" "[I"),
  (Jvm.Cond.lays "ApartCostModel" "ApartCostModel" "isShared" "Z"),
  (Jvm.Cond.lays "ApartCostModel" "ApartCostModel" "tested" "I"),
  (Jvm.Cond.lays "ApartCostModel" "ApartCostModel" "testedAs" "I"),
  (Jvm.Cond.laysFinal "ApartCostModel" "ApartCostModel" "needed" "[I"),
  (Jvm.Cond.laysFinal "ApartCostModel" "ApartCostModel" "least" "[J"),
  (Jvm.Cond.laysFinal "ApartCostModel" "ApartCostModel" "values" "[J"),
  (Jvm.Cond.laysFinal "ApartCostModel" "ApartCostModel" "tried" "[I"),
  (Jvm.Cond.laysFinal "ApartCostModel" "ApartCostModel" "behind" "[Z"),
  (Jvm.Cond.arrayClass Jvm.ClassFile.FieldType.boolean),
  (Jvm.Cond.methodLink "ApartCostLaw" (19 : Nat) ({ cls := "ApartCostModel", name := "act", desc := "(IIIJ)I" } : Jvm.MethodName)),
  (Jvm.Cond.instanceMethod ({ cls := "ApartCostModel", name := "act", desc := "(IIIJ)I" } : Jvm.MethodName)),
  (Jvm.Cond.selects "ApartCostModel" ({ cls := "ApartCostModel", name := "act", desc := "(IIIJ)I" } : Jvm.MethodName) ({ cls := "ApartCostModel", name := "act", desc := "(IIIJ)I" } : Jvm.MethodName)),
  (Jvm.Cond.code ({ cls := "ApartCostModel", name := "act", desc := "(IIIJ)I" } : Jvm.MethodName) prog_7_method_8_code (6 : Nat) (Option.some Jvm.ClassFile.FieldType.int)),
  (Jvm.Cond.methodLink "ApartCostModel" (89 : Nat) ({ cls := "ApartCostModel", name := "isKind", desc := "(I)Z" } : Jvm.MethodName)),
  (Jvm.Cond.static ({ cls := "ApartCostModel", name := "isKind", desc := "(I)Z" } : Jvm.MethodName)),
  (Jvm.Cond.code ({ cls := "ApartCostModel", name := "isKind", desc := "(I)Z" } : Jvm.MethodName) prog_7_method_5_code (1 : Nat) (Option.some Jvm.ClassFile.FieldType.boolean)),
  (Jvm.Cond.methodLink "ApartCostModel" (93 : Nat) ({ cls := "ApartCostModel", name := "isCents", desc := "(J)Z" } : Jvm.MethodName)),
  (Jvm.Cond.static ({ cls := "ApartCostModel", name := "isCents", desc := "(J)Z" } : Jvm.MethodName)),
  (Jvm.Cond.code ({ cls := "ApartCostModel", name := "isCents", desc := "(J)Z" } : Jvm.MethodName) prog_7_method_3_code (2 : Nat) (Option.some Jvm.ClassFile.FieldType.boolean)),
  (Jvm.Cond.constantLong "ApartCostModel" (82 : Nat) (1000000 : Int64)),
  (Jvm.Cond.methodLink "ApartCostLaw" (24 : Nat) ({ cls := "ApartCostModel", name := "before", desc := "(II)Z" } : Jvm.MethodName)),
  (Jvm.Cond.instanceMethod ({ cls := "ApartCostModel", name := "before", desc := "(II)Z" } : Jvm.MethodName)),
  (Jvm.Cond.selects "ApartCostModel" ({ cls := "ApartCostModel", name := "before", desc := "(II)Z" } : Jvm.MethodName) ({ cls := "ApartCostModel", name := "before", desc := "(II)Z" } : Jvm.MethodName)),
  (Jvm.Cond.code ({ cls := "ApartCostModel", name := "before", desc := "(II)Z" } : Jvm.MethodName) prog_7_method_10_code (3 : Nat) (Option.some Jvm.ClassFile.FieldType.boolean)),
  (Jvm.Cond.methodLink "ApartCostModel" (101 : Nat) ({ cls := "ApartCostModel", name := "isAct", desc := "(I)Z" } : Jvm.MethodName)),
  (Jvm.Cond.instanceMethod ({ cls := "ApartCostModel", name := "isAct", desc := "(I)Z" } : Jvm.MethodName)),
  (Jvm.Cond.code ({ cls := "ApartCostModel", name := "isAct", desc := "(I)Z" } : Jvm.MethodName) prog_7_method_7_code (2 : Nat) (Option.some Jvm.ClassFile.FieldType.boolean)),
  (Jvm.Cond.methodLink "ApartCostModel" (104 : Nat) ({ cls := "ApartCostModel", name := "leadsTo", desc := "(II)Z" } : Jvm.MethodName)),
  (Jvm.Cond.instanceMethod ({ cls := "ApartCostModel", name := "leadsTo", desc := "(II)Z" } : Jvm.MethodName)),
  (Jvm.Cond.code ({ cls := "ApartCostModel", name := "leadsTo", desc := "(II)Z" } : Jvm.MethodName) prog_7_method_9_code (7 : Nat) (Option.some Jvm.ClassFile.FieldType.boolean)),
  (Jvm.Cond.methodLink "ApartCostLaw" (29 : Nat) ({ cls := "ApartCostModel", name := "change", desc := "(IIJ)Z" } : Jvm.MethodName)),
  (Jvm.Cond.instanceMethod ({ cls := "ApartCostModel", name := "change", desc := "(IIJ)Z" } : Jvm.MethodName)),
  (Jvm.Cond.selects "ApartCostModel" ({ cls := "ApartCostModel", name := "change", desc := "(IIJ)Z" } : Jvm.MethodName) ({ cls := "ApartCostModel", name := "change", desc := "(IIJ)Z" } : Jvm.MethodName)),
  (Jvm.Cond.code ({ cls := "ApartCostModel", name := "change", desc := "(IIJ)Z" } : Jvm.MethodName) prog_7_method_11_code (5 : Nat) (Option.some Jvm.ClassFile.FieldType.boolean)),
  (Jvm.Cond.methodLink "ApartCostLaw" (33 : Nat) ({ cls := "ApartCostModel", name := "turn", desc := "(IIJ)Z" } : Jvm.MethodName)),
  (Jvm.Cond.instanceMethod ({ cls := "ApartCostModel", name := "turn", desc := "(IIJ)Z" } : Jvm.MethodName)),
  (Jvm.Cond.selects "ApartCostModel" ({ cls := "ApartCostModel", name := "turn", desc := "(IIJ)Z" } : Jvm.MethodName) ({ cls := "ApartCostModel", name := "turn", desc := "(IIJ)Z" } : Jvm.MethodName)),
  (Jvm.Cond.code ({ cls := "ApartCostModel", name := "turn", desc := "(IIJ)Z" } : Jvm.MethodName) prog_7_method_12_code (5 : Nat) (Option.some Jvm.ClassFile.FieldType.boolean)),
  (Jvm.Cond.methodLink "ApartCostLaw" (38 : Nat) ({ cls := "ApartCostModel", name := "worth", desc := "(IJ)Z" } : Jvm.MethodName)),
  (Jvm.Cond.instanceMethod ({ cls := "ApartCostModel", name := "worth", desc := "(IJ)Z" } : Jvm.MethodName)),
  (Jvm.Cond.selects "ApartCostModel" ({ cls := "ApartCostModel", name := "worth", desc := "(IJ)Z" } : Jvm.MethodName) ({ cls := "ApartCostModel", name := "worth", desc := "(IJ)Z" } : Jvm.MethodName)),
  (Jvm.Cond.code ({ cls := "ApartCostModel", name := "worth", desc := "(IJ)Z" } : Jvm.MethodName) prog_7_method_13_code (4 : Nat) (Option.some Jvm.ClassFile.FieldType.boolean)),
  (Jvm.Cond.methodLink "ApartCostModel" (108 : Nat) ({ cls := "ApartCostModel", name := "isPart", desc := "(I)Z" } : Jvm.MethodName)),
  (Jvm.Cond.static ({ cls := "ApartCostModel", name := "isPart", desc := "(I)Z" } : Jvm.MethodName)),
  (Jvm.Cond.code ({ cls := "ApartCostModel", name := "isPart", desc := "(I)Z" } : Jvm.MethodName) prog_7_method_6_code (1 : Nat) (Option.some Jvm.ClassFile.FieldType.boolean)),
  (Jvm.Cond.methodLink "ApartCostModel" (111 : Nat) ({ cls := "ApartCostModel", name := "isWorth", desc := "(J)Z" } : Jvm.MethodName)),
  (Jvm.Cond.static ({ cls := "ApartCostModel", name := "isWorth", desc := "(J)Z" } : Jvm.MethodName)),
  (Jvm.Cond.code ({ cls := "ApartCostModel", name := "isWorth", desc := "(J)Z" } : Jvm.MethodName) prog_7_method_4_code (2 : Nat) (Option.some Jvm.ClassFile.FieldType.boolean)),
  (Jvm.Cond.constantLong "ApartCostModel" (84 : Nat) (-1000000 : Int64)),
  (Jvm.Cond.methodLink "ApartCostLaw" (43 : Nat) ({ cls := "ApartCostModel", name := "rest", desc := "(JJ)Z" } : Jvm.MethodName)),
  (Jvm.Cond.instanceMethod ({ cls := "ApartCostModel", name := "rest", desc := "(JJ)Z" } : Jvm.MethodName)),
  (Jvm.Cond.selects "ApartCostModel" ({ cls := "ApartCostModel", name := "rest", desc := "(JJ)Z" } : Jvm.MethodName) ({ cls := "ApartCostModel", name := "rest", desc := "(JJ)Z" } : Jvm.MethodName)),
  (Jvm.Cond.code ({ cls := "ApartCostModel", name := "rest", desc := "(JJ)Z" } : Jvm.MethodName) prog_7_method_14_code (6 : Nat) (Option.some Jvm.ClassFile.FieldType.boolean)),
  (Jvm.Cond.constantLong "ApartCostModel" (114 : Nat) (4095 : Int64)),
  (Jvm.Cond.methodLink "ApartCostLaw" (48 : Nat) ({ cls := "ApartCostModel", name := "breaks", desc := "(I)Z" } : Jvm.MethodName)),
  (Jvm.Cond.instanceMethod ({ cls := "ApartCostModel", name := "breaks", desc := "(I)Z" } : Jvm.MethodName))]
def am_b9 : List Cond := [(Jvm.Cond.selects "ApartCostModel" ({ cls := "ApartCostModel", name := "breaks", desc := "(I)Z" } : Jvm.MethodName) ({ cls := "ApartCostModel", name := "breaks", desc := "(I)Z" } : Jvm.MethodName)),
  (Jvm.Cond.code ({ cls := "ApartCostModel", name := "breaks", desc := "(I)Z" } : Jvm.MethodName) prog_7_method_15_code (2 : Nat) (Option.some Jvm.ClassFile.FieldType.boolean)),
  (Jvm.Cond.methodLink "ApartCostLaw" (53 : Nat) ({ cls := "ApartCostModel", name := "sure", desc := "(IJJ)Z" } : Jvm.MethodName)),
  (Jvm.Cond.instanceMethod ({ cls := "ApartCostModel", name := "sure", desc := "(IJJ)Z" } : Jvm.MethodName)),
  (Jvm.Cond.selects "ApartCostModel" ({ cls := "ApartCostModel", name := "sure", desc := "(IJJ)Z" } : Jvm.MethodName) ({ cls := "ApartCostModel", name := "sure", desc := "(IJJ)Z" } : Jvm.MethodName)),
  (Jvm.Cond.code ({ cls := "ApartCostModel", name := "sure", desc := "(IJJ)Z" } : Jvm.MethodName) prog_7_method_16_code (6 : Nat) (Option.some Jvm.ClassFile.FieldType.boolean)),
  (Jvm.Cond.constantLong "ApartCostModel" (119 : Nat) (12 : Int64)),
  (Jvm.Cond.methodLink "ApartCostLaw" (58 : Nat) ({ cls := "ApartCostModel", name := "states", desc := "()J" } : Jvm.MethodName)),
  (Jvm.Cond.instanceMethod ({ cls := "ApartCostModel", name := "states", desc := "()J" } : Jvm.MethodName)),
  (Jvm.Cond.selects "ApartCostModel" ({ cls := "ApartCostModel", name := "states", desc := "()J" } : Jvm.MethodName) ({ cls := "ApartCostModel", name := "states", desc := "()J" } : Jvm.MethodName)),
  (Jvm.Cond.code ({ cls := "ApartCostModel", name := "states", desc := "()J" } : Jvm.MethodName) prog_7_method_19_code (7 : Nat) (Option.some Jvm.ClassFile.FieldType.long)),
  (Jvm.Cond.methodLink "ApartCostModel" (124 : Nat) ({ cls := "ApartCostModel", name := "isClosed", desc := "(I)Z" } : Jvm.MethodName)),
  (Jvm.Cond.instanceMethod ({ cls := "ApartCostModel", name := "isClosed", desc := "(I)Z" } : Jvm.MethodName)),
  (Jvm.Cond.code ({ cls := "ApartCostModel", name := "isClosed", desc := "(I)Z" } : Jvm.MethodName) prog_7_method_18_code (5 : Nat) (Option.some Jvm.ClassFile.FieldType.boolean)),
  (Jvm.Cond.methodLink "ApartCostModel" (121 : Nat) ({ cls := "ApartCostModel", name := "has", desc := "(II)Z" } : Jvm.MethodName)),
  (Jvm.Cond.static ({ cls := "ApartCostModel", name := "has", desc := "(II)Z" } : Jvm.MethodName)),
  (Jvm.Cond.code ({ cls := "ApartCostModel", name := "has", desc := "(II)Z" } : Jvm.MethodName) prog_7_method_17_code (2 : Nat) (Option.some Jvm.ClassFile.FieldType.boolean)),
  (Jvm.Cond.methodLink "ApartCostLaw" (63 : Nat) ({ cls := "ApartCostModel", name := "run", desc := "(J)I" } : Jvm.MethodName)),
  (Jvm.Cond.instanceMethod ({ cls := "ApartCostModel", name := "run", desc := "(J)I" } : Jvm.MethodName)),
  (Jvm.Cond.selects "ApartCostModel" ({ cls := "ApartCostModel", name := "run", desc := "(J)I" } : Jvm.MethodName) ({ cls := "ApartCostModel", name := "run", desc := "(J)I" } : Jvm.MethodName)),
  (Jvm.Cond.code ({ cls := "ApartCostModel", name := "run", desc := "(J)I" } : Jvm.MethodName) prog_7_method_28_code (8 : Nat) (Option.some Jvm.ClassFile.FieldType.int)),
  (Jvm.Cond.methodLink "ApartCostModel" (156 : Nat) ({ cls := "ApartCostModel", name := "states", desc := "()J" } : Jvm.MethodName)),
  (Jvm.Cond.methodLink "ApartCostModel" (160 : Nat) ({ cls := "ApartCostModel", name := "reckonValues", desc := "()V" } : Jvm.MethodName)),
  (Jvm.Cond.instanceMethod ({ cls := "ApartCostModel", name := "reckonValues", desc := "()V" } : Jvm.MethodName)),
  (Jvm.Cond.code ({ cls := "ApartCostModel", name := "reckonValues", desc := "()V" } : Jvm.MethodName) prog_7_method_25_code (3 : Nat) (Option.none : Option Jvm.ClassFile.FieldType)),
  (Jvm.Cond.methodLink "ApartCostModel" (140 : Nat) ({ cls := "ApartCostModel", name := "valueOf", desc := "(I)J" } : Jvm.MethodName)),
  (Jvm.Cond.instanceMethod ({ cls := "ApartCostModel", name := "valueOf", desc := "(I)J" } : Jvm.MethodName)),
  (Jvm.Cond.code ({ cls := "ApartCostModel", name := "valueOf", desc := "(I)J" } : Jvm.MethodName) prog_7_method_22_code (6 : Nat) (Option.some Jvm.ClassFile.FieldType.long)),
  (Jvm.Cond.methodLink "ApartCostModel" (132 : Nat) ({ cls := "ApartCostModel", name := "bringsOf", desc := "(II)J" } : Jvm.MethodName)),
  (Jvm.Cond.instanceMethod ({ cls := "ApartCostModel", name := "bringsOf", desc := "(II)J" } : Jvm.MethodName)),
  (Jvm.Cond.code ({ cls := "ApartCostModel", name := "bringsOf", desc := "(II)J" } : Jvm.MethodName) prog_7_method_20_code (7 : Nat) (Option.some Jvm.ClassFile.FieldType.long)),
  (Jvm.Cond.constantLong "ApartCostModel" (130 : Nat) (27720 : Int64)),
  (Jvm.Cond.methodLink "ApartCostModel" (136 : Nat) ({ cls := "ApartCostModel", name := "restOf", desc := "(I)I" } : Jvm.MethodName)),
  (Jvm.Cond.instanceMethod ({ cls := "ApartCostModel", name := "restOf", desc := "(I)I" } : Jvm.MethodName)),
  (Jvm.Cond.code ({ cls := "ApartCostModel", name := "restOf", desc := "(I)I" } : Jvm.MethodName) prog_7_method_21_code (4 : Nat) (Option.some Jvm.ClassFile.FieldType.int)),
  (Jvm.Cond.methodLink "ApartCostModel" (163 : Nat) ({ cls := "ApartCostModel", name := "bestFrom", desc := "(IIJ)J" } : Jvm.MethodName)),
  (Jvm.Cond.instanceMethod ({ cls := "ApartCostModel", name := "bestFrom", desc := "(IIJ)J" } : Jvm.MethodName)),
  (Jvm.Cond.code ({ cls := "ApartCostModel", name := "bestFrom", desc := "(IIJ)J" } : Jvm.MethodName) prog_7_method_26_code (11 : Nat) (Option.some Jvm.ClassFile.FieldType.long)),
  (Jvm.Cond.constantLong "ApartCostModel" (144 : Nat) (1000000000000000 : Int64)),
  (Jvm.Cond.methodLink "ApartCostModel" (146 : Nat) ({ cls := "ApartCostModel", name := "canDo", desc := "(II)Z" } : Jvm.MethodName)),
  (Jvm.Cond.instanceMethod ({ cls := "ApartCostModel", name := "canDo", desc := "(II)Z" } : Jvm.MethodName)),
  (Jvm.Cond.code ({ cls := "ApartCostModel", name := "canDo", desc := "(II)Z" } : Jvm.MethodName) prog_7_method_24_code (3 : Nat) (Option.some Jvm.ClassFile.FieldType.boolean)),
  (Jvm.Cond.methodLink "ApartCostModel" (149 : Nat) ({ cls := "ApartCostModel", name := "stepCost", desc := "(II)J" } : Jvm.MethodName)),
  (Jvm.Cond.instanceMethod ({ cls := "ApartCostModel", name := "stepCost", desc := "(II)J" } : Jvm.MethodName)),
  (Jvm.Cond.code ({ cls := "ApartCostModel", name := "stepCost", desc := "(II)J" } : Jvm.MethodName) prog_7_method_23_code (5 : Nat) (Option.some Jvm.ClassFile.FieldType.long)),
  (Jvm.Cond.methodLink "ApartCostModel" (152 : Nat) ({ cls := "ApartCostModel", name := "spread", desc := "(IIJ)V" } : Jvm.MethodName)),
  (Jvm.Cond.instanceMethod ({ cls := "ApartCostModel", name := "spread", desc := "(IIJ)V" } : Jvm.MethodName)),
  (Jvm.Cond.code ({ cls := "ApartCostModel", name := "spread", desc := "(IIJ)V" } : Jvm.MethodName) prog_7_method_27_code (9 : Nat) (Option.none : Option Jvm.ClassFile.FieldType)),
  (Jvm.Cond.methodLink "ApartCostLaw" (68 : Nat) ({ cls := "ApartCostModel", name := "step", desc := "(I)I" } : Jvm.MethodName)),
  (Jvm.Cond.instanceMethod ({ cls := "ApartCostModel", name := "step", desc := "(I)I" } : Jvm.MethodName)),
  (Jvm.Cond.selects "ApartCostModel" ({ cls := "ApartCostModel", name := "step", desc := "(I)I" } : Jvm.MethodName) ({ cls := "ApartCostModel", name := "step", desc := "(I)I" } : Jvm.MethodName)),
  (Jvm.Cond.code ({ cls := "ApartCostModel", name := "step", desc := "(I)I" } : Jvm.MethodName) prog_7_method_29_code (2 : Nat) (Option.some Jvm.ClassFile.FieldType.int)),
  (Jvm.Cond.methodLink "ApartCostLaw" (72 : Nat) ({ cls := "ApartCostModel", name := "stops", desc := "(I)I" } : Jvm.MethodName)),
  (Jvm.Cond.instanceMethod ({ cls := "ApartCostModel", name := "stops", desc := "(I)I" } : Jvm.MethodName)),
  (Jvm.Cond.selects "ApartCostModel" ({ cls := "ApartCostModel", name := "stops", desc := "(I)I" } : Jvm.MethodName) ({ cls := "ApartCostModel", name := "stops", desc := "(I)I" } : Jvm.MethodName)),
  (Jvm.Cond.code ({ cls := "ApartCostModel", name := "stops", desc := "(I)I" } : Jvm.MethodName) prog_7_method_30_code (4 : Nat) (Option.some Jvm.ClassFile.FieldType.int)),
  (Jvm.Cond.methodLink "ApartCostLaw" (76 : Nat) ({ cls := "ApartCostModel", name := "other", desc := "(I)I" } : Jvm.MethodName)),
  (Jvm.Cond.instanceMethod ({ cls := "ApartCostModel", name := "other", desc := "(I)I" } : Jvm.MethodName)),
  (Jvm.Cond.selects "ApartCostModel" ({ cls := "ApartCostModel", name := "other", desc := "(I)I" } : Jvm.MethodName) ({ cls := "ApartCostModel", name := "other", desc := "(I)I" } : Jvm.MethodName)),
  (Jvm.Cond.code ({ cls := "ApartCostModel", name := "other", desc := "(I)I" } : Jvm.MethodName) prog_7_method_32_code (4 : Nat) (Option.some Jvm.ClassFile.FieldType.int))]
def am_b10 : List Cond := [(Jvm.Cond.methodLink "ApartCostModel" (177 : Nat) ({ cls := "ApartCostModel", name := "isInRow", desc := "(I)Z" } : Jvm.MethodName)),
  (Jvm.Cond.instanceMethod ({ cls := "ApartCostModel", name := "isInRow", desc := "(I)Z" } : Jvm.MethodName)),
  (Jvm.Cond.code ({ cls := "ApartCostModel", name := "isInRow", desc := "(I)Z" } : Jvm.MethodName) prog_7_method_31_code (4 : Nat) (Option.some Jvm.ClassFile.FieldType.boolean)),
  (Jvm.Cond.methodLink "ApartCostLaw" (81 : Nat) ({ cls := "ApartCostModel", name := "gain", desc := "(I)J" } : Jvm.MethodName)),
  (Jvm.Cond.instanceMethod ({ cls := "ApartCostModel", name := "gain", desc := "(I)J" } : Jvm.MethodName)),
  (Jvm.Cond.selects "ApartCostModel" ({ cls := "ApartCostModel", name := "gain", desc := "(I)J" } : Jvm.MethodName) ({ cls := "ApartCostModel", name := "gain", desc := "(I)J" } : Jvm.MethodName)),
  (Jvm.Cond.code ({ cls := "ApartCostModel", name := "gain", desc := "(I)J" } : Jvm.MethodName) prog_7_method_33_code (2 : Nat) (Option.some Jvm.ClassFile.FieldType.long)),
  (Jvm.Cond.methodLink "ApartCostLaw" (86 : Nat) ({ cls := "ApartCostModel", name := "proved", desc := "()Z" } : Jvm.MethodName)),
  (Jvm.Cond.instanceMethod ({ cls := "ApartCostModel", name := "proved", desc := "()Z" } : Jvm.MethodName)),
  (Jvm.Cond.selects "ApartCostModel" ({ cls := "ApartCostModel", name := "proved", desc := "()Z" } : Jvm.MethodName) ({ cls := "ApartCostModel", name := "proved", desc := "()Z" } : Jvm.MethodName)),
  (Jvm.Cond.code ({ cls := "ApartCostModel", name := "proved", desc := "()Z" } : Jvm.MethodName) prog_7_method_34_code (1 : Nat) (Option.some Jvm.ClassFile.FieldType.boolean)),
  (Jvm.Cond.methodLink "ApartCostLaw" (90 : Nat) ({ cls := "ApartCostModel", name := "bound", desc := "()J" } : Jvm.MethodName)),
  (Jvm.Cond.instanceMethod ({ cls := "ApartCostModel", name := "bound", desc := "()J" } : Jvm.MethodName)),
  (Jvm.Cond.selects "ApartCostModel" ({ cls := "ApartCostModel", name := "bound", desc := "()J" } : Jvm.MethodName) ({ cls := "ApartCostModel", name := "bound", desc := "()J" } : Jvm.MethodName)),
  (Jvm.Cond.code ({ cls := "ApartCostModel", name := "bound", desc := "()J" } : Jvm.MethodName) prog_7_method_35_code (6 : Nat) (Option.some Jvm.ClassFile.FieldType.long)),
  (Jvm.Cond.methodLink "ApartCostLaw" (95 : Nat) ({ cls := "ApartCostModel", name := "test", desc := "(IJ)I" } : Jvm.MethodName)),
  (Jvm.Cond.instanceMethod ({ cls := "ApartCostModel", name := "test", desc := "(IJ)I" } : Jvm.MethodName)),
  (Jvm.Cond.selects "ApartCostModel" ({ cls := "ApartCostModel", name := "test", desc := "(IJ)I" } : Jvm.MethodName) ({ cls := "ApartCostModel", name := "test", desc := "(IJ)I" } : Jvm.MethodName)),
  (Jvm.Cond.code ({ cls := "ApartCostModel", name := "test", desc := "(IJ)I" } : Jvm.MethodName) prog_7_method_37_code (12 : Nat) (Option.some Jvm.ClassFile.FieldType.int)),
  (Jvm.Cond.methodLink "ApartCostModel" (180 : Nat) ({ cls := "ApartCostModel", name := "bestWith", desc := "(II)J" } : Jvm.MethodName)),
  (Jvm.Cond.instanceMethod ({ cls := "ApartCostModel", name := "bestWith", desc := "(II)J" } : Jvm.MethodName)),
  (Jvm.Cond.code ({ cls := "ApartCostModel", name := "bestWith", desc := "(II)J" } : Jvm.MethodName) prog_7_method_36_code (5 : Nat) (Option.some Jvm.ClassFile.FieldType.long)),
  (Jvm.Cond.methodLink "ApartCostLaw" (99 : Nat) ({ cls := "ApartCostModel", name := "stations", desc := "(I)I" } : Jvm.MethodName)),
  (Jvm.Cond.instanceMethod ({ cls := "ApartCostModel", name := "stations", desc := "(I)I" } : Jvm.MethodName)),
  (Jvm.Cond.selects "ApartCostModel" ({ cls := "ApartCostModel", name := "stations", desc := "(I)I" } : Jvm.MethodName) ({ cls := "ApartCostModel", name := "stations", desc := "(I)I" } : Jvm.MethodName)),
  (Jvm.Cond.code ({ cls := "ApartCostModel", name := "stations", desc := "(I)I" } : Jvm.MethodName) prog_7_method_41_code (8 : Nat) (Option.some Jvm.ClassFile.FieldType.int)),
  (Jvm.Cond.constantLong "ApartCostModel" (183 : Nat) (-1 : Int64)),
  (Jvm.Cond.methodLink "ApartCostModel" (185 : Nat) ({ cls := "ApartCostModel", name := "keeps", desc := "([I)Z" } : Jvm.MethodName)),
  (Jvm.Cond.instanceMethod ({ cls := "ApartCostModel", name := "keeps", desc := "([I)Z" } : Jvm.MethodName)),
  (Jvm.Cond.code ({ cls := "ApartCostModel", name := "keeps", desc := "([I)Z" } : Jvm.MethodName) prog_7_method_38_code (5 : Nat) (Option.some Jvm.ClassFile.FieldType.boolean)),
  (Jvm.Cond.methodLink "ApartCostModel" (189 : Nat) ({ cls := "ApartCostModel", name := "longestOf", desc := "([I)J" } : Jvm.MethodName)),
  (Jvm.Cond.instanceMethod ({ cls := "ApartCostModel", name := "longestOf", desc := "([I)J" } : Jvm.MethodName)),
  (Jvm.Cond.code ({ cls := "ApartCostModel", name := "longestOf", desc := "([I)J" } : Jvm.MethodName) prog_7_method_39_code (8 : Nat) (Option.some Jvm.ClassFile.FieldType.long)),
  (Jvm.Cond.methodLink "ApartCostModel" (193 : Nat) ({ cls := "ApartCostModel", name := "next", desc := "(I)Z" } : Jvm.MethodName)),
  (Jvm.Cond.instanceMethod ({ cls := "ApartCostModel", name := "next", desc := "(I)Z" } : Jvm.MethodName)),
  (Jvm.Cond.code ({ cls := "ApartCostModel", name := "next", desc := "(I)Z" } : Jvm.MethodName) prog_7_method_40_code (3 : Nat) (Option.some Jvm.ClassFile.FieldType.boolean)),
  (Jvm.Cond.methodLink "ApartCostLaw" (103 : Nat) ({ cls := "ApartCostModel", name := "station", desc := "(I)I" } : Jvm.MethodName)),
  (Jvm.Cond.instanceMethod ({ cls := "ApartCostModel", name := "station", desc := "(I)I" } : Jvm.MethodName)),
  (Jvm.Cond.selects "ApartCostModel" ({ cls := "ApartCostModel", name := "station", desc := "(I)I" } : Jvm.MethodName) ({ cls := "ApartCostModel", name := "station", desc := "(I)I" } : Jvm.MethodName)),
  (Jvm.Cond.code ({ cls := "ApartCostModel", name := "station", desc := "(I)I" } : Jvm.MethodName) prog_7_method_42_code (2 : Nat) (Option.some Jvm.ClassFile.FieldType.int)),
  (Jvm.Cond.constantLong "ApartCostLaw" (13 : Nat) (4294967295 : Int64))]
def am_big : List Cond := am_b0 ++ (am_b1 ++ (am_b2 ++ (am_b3 ++ (am_b4 ++ (am_b5 ++ (am_b6 ++ (am_b7 ++ (am_b8 ++ (am_b9 ++ (am_b10))))))))))
set_option maxRecDepth 20000 in
theorem am_g0 : GoodIn lw_tbl am_b0 := goodIn_r0 _ [0, 1, 2, 3, 4, 5, 6, 7, 8, 9, 10, 11, 12, 13, 14, 15, 16, 17, 18, 19, 20, 21, 22, 23, 24, 25, 26, 27, 28, 29, 30, 31, 32, 33, 34, 35, 36, 37, 38, 39, 40, 41, 42, 43, 44, 45, 46, 47, 48, 49, 50, 51, 52, 53, 54, 55, 56, 57, 58, 59] rfl (by decide +kernel)
set_option maxRecDepth 20000 in
theorem am_g1 : GoodIn lw_tbl am_b1 := goodIn_r0 _ [60, 61, 62, 63, 64, 65, 66, 67, 68, 69, 70, 71, 72, 73, 74, 75, 76, 77, 78, 79, 80, 81, 82, 83, 84, 86, 88, 90, 92, 94, 96, 98, 100, 102, 104, 106, 108, 110, 113, 114, 115, 116, 117, 118, 119, 120, 121, 122, 123, 124, 125, 126, 127, 129, 131, 133, 136, 137, 139, 140] rfl (by decide +kernel)
set_option maxRecDepth 20000 in
theorem am_g2 : GoodIn lw_tbl am_b2 := goodIn_r0 _ [141, 142, 143, 144, 145, 146, 147, 148, 149, 150, 151, 152, 153, 154, 155, 156, 157, 159, 161, 163, 165, 167, 169, 171, 174, 175, 176, 177, 178, 179, 180, 181, 182, 183, 184, 185, 186, 187, 188, 189, 190, 191, 192, 194, 196, 198, 200, 202, 204, 206, 209, 210, 211, 212, 213, 215, 217, 219, 222, 223] rfl (by decide +kernel)
set_option maxRecDepth 20000 in
theorem am_g3 : GoodIn lw_tbl am_b3 := goodIn_r0 _ [224, 225, 226, 227, 228, 229, 230, 231, 232, 233, 234, 235, 236, 237, 238, 239, 240, 241, 242, 243, 244, 245, 246, 247, 248, 249, 250, 251, 252, 253, 254, 256, 257, 258, 259, 260, 261, 262, 263, 264, 265, 266, 267, 268, 269, 270, 271, 272, 273, 274, 275, 276, 277, 278, 279, 280, 281, 282, 283, 284] rfl (by decide +kernel)
set_option maxRecDepth 20000 in
theorem am_g4 : GoodIn lw_tbl am_b4 := goodIn_r0 _ [286, 287, 288, 289, 290, 291, 292, 293, 294, 295, 296, 297, 298, 299, 300, 301, 302, 303, 304, 305, 306, 307, 308, 309, 310, 311, 312, 313, 314, 316, 317, 318, 319, 320, 321, 322, 323, 324, 325, 326, 327, 328, 329, 330, 331, 332, 333, 334, 335, 336, 337, 338, 339, 340, 342, 343, 344, 345, 346, 347] rfl (by decide +kernel)
set_option maxRecDepth 20000 in
theorem am_g5 : GoodIn lw_tbl am_b5 := goodIn_r0 _ [348, 349, 350, 351, 352, 353, 355, 356, 357, 358, 359, 360, 361, 362, 364, 365, 366, 367, 368, 369, 370, 371, 372, 373, 374, 375, 376, 377, 378, 380, 382, 383, 384, 386, 387, 388, 389, 390, 391, 392, 393, 394, 395, 396, 397, 398, 399, 401, 402, 403, 404, 406, 407, 408, 409, 410, 411, 412, 413, 414] rfl (by decide +kernel)
set_option maxRecDepth 20000 in
theorem am_g6 : GoodIn lw_tbl am_b6 := goodIn_r0 _ [415, 416, 417, 418, 419, 420, 421, 422, 423, 424, 425, 426, 427, 428, 429, 430, 431, 432, 433, 434, 435, 436, 437, 438, 439, 440, 441, 442, 443, 444, 445, 446, 447, 448, 449, 450, 451, 452, 454, 455, 457, 458, 459, 460, 461, 462, 464, 465, 466, 468, 469, 470, 471, 472, 473, 475, 476, 477, 478, 479] rfl (by decide +kernel)
set_option maxRecDepth 20000 in
theorem am_g7 : GoodIn lw_tbl am_b7 := goodIn_r0 _ [480, 481, 482, 483, 484, 485, 486, 487, 488, 489, 490, 491, 492, 493, 494, 495, 496, 497, 498, 499, 500, 501, 502, 503, 504, 505, 506, 507, 508, 509, 510, 511, 512, 513, 514, 515, 516, 517, 518, 519, 520, 521, 523, 525, 527, 529, 531, 533, 535, 537, 539, 541, 543, 545, 547, 549, 551, 553, 555, 557] rfl (by decide +kernel)
set_option maxRecDepth 20000 in
theorem am_g8 : GoodIn lw_tbl am_b8 := goodIn_r0 _ [559, 561, 563, 565, 567, 569, 571, 573, 575, 577, 579, 581, 584, 585, 586, 587, 588, 589, 590, 591, 592, 593, 594, 595, 596, 597, 598, 599, 600, 602, 603, 604, 606, 607, 608, 609, 610, 611, 612, 613, 614, 615, 616, 617, 618, 619, 620, 621, 622, 623, 624, 625, 626, 627, 628, 629, 630, 631, 632, 633] rfl (by decide +kernel)
set_option maxRecDepth 20000 in
theorem am_g9 : GoodIn lw_tbl am_b9 := goodIn_r0 _ [634, 635, 636, 637, 638, 639, 640, 641, 642, 643, 644, 645, 647, 648, 649, 650, 651, 652, 653, 654, 655, 656, 657, 659, 660, 661, 663, 664, 665, 667, 668, 669, 670, 672, 673, 674, 676, 677, 678, 679, 681, 682, 683, 685, 686, 687, 689, 690, 691, 692, 693, 694, 695, 696, 697, 698, 699, 700, 701, 702] rfl (by decide +kernel)
set_option maxRecDepth 20000 in
theorem am_g10 : GoodIn lw_tbl am_b10 := goodIn_r0 _ [703, 705, 706, 707, 708, 709, 710, 711, 712, 713, 714, 715, 716, 717, 718, 719, 720, 721, 722, 723, 725, 726, 727, 728, 729, 730, 731, 732, 734, 735, 736, 738, 739, 740, 742, 743, 744, 745, 746, 747, 748] rfl (by decide +kernel)
theorem am_big_good : GoodIn lw_tbl am_big := goodIn_app0 am_g0 (goodIn_app0 am_g1 (goodIn_app0 am_g2 (goodIn_app0 am_g3 (goodIn_app0 am_g4 (goodIn_app0 am_g5 (goodIn_app0 am_g6 (goodIn_app0 am_g7 (goodIn_app0 am_g8 (goodIn_app0 am_g9 (am_g10))))))))))
set_option maxRecDepth 20000 in
theorem am_inX0 : ∀ w ∈ u_ws RX0 TX0 4, w ∈ am_big := by decide +kernel
set_option maxRecDepth 20000 in
theorem am_inX1 : ∀ w ∈ u_ws RX1 TX1 14, w ∈ am_big := by decide +kernel
set_option maxRecDepth 20000 in
theorem am_inX2 : ∀ w ∈ u_ws RX2 TX2 4, w ∈ am_big := by decide +kernel
set_option maxRecDepth 20000 in
theorem am_inX3 : ∀ w ∈ u_ws RX3 TX3 8, w ∈ am_big := by decide +kernel
set_option maxRecDepth 20000 in
theorem am_inX4 : ∀ w ∈ u_ws RX4 TX4 8, w ∈ am_big := by decide +kernel
set_option maxRecDepth 20000 in
theorem am_inX5 : ∀ w ∈ u_ws RX5 TX5 31, w ∈ am_big := by decide +kernel
theorem am_in (k : Nat) {w : Cond} (h : am_big[k]? = some w) : w ∈ am_big := List.mem_of_getElem? h
theorem am_ht {c : Cond} {args : Array Value} {s : State} (hts : ∀ w ∈ (c :: am_big), w.before args s = true) : ∀ (k : Nat) (w : Cond), am_big[k]? = some w → w.before args s = true := fun _ w h => hts w (List.mem_cons_of_mem _ (List.mem_of_getElem? h))
theorem am_gN {c : Cond} {y : MethodName} {b : ByteArray} {mL : Nat} {ret : Option FieldType} (h : Cond.code y b mL ret ∈ am_big) : GoodIn (c :: am_big) (Cond.code y b mL ret :: am_big) := fun w hw => by
  rcases List.mem_cons.mp hw with rfl | hw
  · exact ⟨List.mem_cons_of_mem _ h, (am_big_good _ h).2⟩
  · exact ⟨List.mem_cons_of_mem _ hw, (am_big_good _ hw).2⟩
theorem am_gS {c : Cond} {own : String} {idx : Nat} {y : MethodName} {b : ByteArray} {mL : Nat} {ret : Option FieldType} (h1 : Cond.methodLink own idx y ∈ am_big) (h2 : Cond.static y ∈ am_big) (h3 : Cond.initialized y.cls ∈ am_big) (h : Cond.code y b mL ret ∈ am_big) : GoodIn (c :: am_big) (va_wsS own idx y (Cond.code y b mL ret :: am_big)) := fun w hw => by
  unfold va_wsS at hw
  rcases List.mem_append.mp hw with hw | hw
  · have hb : w ∈ am_big := by
      simp only [List.mem_cons, List.not_mem_nil, or_false] at hw
      rcases hw with rfl | rfl | rfl <;> assumption
    exact ⟨List.mem_cons_of_mem _ hb, (am_big_good _ hb).2⟩
  · exact am_gN h w hw
theorem am_gV {c : Cond} {own C : String} {idx : Nat} {y : MethodName} {b : ByteArray} {mL : Nat} {ret : Option FieldType} (h1 : Cond.methodLink own idx y ∈ am_big) (h2 : Cond.instanceMethod y ∈ am_big) (h3 : Cond.selects C y y ∈ am_big) (h4 : Cond.initialized C ∈ am_big) (h : Cond.code y b mL ret ∈ am_big) : GoodIn (c :: am_big) (wsV own idx C y (Cond.code y b mL ret :: am_big)) := fun w hw => by
  unfold wsV at hw
  rcases List.mem_append.mp hw with hw | hw
  · have hb : w ∈ am_big := by
      simp only [List.mem_cons, List.not_mem_nil, or_false] at hw
      rcases hw with rfl | rfl | rfl | rfl <;> assumption
    exact ⟨List.mem_cons_of_mem _ hb, (am_big_good _ hb).2⟩
  · exact am_gN h w hw
def nwL : List (String × Nat × MethodName × String) := [("ApartCost", 27, ⟨"ApartCost$Found", "<init>", "()V"⟩, "ApartCost"), ("ApartCost$Product", 58, ⟨"ApartCost", "has", "(II)Z"⟩, "ApartCost"), ("ApartCost$Planner", 60, ⟨"ApartCost", "has", "(II)Z"⟩, "ApartCost"), ("ApartCost$Found", 59, ⟨"ApartCost", "has", "(II)Z"⟩, "ApartCost"), ("ApartCost$Line", 58, ⟨"ApartCost", "has", "(II)Z"⟩, "ApartCost")]
abbrev cX0_init : ByteArray := prog_1_method_1_code
def yX0_init : MethodName := ⟨"ApartCost", "<init>", "()V"⟩
abbrev wsX0_init : List Cond := .code yX0_init cX0_init 1 none :: am_big
abbrev cX1_init : ByteArray := prog_5_method_1_code
def yX1_init : MethodName := ⟨"ApartCost$Product", "<init>", "()V"⟩
abbrev wsX1_init : List Cond := .code yX1_init cX1_init 1 none :: am_big
abbrev cJA_fillJ : ByteArray := prog_10_method_101_code
def yJA_fillJ : MethodName := ⟨"java/util/Arrays", "fill", "([JJ)V"⟩
abbrev wsJA_fillJ : List Cond := .code yJA_fillJ cJA_fillJ 5 none :: am_big
abbrev cX2_init : ByteArray := prog_4_method_1_code
def yX2_init : MethodName := ⟨"ApartCost$Planner", "<init>", "(LApartCost$Product;)V"⟩
abbrev wsX2_init : List Cond := .code yX2_init cX2_init 2 none :: am_big
abbrev cX3_init : ByteArray := prog_2_method_1_code
def yX3_init : MethodName := ⟨"ApartCost$Found", "<init>", "()V"⟩
abbrev wsX3_init : List Cond := .code yX3_init cX3_init 1 none :: am_big
abbrev cX4_init : ByteArray := prog_3_method_1_code
def yX4_init : MethodName := ⟨"ApartCost$Line", "<init>", "(LApartCost$Product;)V"⟩
abbrev wsX4_init : List Cond := .code yX4_init cX4_init 2 none :: am_big
abbrev cJA_fillI : ByteArray := prog_10_method_103_code
def yJA_fillI : MethodName := ⟨"java/util/Arrays", "fill", "([II)V"⟩
abbrev wsJA_fillI : List Cond := .code yJA_fillI cJA_fillI 4 none :: am_big
abbrev cX0_act : ByteArray := prog_1_method_2_code
def yX0_act : MethodName := ⟨"ApartCost", "act", "(IIIJ)I"⟩
abbrev wsX0_act : List Cond := .code yX0_act cX0_act 7 (some .int) :: am_big
abbrev cX0_isPart : ByteArray := prog_1_method_21_code
def yX0_isPart : MethodName := ⟨"ApartCost", "isPart", "(I)Z"⟩
abbrev wsX0_isPart : List Cond := .code yX0_isPart cX0_isPart 1 (some .boolean) :: am_big
abbrev cX0_isKind : ByteArray := prog_1_method_22_code
def yX0_isKind : MethodName := ⟨"ApartCost", "isKind", "(I)Z"⟩
abbrev wsX0_isKind : List Cond := .code yX0_isKind cX0_isKind 1 (some .boolean) :: am_big
abbrev cX0_isPrice : ByteArray := prog_1_method_24_code
def yX0_isPrice : MethodName := ⟨"ApartCost", "isPrice", "(J)Z"⟩
abbrev wsX0_isPrice : List Cond := .code yX0_isPrice cX0_isPrice 2 (some .boolean) :: am_big
abbrev cX1_addAct : ByteArray := prog_5_method_4_code
def yX1_addAct : MethodName := ⟨"ApartCost$Product", "addAct", "(IIIJ)I"⟩
abbrev wsX1_addAct : List Cond := .code yX1_addAct cX1_addAct 7 (some .int) :: am_big
abbrev cX0_before : ByteArray := prog_1_method_3_code
def yX0_before : MethodName := ⟨"ApartCost", "before", "(II)Z"⟩
abbrev wsX0_before : List Cond := .code yX0_before cX0_before 3 (some .boolean) :: am_big
abbrev cX1_hasAct : ByteArray := prog_5_method_2_code
def yX1_hasAct : MethodName := ⟨"ApartCost$Product", "hasAct", "(I)Z"⟩
abbrev wsX1_hasAct : List Cond := .code yX1_hasAct cX1_hasAct 2 (some .boolean) :: am_big
abbrev cX0_has : ByteArray := prog_1_method_26_code
def yX0_has : MethodName := ⟨"ApartCost", "has", "(II)Z"⟩
abbrev wsX0_has : List Cond := .code yX0_has cX0_has 2 (some .boolean) :: am_big
abbrev cX1_addNeed : ByteArray := prog_5_method_5_code
def yX1_addNeed : MethodName := ⟨"ApartCost$Product", "addNeed", "(II)V"⟩
abbrev wsX1_addNeed : List Cond := .code yX1_addNeed cX1_addNeed 5 none :: am_big
abbrev cX0_change : ByteArray := prog_1_method_4_code
def yX0_change : MethodName := ⟨"ApartCost", "change", "(IIJ)Z"⟩
abbrev wsX0_change : List Cond := .code yX0_change cX0_change 5 (some .boolean) :: am_big
abbrev cX0_isMove : ByteArray := prog_1_method_23_code
def yX0_isMove : MethodName := ⟨"ApartCost", "isMove", "(II)Z"⟩
abbrev wsX0_isMove : List Cond := .code yX0_isMove cX0_isMove 2 (some .boolean) :: am_big
abbrev cX0_turn : ByteArray := prog_1_method_5_code
def yX0_turn : MethodName := ⟨"ApartCost", "turn", "(IIJ)Z"⟩
abbrev wsX0_turn : List Cond := .code yX0_turn cX0_turn 5 (some .boolean) :: am_big
abbrev cX0_worth : ByteArray := prog_1_method_6_code
def yX0_worth : MethodName := ⟨"ApartCost", "worth", "(IJ)Z"⟩
abbrev wsX0_worth : List Cond := .code yX0_worth cX0_worth 4 (some .boolean) :: am_big
abbrev cX0_isWorth : ByteArray := prog_1_method_25_code
def yX0_isWorth : MethodName := ⟨"ApartCost", "isWorth", "(J)Z"⟩
abbrev wsX0_isWorth : List Cond := .code yX0_isWorth cX0_isWorth 2 (some .boolean) :: am_big
abbrev cX0_rest : ByteArray := prog_1_method_7_code
def yX0_rest : MethodName := ⟨"ApartCost", "rest", "(JJ)Z"⟩
abbrev wsX0_rest : List Cond := .code yX0_rest cX0_rest 5 (some .boolean) :: am_big
abbrev cX1_tellRest : ByteArray := prog_5_method_6_code
def yX1_tellRest : MethodName := ⟨"ApartCost$Product", "tellRest", "(IJ)Z"⟩
abbrev wsX1_tellRest : List Cond := .code yX1_tellRest cX1_tellRest 5 (some .boolean) :: am_big
abbrev cX1_placeOfRest : ByteArray := prog_5_method_7_code
def yX1_placeOfRest : MethodName := ⟨"ApartCost$Product", "placeOfRest", "(I)I"⟩
abbrev wsX1_placeOfRest : List Cond := .code yX1_placeOfRest cX1_placeOfRest 3 (some .int) :: am_big
abbrev cX0_breaks : ByteArray := prog_1_method_8_code
def yX0_breaks : MethodName := ⟨"ApartCost", "breaks", "(I)Z"⟩
abbrev wsX0_breaks : List Cond := .code yX0_breaks cX0_breaks 2 (some .boolean) :: am_big
abbrev cX0_sure : ByteArray := prog_1_method_9_code
def yX0_sure : MethodName := ⟨"ApartCost", "sure", "(IJJ)Z"⟩
abbrev wsX0_sure : List Cond := .code yX0_sure cX0_sure 6 (some .boolean) :: am_big
abbrev cX0_states : ByteArray := prog_1_method_10_code
def yX0_states : MethodName := ⟨"ApartCost", "states", "()J"⟩
abbrev wsX0_states : List Cond := .code yX0_states cX0_states 1 (some .long) :: am_big
abbrev cX1_countStates : ByteArray := prog_5_method_16_code
def yX1_countStates : MethodName := ⟨"ApartCost$Product", "countStates", "()J"⟩
abbrev wsX1_countStates : List Cond := .code yX1_countStates cX1_countStates 4 (some .long) :: am_big
abbrev cX1_allActs : ByteArray := prog_5_method_3_code
def yX1_allActs : MethodName := ⟨"ApartCost$Product", "allActs", "()I"⟩
abbrev wsX1_allActs : List Cond := .code yX1_allActs cX1_allActs 1 (some .int) :: am_big
abbrev cX1_lastsOf : ByteArray := prog_5_method_14_code
def yX1_lastsOf : MethodName := ⟨"ApartCost$Product", "lastsOf", "(I)I"⟩
abbrev wsX1_lastsOf : List Cond := .code yX1_lastsOf cX1_lastsOf 3 (some .int) :: am_big
abbrev cX1_neededBy : ByteArray := prog_5_method_13_code
def yX1_neededBy : MethodName := ⟨"ApartCost$Product", "neededBy", "(I)I"⟩
abbrev wsX1_neededBy : List Cond := .code yX1_neededBy cX1_neededBy 4 (some .int) :: am_big
abbrev cJI_bitCount : ByteArray := prog_8_method_49_code
def yJI_bitCount : MethodName := ⟨"java/lang/Integer", "bitCount", "(I)I"⟩
abbrev wsJI_bitCount : List Cond := .code yJI_bitCount cJI_bitCount 1 (some .int) :: am_big
abbrev cX0_run : ByteArray := prog_1_method_11_code
def yX0_run : MethodName := ⟨"ApartCost", "run", "(J)I"⟩
abbrev wsX0_run : List Cond := .code yX0_run cX0_run 3 (some .int) :: am_big
abbrev cX2_valueAsTold : ByteArray := prog_4_method_2_code
def yX2_valueAsTold : MethodName := ⟨"ApartCost$Planner", "valueAsTold", "()V"⟩
abbrev wsX2_valueAsTold : List Cond := .code yX2_valueAsTold cX2_valueAsTold 2 none :: am_big
abbrev cX1_valueOf : ByteArray := prog_5_method_9_code
def yX1_valueOf : MethodName := ⟨"ApartCost$Product", "valueOf", "(I)J"⟩
abbrev wsX1_valueOf : List Cond := .code yX1_valueOf cX1_valueOf 2 (some .long) :: am_big
abbrev cX2_greatestGain : ByteArray := prog_4_method_4_code
def yX2_greatestGain : MethodName := ⟨"ApartCost$Planner", "greatestGain", "()J"⟩
abbrev wsX2_greatestGain : List Cond := .code yX2_greatestGain cX2_greatestGain 2 (some .long) :: am_big
abbrev cX2_setSteps : ByteArray := prog_4_method_6_code
def yX2_setSteps : MethodName := ⟨"ApartCost$Planner", "setSteps", "()V"⟩
abbrev wsX2_setSteps : List Cond := .code yX2_setSteps cX2_setSteps 3 none :: am_big
abbrev cX2_stepPlace : ByteArray := prog_4_method_7_code
def yX2_stepPlace : MethodName := ⟨"ApartCost$Planner", "stepPlace", "(II)I"⟩
abbrev wsX2_stepPlace : List Cond := .code yX2_stepPlace cX2_stepPlace 2 (some .int) :: am_big
abbrev cX1_centsOfStep : ByteArray := prog_5_method_12_code
def yX1_centsOfStep : MethodName := ⟨"ApartCost$Product", "centsOfStep", "(II)J"⟩
abbrev wsX1_centsOfStep : List Cond := .code yX1_centsOfStep cX1_centsOfStep 7 (some .long) :: am_big
abbrev cX2_setMost : ByteArray := prog_4_method_8_code
def yX2_setMost : MethodName := ⟨"ApartCost$Planner", "setMost", "(I)V"⟩
abbrev wsX2_setMost : List Cond := .code yX2_setMost cX2_setMost 7 none :: am_big
abbrev cX1_nextsOf : ByteArray := prog_5_method_15_code
def yX1_nextsOf : MethodName := ⟨"ApartCost$Product", "nextsOf", "(I)I"⟩
abbrev wsX1_nextsOf : List Cond := .code yX1_nextsOf cX1_nextsOf 4 (some .int) :: am_big
abbrev cX2_endOf : ByteArray := prog_4_method_11_code
def yX2_endOf : MethodName := ⟨"ApartCost$Planner", "endOf", "(I)J"⟩
abbrev wsX2_endOf : List Cond := .code yX2_endOf cX2_endOf 6 (some .long) :: am_big
abbrev cX1_wholeBy : ByteArray := prog_5_method_11_code
def yX1_wholeBy : MethodName := ⟨"ApartCost$Product", "wholeBy", "(I)I"⟩
abbrev wsX1_wholeBy : List Cond := .code yX1_wholeBy cX1_wholeBy 2 (some .int) :: am_big
abbrev cX1_freedBy : ByteArray := prog_5_method_10_code
def yX1_freedBy : MethodName := ⟨"ApartCost$Product", "freedBy", "(I)I"⟩
abbrev wsX1_freedBy : List Cond := .code yX1_freedBy cX1_freedBy 4 (some .int) :: am_big
abbrev cX1_restWorth : ByteArray := prog_5_method_8_code
def yX1_restWorth : MethodName := ⟨"ApartCost$Product", "restWorth", "(I)J"⟩
abbrev wsX1_restWorth : List Cond := .code yX1_restWorth cX1_restWorth 3 (some .long) :: am_big
abbrev cX2_mostFrom : ByteArray := prog_4_method_9_code
def yX2_mostFrom : MethodName := ⟨"ApartCost$Planner", "mostFrom", "(IIIJ)J"⟩
abbrev wsX2_mostFrom : List Cond := .code yX2_mostFrom cX2_mostFrom 9 (some .long) :: am_big
abbrev cX2_mostBy : ByteArray := prog_4_method_10_code
def yX2_mostBy : MethodName := ⟨"ApartCost$Planner", "mostBy", "(III)J"⟩
abbrev wsX2_mostBy : List Cond := .code yX2_mostBy cX2_mostBy 4 (some .long) :: am_big
abbrev cJM_maxL : ByteArray := prog_9_method_66_code
def yJM_maxL : MethodName := ⟨"java/lang/Math", "max", "(JJ)J"⟩
abbrev wsJM_maxL : List Cond := .code yJM_maxL cJM_maxL 4 (some .long) :: am_big
abbrev cX3_keepRow : ByteArray := prog_2_method_2_code
def yX3_keepRow : MethodName := ⟨"ApartCost$Found", "keepRow", "(LApartCost$Planner;)V"⟩
abbrev wsX3_keepRow : List Cond := .code yX3_keepRow cX3_keepRow 3 none :: am_big
abbrev cX2_bestNext : ByteArray := prog_4_method_5_code
def yX2_bestNext : MethodName := ⟨"ApartCost$Planner", "bestNext", "(II)I"⟩
abbrev wsX2_bestNext : List Cond := .code yX2_bestNext cX2_bestNext 9 (some .int) :: am_big
abbrev cX3_keepParts : ByteArray := prog_2_method_3_code
def yX3_keepParts : MethodName := ⟨"ApartCost$Found", "keepParts", "(LApartCost$Planner;)V"⟩
abbrev wsX3_keepParts : List Cond := .code yX3_keepParts cX3_keepParts 4 none :: am_big
abbrev cX0_step : ByteArray := prog_1_method_12_code
def yX0_step : MethodName := ⟨"ApartCost", "step", "(I)I"⟩
abbrev wsX0_step : List Cond := .code yX0_step cX0_step 2 (some .int) :: am_big
abbrev cX0_stops : ByteArray := prog_1_method_13_code
def yX0_stops : MethodName := ⟨"ApartCost", "stops", "(I)I"⟩
abbrev wsX0_stops : List Cond := .code yX0_stops cX0_stops 2 (some .int) :: am_big
abbrev cX0_member : ByteArray := prog_1_method_27_code
def yX0_member : MethodName := ⟨"ApartCost", "member", "(II)I"⟩
abbrev wsX0_member : List Cond := .code yX0_member cX0_member 4 (some .int) :: am_big
abbrev cX0_other : ByteArray := prog_1_method_14_code
def yX0_other : MethodName := ⟨"ApartCost", "other", "(I)I"⟩
abbrev wsX0_other : List Cond := .code yX0_other cX0_other 2 (some .int) :: am_big
abbrev cX0_gain : ByteArray := prog_1_method_15_code
def yX0_gain : MethodName := ⟨"ApartCost", "gain", "(I)J"⟩
abbrev wsX0_gain : List Cond := .code yX0_gain cX0_gain 2 (some .long) :: am_big
abbrev cX0_proved : ByteArray := prog_1_method_16_code
def yX0_proved : MethodName := ⟨"ApartCost", "proved", "()Z"⟩
abbrev wsX0_proved : List Cond := .code yX0_proved cX0_proved 1 (some .boolean) :: am_big
abbrev cX0_bound : ByteArray := prog_1_method_17_code
def yX0_bound : MethodName := ⟨"ApartCost", "bound", "()J"⟩
abbrev wsX0_bound : List Cond := .code yX0_bound cX0_bound 4 (some .long) :: am_big
abbrev cX0_test : ByteArray := prog_1_method_18_code
def yX0_test : MethodName := ⟨"ApartCost", "test", "(IJ)I"⟩
abbrev wsX0_test : List Cond := .code yX0_test cX0_test 14 (some .int) :: am_big
abbrev cX2_valueByShare : ByteArray := prog_4_method_3_code
def yX2_valueByShare : MethodName := ⟨"ApartCost$Planner", "valueByShare", "(IJ)V"⟩
abbrev wsX2_valueByShare : List Cond := .code yX2_valueByShare cX2_valueByShare 4 none :: am_big
abbrev cX0_stations : ByteArray := prog_1_method_19_code
def yX0_stations : MethodName := ⟨"ApartCost", "stations", "(I)I"⟩
abbrev wsX0_stations : List Cond := .code yX0_stations cX0_stations 2 (some .int) :: am_big
abbrev cX4_shareOut : ByteArray := prog_3_method_2_code
def yX4_shareOut : MethodName := ⟨"ApartCost$Line", "shareOut", "(II)J"⟩
abbrev wsX4_shareOut : List Cond := .code yX4_shareOut cX4_shareOut 3 (some .long) :: am_big
abbrev cX4_setLimits : ByteArray := prog_3_method_3_code
def yX4_setLimits : MethodName := ⟨"ApartCost$Line", "setLimits", "()V"⟩
abbrev wsX4_setLimits : List Cond := .code yX4_setLimits cX4_setLimits 6 none :: am_big
abbrev cX4_tryFrom : ByteArray := prog_3_method_4_code
def yX4_tryFrom : MethodName := ⟨"ApartCost$Line", "tryFrom", "(LApartCost$Line;IJ)V"⟩
abbrev wsX4_tryFrom : List Cond := .code yX4_tryFrom cX4_tryFrom 10 none :: am_big
abbrev cX4_keepTrial : ByteArray := prog_3_method_5_code
def yX4_keepTrial : MethodName := ⟨"ApartCost$Line", "keepTrial", "(J)V"⟩
abbrev wsX4_keepTrial : List Cond := .code yX4_keepTrial cX4_keepTrial 4 none :: am_big
abbrev cX4_latestFor : ByteArray := prog_3_method_7_code
def yX4_latestFor : MethodName := ⟨"ApartCost$Line", "latestFor", "(I)I"⟩
abbrev wsX4_latestFor : List Cond := .code yX4_latestFor cX4_latestFor 4 (some .int) :: am_big
abbrev cJM_min : ByteArray := prog_9_method_69_code
def yJM_min : MethodName := ⟨"java/lang/Math", "min", "(II)I"⟩
abbrev wsJM_min : List Cond := .code yJM_min cJM_min 2 (some .int) :: am_big
abbrev cX4_earliestFor : ByteArray := prog_3_method_6_code
def yX4_earliestFor : MethodName := ⟨"ApartCost$Line", "earliestFor", "(I)I"⟩
abbrev wsX4_earliestFor : List Cond := .code yX4_earliestFor cX4_earliestFor 4 (some .int) :: am_big
abbrev cJM_max : ByteArray := prog_9_method_65_code
def yJM_max : MethodName := ⟨"java/lang/Math", "max", "(II)I"⟩
abbrev wsJM_max : List Cond := .code yJM_max cJM_max 2 (some .int) :: am_big
abbrev cX0_station : ByteArray := prog_1_method_20_code
def yX0_station : MethodName := ⟨"ApartCost", "station", "(I)I"⟩
abbrev wsX0_station : List Cond := .code yX0_station cX0_station 2 (some .int) :: am_big
abbrev cX5_init : ByteArray := prog_7_method_1_code
def yX5_init : MethodName := ⟨"ApartCostModel", "<init>", "()V"⟩
abbrev wsX5_init : List Cond := .code yX5_init cX5_init 2 none :: am_big
abbrev cX5_act : ByteArray := prog_7_method_8_code
def yX5_act : MethodName := ⟨"ApartCostModel", "act", "(IIIJ)I"⟩
abbrev wsX5_act : List Cond := .code yX5_act cX5_act 6 (some .int) :: am_big
abbrev cX5_isKind : ByteArray := prog_7_method_5_code
def yX5_isKind : MethodName := ⟨"ApartCostModel", "isKind", "(I)Z"⟩
abbrev wsX5_isKind : List Cond := .code yX5_isKind cX5_isKind 1 (some .boolean) :: am_big
abbrev cX5_isCents : ByteArray := prog_7_method_3_code
def yX5_isCents : MethodName := ⟨"ApartCostModel", "isCents", "(J)Z"⟩
abbrev wsX5_isCents : List Cond := .code yX5_isCents cX5_isCents 2 (some .boolean) :: am_big
abbrev cX5_before : ByteArray := prog_7_method_10_code
def yX5_before : MethodName := ⟨"ApartCostModel", "before", "(II)Z"⟩
abbrev wsX5_before : List Cond := .code yX5_before cX5_before 3 (some .boolean) :: am_big
abbrev cX5_isAct : ByteArray := prog_7_method_7_code
def yX5_isAct : MethodName := ⟨"ApartCostModel", "isAct", "(I)Z"⟩
abbrev wsX5_isAct : List Cond := .code yX5_isAct cX5_isAct 2 (some .boolean) :: am_big
abbrev cX5_leadsTo : ByteArray := prog_7_method_9_code
def yX5_leadsTo : MethodName := ⟨"ApartCostModel", "leadsTo", "(II)Z"⟩
abbrev wsX5_leadsTo : List Cond := .code yX5_leadsTo cX5_leadsTo 7 (some .boolean) :: am_big
abbrev cX5_change : ByteArray := prog_7_method_11_code
def yX5_change : MethodName := ⟨"ApartCostModel", "change", "(IIJ)Z"⟩
abbrev wsX5_change : List Cond := .code yX5_change cX5_change 5 (some .boolean) :: am_big
abbrev cX5_turn : ByteArray := prog_7_method_12_code
def yX5_turn : MethodName := ⟨"ApartCostModel", "turn", "(IIJ)Z"⟩
abbrev wsX5_turn : List Cond := .code yX5_turn cX5_turn 5 (some .boolean) :: am_big
abbrev cX5_worth : ByteArray := prog_7_method_13_code
def yX5_worth : MethodName := ⟨"ApartCostModel", "worth", "(IJ)Z"⟩
abbrev wsX5_worth : List Cond := .code yX5_worth cX5_worth 4 (some .boolean) :: am_big
abbrev cX5_isPart : ByteArray := prog_7_method_6_code
def yX5_isPart : MethodName := ⟨"ApartCostModel", "isPart", "(I)Z"⟩
abbrev wsX5_isPart : List Cond := .code yX5_isPart cX5_isPart 1 (some .boolean) :: am_big
abbrev cX5_isWorth : ByteArray := prog_7_method_4_code
def yX5_isWorth : MethodName := ⟨"ApartCostModel", "isWorth", "(J)Z"⟩
abbrev wsX5_isWorth : List Cond := .code yX5_isWorth cX5_isWorth 2 (some .boolean) :: am_big
abbrev cX5_rest : ByteArray := prog_7_method_14_code
def yX5_rest : MethodName := ⟨"ApartCostModel", "rest", "(JJ)Z"⟩
abbrev wsX5_rest : List Cond := .code yX5_rest cX5_rest 6 (some .boolean) :: am_big
abbrev cX5_breaks : ByteArray := prog_7_method_15_code
def yX5_breaks : MethodName := ⟨"ApartCostModel", "breaks", "(I)Z"⟩
abbrev wsX5_breaks : List Cond := .code yX5_breaks cX5_breaks 2 (some .boolean) :: am_big
abbrev cX5_sure : ByteArray := prog_7_method_16_code
def yX5_sure : MethodName := ⟨"ApartCostModel", "sure", "(IJJ)Z"⟩
abbrev wsX5_sure : List Cond := .code yX5_sure cX5_sure 6 (some .boolean) :: am_big
abbrev cX5_states : ByteArray := prog_7_method_19_code
def yX5_states : MethodName := ⟨"ApartCostModel", "states", "()J"⟩
abbrev wsX5_states : List Cond := .code yX5_states cX5_states 7 (some .long) :: am_big
abbrev cX5_isClosed : ByteArray := prog_7_method_18_code
def yX5_isClosed : MethodName := ⟨"ApartCostModel", "isClosed", "(I)Z"⟩
abbrev wsX5_isClosed : List Cond := .code yX5_isClosed cX5_isClosed 5 (some .boolean) :: am_big
abbrev cX5_has : ByteArray := prog_7_method_17_code
def yX5_has : MethodName := ⟨"ApartCostModel", "has", "(II)Z"⟩
abbrev wsX5_has : List Cond := .code yX5_has cX5_has 2 (some .boolean) :: am_big
abbrev cX5_run : ByteArray := prog_7_method_28_code
def yX5_run : MethodName := ⟨"ApartCostModel", "run", "(J)I"⟩
abbrev wsX5_run : List Cond := .code yX5_run cX5_run 8 (some .int) :: am_big
abbrev cX5_reckonValues : ByteArray := prog_7_method_25_code
def yX5_reckonValues : MethodName := ⟨"ApartCostModel", "reckonValues", "()V"⟩
abbrev wsX5_reckonValues : List Cond := .code yX5_reckonValues cX5_reckonValues 3 none :: am_big
abbrev cX5_valueOf : ByteArray := prog_7_method_22_code
def yX5_valueOf : MethodName := ⟨"ApartCostModel", "valueOf", "(I)J"⟩
abbrev wsX5_valueOf : List Cond := .code yX5_valueOf cX5_valueOf 6 (some .long) :: am_big
abbrev cX5_bringsOf : ByteArray := prog_7_method_20_code
def yX5_bringsOf : MethodName := ⟨"ApartCostModel", "bringsOf", "(II)J"⟩
abbrev wsX5_bringsOf : List Cond := .code yX5_bringsOf cX5_bringsOf 7 (some .long) :: am_big
abbrev cX5_restOf : ByteArray := prog_7_method_21_code
def yX5_restOf : MethodName := ⟨"ApartCostModel", "restOf", "(I)I"⟩
abbrev wsX5_restOf : List Cond := .code yX5_restOf cX5_restOf 4 (some .int) :: am_big
abbrev cX5_bestFrom : ByteArray := prog_7_method_26_code
def yX5_bestFrom : MethodName := ⟨"ApartCostModel", "bestFrom", "(IIJ)J"⟩
abbrev wsX5_bestFrom : List Cond := .code yX5_bestFrom cX5_bestFrom 11 (some .long) :: am_big
abbrev cX5_canDo : ByteArray := prog_7_method_24_code
def yX5_canDo : MethodName := ⟨"ApartCostModel", "canDo", "(II)Z"⟩
abbrev wsX5_canDo : List Cond := .code yX5_canDo cX5_canDo 3 (some .boolean) :: am_big
abbrev cX5_stepCost : ByteArray := prog_7_method_23_code
def yX5_stepCost : MethodName := ⟨"ApartCostModel", "stepCost", "(II)J"⟩
abbrev wsX5_stepCost : List Cond := .code yX5_stepCost cX5_stepCost 5 (some .long) :: am_big
abbrev cX5_spread : ByteArray := prog_7_method_27_code
def yX5_spread : MethodName := ⟨"ApartCostModel", "spread", "(IIJ)V"⟩
abbrev wsX5_spread : List Cond := .code yX5_spread cX5_spread 9 none :: am_big
abbrev cX5_step : ByteArray := prog_7_method_29_code
def yX5_step : MethodName := ⟨"ApartCostModel", "step", "(I)I"⟩
abbrev wsX5_step : List Cond := .code yX5_step cX5_step 2 (some .int) :: am_big
abbrev cX5_stops : ByteArray := prog_7_method_30_code
def yX5_stops : MethodName := ⟨"ApartCostModel", "stops", "(I)I"⟩
abbrev wsX5_stops : List Cond := .code yX5_stops cX5_stops 4 (some .int) :: am_big
abbrev cX5_other : ByteArray := prog_7_method_32_code
def yX5_other : MethodName := ⟨"ApartCostModel", "other", "(I)I"⟩
abbrev wsX5_other : List Cond := .code yX5_other cX5_other 4 (some .int) :: am_big
abbrev cX5_isInRow : ByteArray := prog_7_method_31_code
def yX5_isInRow : MethodName := ⟨"ApartCostModel", "isInRow", "(I)Z"⟩
abbrev wsX5_isInRow : List Cond := .code yX5_isInRow cX5_isInRow 4 (some .boolean) :: am_big
abbrev cX5_gain : ByteArray := prog_7_method_33_code
def yX5_gain : MethodName := ⟨"ApartCostModel", "gain", "(I)J"⟩
abbrev wsX5_gain : List Cond := .code yX5_gain cX5_gain 2 (some .long) :: am_big
abbrev cX5_proved : ByteArray := prog_7_method_34_code
def yX5_proved : MethodName := ⟨"ApartCostModel", "proved", "()Z"⟩
abbrev wsX5_proved : List Cond := .code yX5_proved cX5_proved 1 (some .boolean) :: am_big
abbrev cX5_bound : ByteArray := prog_7_method_35_code
def yX5_bound : MethodName := ⟨"ApartCostModel", "bound", "()J"⟩
abbrev wsX5_bound : List Cond := .code yX5_bound cX5_bound 6 (some .long) :: am_big
abbrev cX5_test : ByteArray := prog_7_method_37_code
def yX5_test : MethodName := ⟨"ApartCostModel", "test", "(IJ)I"⟩
abbrev wsX5_test : List Cond := .code yX5_test cX5_test 12 (some .int) :: am_big
abbrev cX5_bestWith : ByteArray := prog_7_method_36_code
def yX5_bestWith : MethodName := ⟨"ApartCostModel", "bestWith", "(II)J"⟩
abbrev wsX5_bestWith : List Cond := .code yX5_bestWith cX5_bestWith 5 (some .long) :: am_big
abbrev cX5_stations : ByteArray := prog_7_method_41_code
def yX5_stations : MethodName := ⟨"ApartCostModel", "stations", "(I)I"⟩
abbrev wsX5_stations : List Cond := .code yX5_stations cX5_stations 8 (some .int) :: am_big
abbrev cX5_keeps : ByteArray := prog_7_method_38_code
def yX5_keeps : MethodName := ⟨"ApartCostModel", "keeps", "([I)Z"⟩
abbrev wsX5_keeps : List Cond := .code yX5_keeps cX5_keeps 5 (some .boolean) :: am_big
abbrev cX5_longestOf : ByteArray := prog_7_method_39_code
def yX5_longestOf : MethodName := ⟨"ApartCostModel", "longestOf", "([I)J"⟩
abbrev wsX5_longestOf : List Cond := .code yX5_longestOf cX5_longestOf 8 (some .long) :: am_big
abbrev cX5_next : ByteArray := prog_7_method_40_code
def yX5_next : MethodName := ⟨"ApartCostModel", "next", "(I)Z"⟩
abbrev wsX5_next : List Cond := .code yX5_next cX5_next 3 (some .boolean) :: am_big
abbrev cX5_station : ByteArray := prog_7_method_42_code
def yX5_station : MethodName := ⟨"ApartCostModel", "station", "(I)I"⟩
abbrev wsX5_station : List Cond := .code yX5_station cX5_station 2 (some .int) :: am_big
