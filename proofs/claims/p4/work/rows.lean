section
-- ===== PART A: goes FIRST, ahead of the names: the tables' words, and 'selects' of the private methods out of them =====
/-- a private method of a class that the tables say can be made, by its rows of tables_1 -/
def lw_okq (q : MethodName × Nat) : Prop := (q.1.cls ≠ "java/lang/invoke/MethodHandle" ∧ q.1.cls ≠ "java/lang/invoke/VarHandle") ∧ Cond.instantiable q.1.cls q.2 ∈ tables_1 ∧ Cond.privateMethod q.1 ∈ tables_1 ∧ Cond.instanceMethod q.1 ∈ tables_1
theorem lw_p0 : lw_okq (⟨"ApartCost$Product", "placeOfRest", "(I)I"⟩, 14) := ⟨⟨by decide +kernel, by decide +kernel⟩, List.mem_of_getElem? (i := 19) (by decide +kernel), List.mem_of_getElem? (i := 257) (by decide +kernel), List.mem_of_getElem? (i := 258) (by decide +kernel)⟩
theorem lw_p1 : lw_okq (⟨"ApartCost$Product", "neededBy", "(I)I"⟩, 14) := ⟨⟨by decide +kernel, by decide +kernel⟩, List.mem_of_getElem? (i := 19) (by decide +kernel), List.mem_of_getElem? (i := 287) (by decide +kernel), List.mem_of_getElem? (i := 288) (by decide +kernel)⟩
theorem lw_p2 : lw_okq (⟨"ApartCost$Planner", "setSteps", "()V"⟩, 4) := ⟨⟨by decide +kernel, by decide +kernel⟩, List.mem_of_getElem? (i := 88) (by decide +kernel), List.mem_of_getElem? (i := 313) (by decide +kernel), List.mem_of_getElem? (i := 314) (by decide +kernel)⟩
theorem lw_p3 : lw_okq (⟨"ApartCost$Planner", "setMost", "(I)V"⟩, 4) := ⟨⟨by decide +kernel, by decide +kernel⟩, List.mem_of_getElem? (i := 88) (by decide +kernel), List.mem_of_getElem? (i := 326) (by decide +kernel), List.mem_of_getElem? (i := 327) (by decide +kernel)⟩
theorem lw_p4 : lw_okq (⟨"ApartCost$Planner", "endOf", "(I)J"⟩, 4) := ⟨⟨by decide +kernel, by decide +kernel⟩, List.mem_of_getElem? (i := 88) (by decide +kernel), List.mem_of_getElem? (i := 335) (by decide +kernel), List.mem_of_getElem? (i := 336) (by decide +kernel)⟩
theorem lw_p5 : lw_okq (⟨"ApartCost$Planner", "mostFrom", "(IIIJ)J"⟩, 4) := ⟨⟨by decide +kernel, by decide +kernel⟩, List.mem_of_getElem? (i := 88) (by decide +kernel), List.mem_of_getElem? (i := 353) (by decide +kernel), List.mem_of_getElem? (i := 354) (by decide +kernel)⟩
theorem lw_p6 : lw_okq (⟨"ApartCost$Planner", "mostBy", "(III)J"⟩, 4) := ⟨⟨by decide +kernel, by decide +kernel⟩, List.mem_of_getElem? (i := 88) (by decide +kernel), List.mem_of_getElem? (i := 357) (by decide +kernel), List.mem_of_getElem? (i := 358) (by decide +kernel)⟩
theorem lw_p7 : lw_okq (⟨"ApartCost$Found", "keepParts", "(LApartCost$Planner;)V"⟩, 8) := ⟨⟨by decide +kernel, by decide +kernel⟩, List.mem_of_getElem? (i := 109) (by decide +kernel), List.mem_of_getElem? (i := 372) (by decide +kernel), List.mem_of_getElem? (i := 373) (by decide +kernel)⟩
theorem lw_p8 : lw_okq (⟨"ApartCost$Line", "setLimits", "()V"⟩, 8) := ⟨⟨by decide +kernel, by decide +kernel⟩, List.mem_of_getElem? (i := 147) (by decide +kernel), List.mem_of_getElem? (i := 425) (by decide +kernel), List.mem_of_getElem? (i := 426) (by decide +kernel)⟩
theorem lw_p9 : lw_okq (⟨"ApartCost$Line", "keepTrial", "(J)V"⟩, 8) := ⟨⟨by decide +kernel, by decide +kernel⟩, List.mem_of_getElem? (i := 147) (by decide +kernel), List.mem_of_getElem? (i := 435) (by decide +kernel), List.mem_of_getElem? (i := 436) (by decide +kernel)⟩
theorem lw_p10 : lw_okq (⟨"ApartCost$Line", "latestFor", "(I)I"⟩, 8) := ⟨⟨by decide +kernel, by decide +kernel⟩, List.mem_of_getElem? (i := 147) (by decide +kernel), List.mem_of_getElem? (i := 439) (by decide +kernel), List.mem_of_getElem? (i := 440) (by decide +kernel)⟩
theorem lw_p11 : lw_okq (⟨"ApartCost$Line", "earliestFor", "(I)I"⟩, 8) := ⟨⟨by decide +kernel, by decide +kernel⟩, List.mem_of_getElem? (i := 147) (by decide +kernel), List.mem_of_getElem? (i := 446) (by decide +kernel), List.mem_of_getElem? (i := 447) (by decide +kernel)⟩
theorem lw_p12 : lw_okq (⟨"ApartCostModel", "isAct", "(I)Z"⟩, 31) := ⟨⟨by decide +kernel, by decide +kernel⟩, List.mem_of_getElem? (i := 457) (by decide +kernel), List.mem_of_getElem? (i := 573) (by decide +kernel), List.mem_of_getElem? (i := 574) (by decide +kernel)⟩
theorem lw_p13 : lw_okq (⟨"ApartCostModel", "leadsTo", "(II)Z"⟩, 31) := ⟨⟨by decide +kernel, by decide +kernel⟩, List.mem_of_getElem? (i := 457) (by decide +kernel), List.mem_of_getElem? (i := 577) (by decide +kernel), List.mem_of_getElem? (i := 578) (by decide +kernel)⟩
theorem lw_p14 : lw_okq (⟨"ApartCostModel", "isClosed", "(I)Z"⟩, 31) := ⟨⟨by decide +kernel, by decide +kernel⟩, List.mem_of_getElem? (i := 457) (by decide +kernel), List.mem_of_getElem? (i := 618) (by decide +kernel), List.mem_of_getElem? (i := 619) (by decide +kernel)⟩
theorem lw_p15 : lw_okq (⟨"ApartCostModel", "reckonValues", "()V"⟩, 31) := ⟨⟨by decide +kernel, by decide +kernel⟩, List.mem_of_getElem? (i := 457) (by decide +kernel), List.mem_of_getElem? (i := 630) (by decide +kernel), List.mem_of_getElem? (i := 631) (by decide +kernel)⟩
def lw_privs_1 : List (MethodName × Nat) := [(⟨"ApartCost$Product", "placeOfRest", "(I)I"⟩, 14), (⟨"ApartCost$Product", "neededBy", "(I)I"⟩, 14), (⟨"ApartCost$Planner", "setSteps", "()V"⟩, 4), (⟨"ApartCost$Planner", "setMost", "(I)V"⟩, 4), (⟨"ApartCost$Planner", "endOf", "(I)J"⟩, 4), (⟨"ApartCost$Planner", "mostFrom", "(IIIJ)J"⟩, 4), (⟨"ApartCost$Planner", "mostBy", "(III)J"⟩, 4), (⟨"ApartCost$Found", "keepParts", "(LApartCost$Planner;)V"⟩, 8), (⟨"ApartCost$Line", "setLimits", "()V"⟩, 8), (⟨"ApartCost$Line", "keepTrial", "(J)V"⟩, 8), (⟨"ApartCost$Line", "latestFor", "(I)I"⟩, 8), (⟨"ApartCost$Line", "earliestFor", "(I)I"⟩, 8), (⟨"ApartCostModel", "isAct", "(I)Z"⟩, 31), (⟨"ApartCostModel", "leadsTo", "(II)Z"⟩, 31), (⟨"ApartCostModel", "isClosed", "(I)Z"⟩, 31), (⟨"ApartCostModel", "reckonValues", "()V"⟩, 31)]
theorem lw_r1 : ∀ q ∈ lw_privs_1, lw_okq q := List.forall_mem_cons.mpr ⟨lw_p0, List.forall_mem_cons.mpr ⟨lw_p1, List.forall_mem_cons.mpr ⟨lw_p2, List.forall_mem_cons.mpr ⟨lw_p3, List.forall_mem_cons.mpr ⟨lw_p4, List.forall_mem_cons.mpr ⟨lw_p5, List.forall_mem_cons.mpr ⟨lw_p6, List.forall_mem_cons.mpr ⟨lw_p7, List.forall_mem_cons.mpr ⟨lw_p8, List.forall_mem_cons.mpr ⟨lw_p9, List.forall_mem_cons.mpr ⟨lw_p10, List.forall_mem_cons.mpr ⟨lw_p11, List.forall_mem_cons.mpr ⟨lw_p12, List.forall_mem_cons.mpr ⟨lw_p13, List.forall_mem_cons.mpr ⟨lw_p14, List.forall_mem_cons.mpr ⟨lw_p15, fun _ h => absurd h List.not_mem_nil⟩⟩⟩⟩⟩⟩⟩⟩⟩⟩⟩⟩⟩⟩⟩⟩
theorem lw_p16 : lw_okq (⟨"ApartCostModel", "valueOf", "(I)J"⟩, 31) := ⟨⟨by decide +kernel, by decide +kernel⟩, List.mem_of_getElem? (i := 457) (by decide +kernel), List.mem_of_getElem? (i := 634) (by decide +kernel), List.mem_of_getElem? (i := 635) (by decide +kernel)⟩
theorem lw_p17 : lw_okq (⟨"ApartCostModel", "bringsOf", "(II)J"⟩, 31) := ⟨⟨by decide +kernel, by decide +kernel⟩, List.mem_of_getElem? (i := 457) (by decide +kernel), List.mem_of_getElem? (i := 638) (by decide +kernel), List.mem_of_getElem? (i := 639) (by decide +kernel)⟩
theorem lw_p18 : lw_okq (⟨"ApartCostModel", "restOf", "(I)I"⟩, 31) := ⟨⟨by decide +kernel, by decide +kernel⟩, List.mem_of_getElem? (i := 457) (by decide +kernel), List.mem_of_getElem? (i := 643) (by decide +kernel), List.mem_of_getElem? (i := 644) (by decide +kernel)⟩
theorem lw_p19 : lw_okq (⟨"ApartCostModel", "bestFrom", "(IIJ)J"⟩, 31) := ⟨⟨by decide +kernel, by decide +kernel⟩, List.mem_of_getElem? (i := 457) (by decide +kernel), List.mem_of_getElem? (i := 647) (by decide +kernel), List.mem_of_getElem? (i := 648) (by decide +kernel)⟩
theorem lw_p20 : lw_okq (⟨"ApartCostModel", "canDo", "(II)Z"⟩, 31) := ⟨⟨by decide +kernel, by decide +kernel⟩, List.mem_of_getElem? (i := 457) (by decide +kernel), List.mem_of_getElem? (i := 652) (by decide +kernel), List.mem_of_getElem? (i := 653) (by decide +kernel)⟩
theorem lw_p21 : lw_okq (⟨"ApartCostModel", "stepCost", "(II)J"⟩, 31) := ⟨⟨by decide +kernel, by decide +kernel⟩, List.mem_of_getElem? (i := 457) (by decide +kernel), List.mem_of_getElem? (i := 656) (by decide +kernel), List.mem_of_getElem? (i := 657) (by decide +kernel)⟩
theorem lw_p22 : lw_okq (⟨"ApartCostModel", "spread", "(IIJ)V"⟩, 31) := ⟨⟨by decide +kernel, by decide +kernel⟩, List.mem_of_getElem? (i := 457) (by decide +kernel), List.mem_of_getElem? (i := 660) (by decide +kernel), List.mem_of_getElem? (i := 661) (by decide +kernel)⟩
theorem lw_p23 : lw_okq (⟨"ApartCostModel", "isInRow", "(I)Z"⟩, 31) := ⟨⟨by decide +kernel, by decide +kernel⟩, List.mem_of_getElem? (i := 457) (by decide +kernel), List.mem_of_getElem? (i := 676) (by decide +kernel), List.mem_of_getElem? (i := 677) (by decide +kernel)⟩
theorem lw_p24 : lw_okq (⟨"ApartCostModel", "bestWith", "(II)J"⟩, 31) := ⟨⟨by decide +kernel, by decide +kernel⟩, List.mem_of_getElem? (i := 457) (by decide +kernel), List.mem_of_getElem? (i := 696) (by decide +kernel), List.mem_of_getElem? (i := 697) (by decide +kernel)⟩
theorem lw_p25 : lw_okq (⟨"ApartCostModel", "keeps", "([I)Z"⟩, 31) := ⟨⟨by decide +kernel, by decide +kernel⟩, List.mem_of_getElem? (i := 457) (by decide +kernel), List.mem_of_getElem? (i := 705) (by decide +kernel), List.mem_of_getElem? (i := 706) (by decide +kernel)⟩
theorem lw_p26 : lw_okq (⟨"ApartCostModel", "longestOf", "([I)J"⟩, 31) := ⟨⟨by decide +kernel, by decide +kernel⟩, List.mem_of_getElem? (i := 457) (by decide +kernel), List.mem_of_getElem? (i := 709) (by decide +kernel), List.mem_of_getElem? (i := 710) (by decide +kernel)⟩
theorem lw_p27 : lw_okq (⟨"ApartCostModel", "next", "(I)Z"⟩, 31) := ⟨⟨by decide +kernel, by decide +kernel⟩, List.mem_of_getElem? (i := 457) (by decide +kernel), List.mem_of_getElem? (i := 713) (by decide +kernel), List.mem_of_getElem? (i := 714) (by decide +kernel)⟩
def lw_privs_2 : List (MethodName × Nat) := [(⟨"ApartCostModel", "valueOf", "(I)J"⟩, 31), (⟨"ApartCostModel", "bringsOf", "(II)J"⟩, 31), (⟨"ApartCostModel", "restOf", "(I)I"⟩, 31), (⟨"ApartCostModel", "bestFrom", "(IIJ)J"⟩, 31), (⟨"ApartCostModel", "canDo", "(II)Z"⟩, 31), (⟨"ApartCostModel", "stepCost", "(II)J"⟩, 31), (⟨"ApartCostModel", "spread", "(IIJ)V"⟩, 31), (⟨"ApartCostModel", "isInRow", "(I)Z"⟩, 31), (⟨"ApartCostModel", "bestWith", "(II)J"⟩, 31), (⟨"ApartCostModel", "keeps", "([I)Z"⟩, 31), (⟨"ApartCostModel", "longestOf", "([I)J"⟩, 31), (⟨"ApartCostModel", "next", "(I)Z"⟩, 31)]
theorem lw_r2 : ∀ q ∈ lw_privs_2, lw_okq q := List.forall_mem_cons.mpr ⟨lw_p16, List.forall_mem_cons.mpr ⟨lw_p17, List.forall_mem_cons.mpr ⟨lw_p18, List.forall_mem_cons.mpr ⟨lw_p19, List.forall_mem_cons.mpr ⟨lw_p20, List.forall_mem_cons.mpr ⟨lw_p21, List.forall_mem_cons.mpr ⟨lw_p22, List.forall_mem_cons.mpr ⟨lw_p23, List.forall_mem_cons.mpr ⟨lw_p24, List.forall_mem_cons.mpr ⟨lw_p25, List.forall_mem_cons.mpr ⟨lw_p26, List.forall_mem_cons.mpr ⟨lw_p27, fun _ h => absurd h List.not_mem_nil⟩⟩⟩⟩⟩⟩⟩⟩⟩⟩⟩⟩
def lw_privs : List (MethodName × Nat) := lw_privs_1 ++ (lw_privs_2)
def lw_tbl : List Cond := k2_sels lw_privs ++ tables_1
theorem lw_privs_ok : ∀ q ∈ lw_privs, lw_okq q := by
  show ∀ q ∈ lw_privs_1 ++ (lw_privs_2), lw_okq q
  exact List.forall_mem_append.mpr ⟨lw_r1, lw_r2⟩
-- ===== end of PART A; then your names; then what follows =====
end
section
theorem goodIn_r0 {big : List Cond} (ws : List Cond) (ps : List Nat) (hp : ws = ps.filterMap (fun i => big[i]?)) (h : ws.all goodWord = true) : GoodIn big ws := by
  intro w hw
  have hg := good_of_word (List.all_eq_true.mp h w hw)
  rw [hp] at hw
  obtain ⟨i, -, hi⟩ := List.mem_filterMap.mp hw
  exact ⟨List.mem_of_getElem? hi, hg⟩
theorem goodIn_app0 {big a b : List Cond} (ha : GoodIn big a) (hb : GoodIn big b) : GoodIn big (a ++ b) := fun w h => (List.mem_append.mp h).elim (ha w) (hb w)
def RX0 : String := "ApartCost"
def TX0 : u_T := fun k => match k with
  | 0 => ("ApartCost", "product", "LApartCost$Product;", true)
  | 1 => ("ApartCost", "planner", "LApartCost$Planner;", true)
  | 2 => ("ApartCost", "found", "LApartCost$Found;", true)
  | _ => ("ApartCost", "line", "LApartCost$Line;", true)
def tyX0 : Nat → FieldType := fun k => match k with
  | 0 => .object "ApartCost$Product"
  | 1 => .object "ApartCost$Planner"
  | 2 => .object "ApartCost$Found"
  | _ => .object "ApartCost$Line"
theorem nmX0 : ∀ a, a < 4 → ∀ b, b < 4 → a ≠ b → (TX0 a).2.1 ≠ (TX0 b).2.1 := by decide +kernel
theorem tyX0_ok : ∀ k, k < 4 → parseFieldDescriptor (TX0 k).2.2.1 = some (tyX0 k) := by decide +kernel
def RX1 : String := "ApartCost$Product"
def TX1 : u_T := fun k => match k with
  | 0 => ("ApartCost$Product", "acts", "I", false)
  | 1 => ("ApartCost$Product", "frees", "[I", true)
  | 2 => ("ApartCost$Product", "tools", "[I", true)
  | 3 => ("ApartCost$Product", "sides", "[I", true)
  | 4 => ("ApartCost$Product", "cents", "[J", true)
  | 5 => ("ApartCost$Product", "needs", "[I", true)
  | 6 => ("ApartCost$Product", "breaking", "I", false)
  | 7 => ("ApartCost$Product", "changes", "[J", true)
  | 8 => ("ApartCost$Product", "turns", "[J", true)
  | 9 => ("ApartCost$Product", "worths", "[J", true)
  | 10 => ("ApartCost$Product", "shares", "[J", true)
  | 11 => ("ApartCost$Product", "rests", "I", false)
  | 12 => ("ApartCost$Product", "restParts", "[I", true)
  | _ => ("ApartCost$Product", "restCents", "[J", true)
def tyX1 : Nat → FieldType := fun k => match k with
  | 0 => .int
  | 1 => .array .int
  | 2 => .array .int
  | 3 => .array .int
  | 4 => .array .long
  | 5 => .array .int
  | 6 => .int
  | 7 => .array .long
  | 8 => .array .long
  | 9 => .array .long
  | 10 => .array .long
  | 11 => .int
  | 12 => .array .int
  | _ => .array .long
theorem nmX1 : ∀ a, a < 14 → ∀ b, b < 14 → a ≠ b → (TX1 a).2.1 ≠ (TX1 b).2.1 := by decide +kernel
theorem tyX1_ok : ∀ k, k < 14 → parseFieldDescriptor (TX1 k).2.2.1 = some (tyX1 k) := by decide +kernel
def RX2 : String := "ApartCost$Planner"
def TX2 : u_T := fun k => match k with
  | 0 => ("ApartCost$Planner", "product", "LApartCost$Product;", true)
  | 1 => ("ApartCost$Planner", "values", "[J", true)
  | 2 => ("ApartCost$Planner", "steps", "[J", true)
  | _ => ("ApartCost$Planner", "most", "[J", true)
def tyX2 : Nat → FieldType := fun k => match k with
  | 0 => .object "ApartCost$Product"
  | 1 => .array .long
  | 2 => .array .long
  | _ => .array .long
theorem nmX2 : ∀ a, a < 4 → ∀ b, b < 4 → a ≠ b → (TX2 a).2.1 ≠ (TX2 b).2.1 := by decide +kernel
theorem tyX2_ok : ∀ k, k < 4 → parseFieldDescriptor (TX2 k).2.2.1 = some (tyX2 k) := by decide +kernel
def RX3 : String := "ApartCost$Found"
def TX3 : u_T := fun k => match k with
  | 0 => ("ApartCost$Found", "any", "Z", false)
  | 1 => ("ApartCost$Found", "upToDate", "Z", false)
  | 2 => ("ApartCost$Found", "length", "I", false)
  | 3 => ("ApartCost$Found", "set", "I", false)
  | 4 => ("ApartCost$Found", "free", "I", false)
  | 5 => ("ApartCost$Found", "total", "J", false)
  | 6 => ("ApartCost$Found", "row", "[I", true)
  | _ => ("ApartCost$Found", "brought", "[J", true)
def tyX3 : Nat → FieldType := fun k => match k with
  | 0 => .boolean
  | 1 => .boolean
  | 2 => .int
  | 3 => .int
  | 4 => .int
  | 5 => .long
  | 6 => .array .int
  | _ => .array .long
theorem nmX3 : ∀ a, a < 8 → ∀ b, b < 8 → a ≠ b → (TX3 a).2.1 ≠ (TX3 b).2.1 := by decide +kernel
theorem tyX3_ok : ∀ k, k < 8 → parseFieldDescriptor (TX3 k).2.2.1 = some (tyX3 k) := by decide +kernel
def RX4 : String := "ApartCost$Line"
def TX4 : u_T := fun k => match k with
  | 0 => ("ApartCost$Line", "told", "[I", true)
  | 1 => ("ApartCost$Line", "product", "LApartCost$Product;", true)
  | 2 => ("ApartCost$Line", "trial", "[I", true)
  | 3 => ("ApartCost$Line", "loads", "[J", true)
  | 4 => ("ApartCost$Line", "set", "I", false)
  | 5 => ("ApartCost$Line", "stations", "I", false)
  | 6 => ("ApartCost$Line", "longest", "J", false)
  | _ => ("ApartCost$Line", "least", "J", false)
def tyX4 : Nat → FieldType := fun k => match k with
  | 0 => .array .int
  | 1 => .object "ApartCost$Product"
  | 2 => .array .int
  | 3 => .array .long
  | 4 => .int
  | 5 => .int
  | 6 => .long
  | _ => .long
theorem nmX4 : ∀ a, a < 8 → ∀ b, b < 8 → a ≠ b → (TX4 a).2.1 ≠ (TX4 b).2.1 := by decide +kernel
theorem tyX4_ok : ∀ k, k < 8 → parseFieldDescriptor (TX4 k).2.2.1 = some (tyX4 k) := by decide +kernel
def RX5 : String := "ApartCostModel"
def TX5 : u_T := fun k => match k with
  | 0 => ("ApartCostModel", "count", "I", false)
  | 1 => ("ApartCostModel", "freed", "[I", true)
  | 2 => ("ApartCostModel", "tools", "[I", true)
  | 3 => ("ApartCostModel", "sides", "[I", true)
  | 4 => ("ApartCostModel", "costs", "[J", true)
  | 5 => ("ApartCostModel", "breaking", "[Z", true)
  | 6 => ("ApartCostModel", "needs", "[Z", true)
  | 7 => ("ApartCostModel", "changes", "[J", true)
  | 8 => ("ApartCostModel", "turns", "[J", true)
  | 9 => ("ApartCostModel", "worths", "[J", true)
  | 10 => ("ApartCostModel", "above", "[I", true)
  | 11 => ("ApartCostModel", "below", "[I", true)
  | 12 => ("ApartCostModel", "rests", "[I", true)
  | 13 => ("ApartCostModel", "restWorths", "[J", true)
  | 14 => ("ApartCostModel", "restCount", "I", false)
  | 15 => ("ApartCostModel", "row", "[I", true)
  | 16 => ("ApartCostModel", "length", "I", false)
  | 17 => ("ApartCostModel", "found", "J", false)
  | 18 => ("ApartCostModel", "brought", "[J", true)
  | 19 => ("ApartCostModel", "isFresh", "Z", false)
  | 20 => ("ApartCostModel", "openParts", "I", false)
  | 21 => ("ApartCostModel", "actsThen", "I", false)
  | 22 => ("ApartCostModel", "places", "[I", true)
  | 23 => ("ApartCostModel", "isShared", "Z", false)
  | 24 => ("ApartCostModel", "tested", "I", false)
  | 25 => ("ApartCostModel", "testedAs", "I", false)
  | 26 => ("ApartCostModel", "needed", "[I", true)
  | 27 => ("ApartCostModel", "least", "[J", true)
  | 28 => ("ApartCostModel", "values", "[J", true)
  | 29 => ("ApartCostModel", "tried", "[I", true)
  | _ => ("ApartCostModel", "behind", "[Z", true)
def tyX5 : Nat → FieldType := fun k => match k with
  | 0 => .int
  | 1 => .array .int
  | 2 => .array .int
  | 3 => .array .int
  | 4 => .array .long
  | 5 => .array .boolean
  | 6 => .array .boolean
  | 7 => .array .long
  | 8 => .array .long
  | 9 => .array .long
  | 10 => .array .int
  | 11 => .array .int
  | 12 => .array .int
  | 13 => .array .long
  | 14 => .int
  | 15 => .array .int
  | 16 => .int
  | 17 => .long
  | 18 => .array .long
  | 19 => .boolean
  | 20 => .int
  | 21 => .int
  | 22 => .array .int
  | 23 => .boolean
  | 24 => .int
  | 25 => .int
  | 26 => .array .int
  | 27 => .array .long
  | 28 => .array .long
  | 29 => .array .int
  | _ => .array .boolean
theorem nmX5 : ∀ a, a < 31 → ∀ b, b < 31 → a ≠ b → (TX5 a).2.1 ≠ (TX5 b).2.1 := by decide +kernel
theorem tyX5_ok : ∀ k, k < 31 → parseFieldDescriptor (TX5 k).2.2.1 = some (tyX5 k) := by decide +kernel
def RJI : String := "java/lang/Integer"
def RJA : String := "java/util/Arrays"
def RL : String := "ApartCostLaw"
abbrev vwCl : List vw_C := [(RX0, TX0, 4), (RX1, TX1, 14), (RX2, TX2, 4), (RX3, TX3, 8), (RX4, TX4, 8), (RX5, TX5, 31)]
def am_b0 : List Cond := [.selects "ApartCost$Product" ⟨"ApartCost$Product", "placeOfRest", "(I)I"⟩ ⟨"ApartCost$Product", "placeOfRest", "(I)I"⟩,
  .selects "ApartCost$Product" ⟨"ApartCost$Product", "neededBy", "(I)I"⟩ ⟨"ApartCost$Product", "neededBy", "(I)I"⟩,
  .selects "ApartCost$Planner" ⟨"ApartCost$Planner", "setSteps", "()V"⟩ ⟨"ApartCost$Planner", "setSteps", "()V"⟩,
  .selects "ApartCost$Planner" ⟨"ApartCost$Planner", "setMost", "(I)V"⟩ ⟨"ApartCost$Planner", "setMost", "(I)V"⟩,
  .selects "ApartCost$Planner" ⟨"ApartCost$Planner", "endOf", "(I)J"⟩ ⟨"ApartCost$Planner", "endOf", "(I)J"⟩,
  .selects "ApartCost$Planner" ⟨"ApartCost$Planner", "mostFrom", "(IIIJ)J"⟩ ⟨"ApartCost$Planner", "mostFrom", "(IIIJ)J"⟩,
  .selects "ApartCost$Planner" ⟨"ApartCost$Planner", "mostBy", "(III)J"⟩ ⟨"ApartCost$Planner", "mostBy", "(III)J"⟩,
  .selects "ApartCost$Found" ⟨"ApartCost$Found", "keepParts", "(LApartCost$Planner;)V"⟩ ⟨"ApartCost$Found", "keepParts", "(LApartCost$Planner;)V"⟩,
  .selects "ApartCost$Line" ⟨"ApartCost$Line", "setLimits", "()V"⟩ ⟨"ApartCost$Line", "setLimits", "()V"⟩,
  .selects "ApartCost$Line" ⟨"ApartCost$Line", "keepTrial", "(J)V"⟩ ⟨"ApartCost$Line", "keepTrial", "(J)V"⟩,
  .selects "ApartCost$Line" ⟨"ApartCost$Line", "latestFor", "(I)I"⟩ ⟨"ApartCost$Line", "latestFor", "(I)I"⟩,
  .selects "ApartCost$Line" ⟨"ApartCost$Line", "earliestFor", "(I)I"⟩ ⟨"ApartCost$Line", "earliestFor", "(I)I"⟩,
  .selects "ApartCostModel" ⟨"ApartCostModel", "isAct", "(I)Z"⟩ ⟨"ApartCostModel", "isAct", "(I)Z"⟩,
  .selects "ApartCostModel" ⟨"ApartCostModel", "leadsTo", "(II)Z"⟩ ⟨"ApartCostModel", "leadsTo", "(II)Z"⟩,
  .selects "ApartCostModel" ⟨"ApartCostModel", "isClosed", "(I)Z"⟩ ⟨"ApartCostModel", "isClosed", "(I)Z"⟩,
  .selects "ApartCostModel" ⟨"ApartCostModel", "reckonValues", "()V"⟩ ⟨"ApartCostModel", "reckonValues", "()V"⟩,
  .selects "ApartCostModel" ⟨"ApartCostModel", "valueOf", "(I)J"⟩ ⟨"ApartCostModel", "valueOf", "(I)J"⟩,
  .selects "ApartCostModel" ⟨"ApartCostModel", "bringsOf", "(II)J"⟩ ⟨"ApartCostModel", "bringsOf", "(II)J"⟩,
  .selects "ApartCostModel" ⟨"ApartCostModel", "restOf", "(I)I"⟩ ⟨"ApartCostModel", "restOf", "(I)I"⟩,
  .selects "ApartCostModel" ⟨"ApartCostModel", "bestFrom", "(IIJ)J"⟩ ⟨"ApartCostModel", "bestFrom", "(IIJ)J"⟩,
  .selects "ApartCostModel" ⟨"ApartCostModel", "canDo", "(II)Z"⟩ ⟨"ApartCostModel", "canDo", "(II)Z"⟩,
  .selects "ApartCostModel" ⟨"ApartCostModel", "stepCost", "(II)J"⟩ ⟨"ApartCostModel", "stepCost", "(II)J"⟩,
  .selects "ApartCostModel" ⟨"ApartCostModel", "spread", "(IIJ)V"⟩ ⟨"ApartCostModel", "spread", "(IIJ)V"⟩,
  .selects "ApartCostModel" ⟨"ApartCostModel", "isInRow", "(I)Z"⟩ ⟨"ApartCostModel", "isInRow", "(I)Z"⟩,
  .selects "ApartCostModel" ⟨"ApartCostModel", "bestWith", "(II)J"⟩ ⟨"ApartCostModel", "bestWith", "(II)J"⟩,
  .selects "ApartCostModel" ⟨"ApartCostModel", "keeps", "([I)Z"⟩ ⟨"ApartCostModel", "keeps", "([I)Z"⟩,
  .selects "ApartCostModel" ⟨"ApartCostModel", "longestOf", "([I)J"⟩ ⟨"ApartCostModel", "longestOf", "([I)J"⟩,
  .selects "ApartCostModel" ⟨"ApartCostModel", "next", "(I)Z"⟩ ⟨"ApartCostModel", "next", "(I)Z"⟩,
  (Jvm.Cond.initialized "ApartCostLaw"),
  (Jvm.Cond.initialized "ApartCost"),
  (Jvm.Cond.initialized "ApartCost$Product"),
  (Jvm.Cond.initialized "java/util/Arrays"),
  (Jvm.Cond.initialized "ApartCost$Planner"),
  (Jvm.Cond.initialized "ApartCost$Found"),
  (Jvm.Cond.initialized "ApartCost$Line"),
  (Jvm.Cond.initialized "ApartCostModel"),
  (Jvm.Cond.initialized "java/lang/Integer"),
  (Jvm.Cond.initialized "java/lang/Math"),
  (Jvm.Cond.classLink "ApartCostLaw" (7 : Nat) "ApartCost"),
  (Jvm.Cond.instantiable "ApartCost" (4 : Nat)),
  (Jvm.Cond.methodLink "ApartCostLaw" (9 : Nat) ({ cls := "ApartCost", name := "<init>", desc := "()V" } : Jvm.MethodName)),
  (Jvm.Cond.instanceMethod ({ cls := "ApartCost", name := "<init>", desc := "()V" } : Jvm.MethodName)),
  (Jvm.Cond.code ({ cls := "ApartCost", name := "<init>", desc := "()V" } : Jvm.MethodName) prog_1_method_1_code (1 : Nat) (Option.none : Option Jvm.ClassFile.FieldType)),
  (Jvm.Cond.methodLink "ApartCost" (3 : Nat) ({ cls := "java/lang/Object", name := "<init>", desc := "()V" } : Jvm.MethodName)),
  (Jvm.Cond.instanceMethod ({ cls := "java/lang/Object", name := "<init>", desc := "()V" } : Jvm.MethodName)),
  (Jvm.Cond.code ({ cls := "java/lang/Object", name := "<init>", desc := "()V" } : Jvm.MethodName) object_method_1_code (1 : Nat) (Option.none : Option Jvm.ClassFile.FieldType)),
  (Jvm.Cond.classLink "ApartCost" (9 : Nat) "ApartCost$Product"),
  (Jvm.Cond.instantiable "ApartCost$Product" (14 : Nat)),
  (Jvm.Cond.methodLink "ApartCost" (11 : Nat) ({ cls := "ApartCost$Product", name := "<init>", desc := "()V" } : Jvm.MethodName)),
  (Jvm.Cond.instanceMethod ({ cls := "ApartCost$Product", name := "<init>", desc := "()V" } : Jvm.MethodName)),
  (Jvm.Cond.code ({ cls := "ApartCost$Product", name := "<init>", desc := "()V" } : Jvm.MethodName) prog_5_method_1_code (1 : Nat) (Option.none : Option Jvm.ClassFile.FieldType)),
  (Jvm.Cond.methodLink "ApartCost$Product" (3 : Nat) ({ cls := "java/lang/Object", name := "<init>", desc := "()V" } : Jvm.MethodName)),
  (Jvm.Cond.constantLong "ApartCost$Product" (46 : Nat) (27720 : Int64)),
  (Jvm.Cond.methodLink "ApartCost$Product" (48 : Nat) ({ cls := "java/util/Arrays", name := "fill", desc := "([JJ)V" } : Jvm.MethodName)),
  (Jvm.Cond.static ({ cls := "java/util/Arrays", name := "fill", desc := "([JJ)V" } : Jvm.MethodName)),
  (Jvm.Cond.code ({ cls := "java/util/Arrays", name := "fill", desc := "([JJ)V" } : Jvm.MethodName) prog_10_method_101_code (5 : Nat) (Option.none : Option Jvm.ClassFile.FieldType)),
  (Jvm.Cond.fieldLink "ApartCost$Product" (54 : Nat) "ApartCost$Product" "acts" "I"),
  (Jvm.Cond.fieldLink "ApartCost" (43 : Nat) "ApartCost$Product" "acts" "I"),
  (Jvm.Cond.fieldLink "ApartCost$Line" (53 : Nat) "ApartCost$Product" "acts" "I"),
  (Jvm.Cond.fieldLink "ApartCost$Planner" (56 : Nat) "ApartCost$Product" "acts" "I")]
def am_b1 : List Cond := [(Jvm.Cond.fieldLink "ApartCost$Product" (9 : Nat) "ApartCost$Product" "frees" "[I"),
  (Jvm.Cond.fieldLink "ApartCost$Product" (15 : Nat) "ApartCost$Product" "tools" "[I"),
  (Jvm.Cond.fieldLink "ApartCost$Product" (18 : Nat) "ApartCost$Product" "sides" "[I"),
  (Jvm.Cond.fieldLink "ApartCost$Product" (21 : Nat) "ApartCost$Product" "cents" "[J"),
  (Jvm.Cond.fieldLink "ApartCost$Line" (62 : Nat) "ApartCost$Product" "cents" "[J"),
  (Jvm.Cond.fieldLink "ApartCost$Product" (25 : Nat) "ApartCost$Product" "needs" "[I"),
  (Jvm.Cond.fieldLink "ApartCost" (65 : Nat) "ApartCost$Product" "needs" "[I"),
  (Jvm.Cond.fieldLink "ApartCost$Line" (85 : Nat) "ApartCost$Product" "needs" "[I"),
  (Jvm.Cond.fieldLink "ApartCost" (99 : Nat) "ApartCost$Product" "breaking" "I"),
  (Jvm.Cond.fieldLink "ApartCost$Product" (72 : Nat) "ApartCost$Product" "breaking" "I"),
  (Jvm.Cond.fieldLink "ApartCost$Product" (28 : Nat) "ApartCost$Product" "changes" "[J"),
  (Jvm.Cond.fieldLink "ApartCost" (80 : Nat) "ApartCost$Product" "changes" "[J"),
  (Jvm.Cond.fieldLink "ApartCost$Product" (31 : Nat) "ApartCost$Product" "turns" "[J"),
  (Jvm.Cond.fieldLink "ApartCost" (84 : Nat) "ApartCost$Product" "turns" "[J"),
  (Jvm.Cond.fieldLink "ApartCost$Product" (34 : Nat) "ApartCost$Product" "worths" "[J"),
  (Jvm.Cond.fieldLink "ApartCost$Planner" (31 : Nat) "ApartCost$Product" "worths" "[J"),
  (Jvm.Cond.fieldLink "ApartCost" (90 : Nat) "ApartCost$Product" "worths" "[J"),
  (Jvm.Cond.fieldLink "ApartCost$Product" (37 : Nat) "ApartCost$Product" "shares" "[J"),
  (Jvm.Cond.fieldLink "ApartCost" (104 : Nat) "ApartCost$Product" "shares" "[J"),
  (Jvm.Cond.fieldLink "ApartCost$Product" (66 : Nat) "ApartCost$Product" "rests" "I"),
  (Jvm.Cond.fieldLink "ApartCost" (153 : Nat) "ApartCost$Product" "rests" "I"),
  (Jvm.Cond.fieldLink "ApartCost$Product" (40 : Nat) "ApartCost$Product" "restParts" "[I"),
  (Jvm.Cond.fieldLink "ApartCost$Product" (43 : Nat) "ApartCost$Product" "restCents" "[J"),
  (Jvm.Cond.fieldLink "ApartCost" (156 : Nat) "ApartCost$Product" "restCents" "[J"),
  (Jvm.Cond.lays "ApartCost$Product" "ApartCost$Product" "acts" "I"),
  (Jvm.Cond.laysFinal "ApartCost$Product" "ApartCost$Product" "frees" "[I"),
  (Jvm.Cond.laysFinal "ApartCost$Product" "ApartCost$Product" "tools" "[I"),
  (Jvm.Cond.laysFinal "ApartCost$Product" "ApartCost$Product" "sides" "[I"),
  (Jvm.Cond.laysFinal "ApartCost$Product" "ApartCost$Product" "cents" "[J"),
  (Jvm.Cond.laysFinal "ApartCost$Product" "ApartCost$Product" "needs" "[I"),
  (Jvm.Cond.lays "ApartCost$Product" "ApartCost$Product" "breaking" "I"),
  (Jvm.Cond.laysFinal "ApartCost$Product" "ApartCost$Product" "changes" "[J"),
  (Jvm.Cond.laysFinal "ApartCost$Product" "ApartCost$Product" "turns" "[J"),
  (Jvm.Cond.laysFinal "ApartCost$Product" "ApartCost$Product" "worths" "[J"),
  (Jvm.Cond.laysFinal "ApartCost$Product" "ApartCost$Product" "shares" "[J"),
  (Jvm.Cond.lays "ApartCost$Product" "ApartCost$Product" "rests" "I"),
  (Jvm.Cond.laysFinal "ApartCost$Product" "ApartCost$Product" "restParts" "[I"),
  (Jvm.Cond.laysFinal "ApartCost$Product" "ApartCost$Product" "restCents" "[J"),
  (Jvm.Cond.arrayClass Jvm.ClassFile.FieldType.int),
  (Jvm.Cond.arrayClass Jvm.ClassFile.FieldType.long),
  (Jvm.Cond.classLink "ApartCost" (16 : Nat) "ApartCost$Planner"),
  (Jvm.Cond.instantiable "ApartCost$Planner" (4 : Nat)),
  (Jvm.Cond.methodLink "ApartCost" (18 : Nat) ({ cls := "ApartCost$Planner", name := "<init>", desc := "(LApartCost$Product;)V" } : Jvm.MethodName)),
  (Jvm.Cond.instanceMethod ({ cls := "ApartCost$Planner", name := "<init>", desc := "(LApartCost$Product;)V" } : Jvm.MethodName)),
  (Jvm.Cond.code ({ cls := "ApartCost$Planner", name := "<init>", desc := "(LApartCost$Product;)V" } : Jvm.MethodName) prog_4_method_1_code (2 : Nat) (Option.none : Option Jvm.ClassFile.FieldType)),
  (Jvm.Cond.methodLink "ApartCost$Planner" (3 : Nat) ({ cls := "java/lang/Object", name := "<init>", desc := "()V" } : Jvm.MethodName)),
  (Jvm.Cond.fieldLink "ApartCost$Planner" (21 : Nat) "ApartCost$Planner" "product" "LApartCost$Product;"),
  (Jvm.Cond.fieldLink "ApartCost$Found" (43 : Nat) "ApartCost$Planner" "product" "LApartCost$Product;"),
  (Jvm.Cond.fieldLink "ApartCost$Planner" (9 : Nat) "ApartCost$Planner" "values" "[J"),
  (Jvm.Cond.fieldLink "ApartCost$Found" (63 : Nat) "ApartCost$Planner" "values" "[J"),
  (Jvm.Cond.fieldLink "ApartCost$Planner" (15 : Nat) "ApartCost$Planner" "steps" "[J"),
  (Jvm.Cond.fieldLink "ApartCost$Planner" (18 : Nat) "ApartCost$Planner" "most" "[J"),
  (Jvm.Cond.laysFinal "ApartCost$Planner" "ApartCost$Planner" "product" "LApartCost$Product;"),
  (Jvm.Cond.laysFinal "ApartCost$Planner" "ApartCost$Planner" "values" "[J"),
  (Jvm.Cond.laysFinal "ApartCost$Planner" "ApartCost$Planner" "steps" "[J"),
  (Jvm.Cond.laysFinal "ApartCost$Planner" "ApartCost$Planner" "most" "[J"),
  (Jvm.Cond.classLink "ApartCost" (25 : Nat) "ApartCost$Found"),
  (Jvm.Cond.instantiable "ApartCost$Found" (8 : Nat)),
  (Jvm.Cond.instanceMethod ({ cls := "ApartCost$Found", name := "<init>", desc := "()V" } : Jvm.MethodName)),
  (Jvm.Cond.code ({ cls := "ApartCost$Found", name := "<init>", desc := "()V" } : Jvm.MethodName) prog_2_method_1_code (1 : Nat) (Option.none : Option Jvm.ClassFile.FieldType))]
def am_b2 : List Cond := [(Jvm.Cond.methodLink "ApartCost$Found" (3 : Nat) ({ cls := "java/lang/Object", name := "<init>", desc := "()V" } : Jvm.MethodName)),
  (Jvm.Cond.fieldLink "ApartCost$Found" (36 : Nat) "ApartCost$Found" "any" "Z"),
  (Jvm.Cond.fieldLink "ApartCost" (133 : Nat) "ApartCost$Found" "any" "Z"),
  (Jvm.Cond.fieldLink "ApartCost" (54 : Nat) "ApartCost$Found" "upToDate" "Z"),
  (Jvm.Cond.fieldLink "ApartCost$Found" (40 : Nat) "ApartCost$Found" "upToDate" "Z"),
  (Jvm.Cond.fieldLink "ApartCost$Found" (19 : Nat) "ApartCost$Found" "length" "I"),
  (Jvm.Cond.fieldLink "ApartCost" (127 : Nat) "ApartCost$Found" "length" "I"),
  (Jvm.Cond.fieldLink "ApartCost$Found" (23 : Nat) "ApartCost$Found" "set" "I"),
  (Jvm.Cond.fieldLink "ApartCost" (147 : Nat) "ApartCost$Found" "set" "I"),
  (Jvm.Cond.fieldLink "ApartCost$Found" (53 : Nat) "ApartCost$Found" "free" "I"),
  (Jvm.Cond.fieldLink "ApartCost" (136 : Nat) "ApartCost$Found" "free" "I"),
  (Jvm.Cond.fieldLink "ApartCost" (119 : Nat) "ApartCost$Found" "total" "J"),
  (Jvm.Cond.fieldLink "ApartCost$Found" (9 : Nat) "ApartCost$Found" "row" "[I"),
  (Jvm.Cond.fieldLink "ApartCost" (130 : Nat) "ApartCost$Found" "row" "[I"),
  (Jvm.Cond.fieldLink "ApartCost$Found" (15 : Nat) "ApartCost$Found" "brought" "[J"),
  (Jvm.Cond.fieldLink "ApartCost" (150 : Nat) "ApartCost$Found" "brought" "[J"),
  (Jvm.Cond.lays "ApartCost$Found" "ApartCost$Found" "any" "Z"),
  (Jvm.Cond.lays "ApartCost$Found" "ApartCost$Found" "upToDate" "Z"),
  (Jvm.Cond.lays "ApartCost$Found" "ApartCost$Found" "length" "I"),
  (Jvm.Cond.lays "ApartCost$Found" "ApartCost$Found" "set" "I"),
  (Jvm.Cond.lays "ApartCost$Found" "ApartCost$Found" "free" "I"),
  (Jvm.Cond.lays "ApartCost$Found" "ApartCost$Found" "total" "J"),
  (Jvm.Cond.laysFinal "ApartCost$Found" "ApartCost$Found" "row" "[I"),
  (Jvm.Cond.laysFinal "ApartCost$Found" "ApartCost$Found" "brought" "[J"),
  (Jvm.Cond.classLink "ApartCost" (32 : Nat) "ApartCost$Line"),
  (Jvm.Cond.instantiable "ApartCost$Line" (8 : Nat)),
  (Jvm.Cond.methodLink "ApartCost" (34 : Nat) ({ cls := "ApartCost$Line", name := "<init>", desc := "(LApartCost$Product;)V" } : Jvm.MethodName)),
  (Jvm.Cond.instanceMethod ({ cls := "ApartCost$Line", name := "<init>", desc := "(LApartCost$Product;)V" } : Jvm.MethodName)),
  (Jvm.Cond.code ({ cls := "ApartCost$Line", name := "<init>", desc := "(LApartCost$Product;)V" } : Jvm.MethodName) prog_3_method_1_code (2 : Nat) (Option.none : Option Jvm.ClassFile.FieldType)),
  (Jvm.Cond.methodLink "ApartCost$Line" (3 : Nat) ({ cls := "java/lang/Object", name := "<init>", desc := "()V" } : Jvm.MethodName)),
  (Jvm.Cond.methodLink "ApartCost$Line" (26 : Nat) ({ cls := "java/util/Arrays", name := "fill", desc := "([II)V" } : Jvm.MethodName)),
  (Jvm.Cond.static ({ cls := "java/util/Arrays", name := "fill", desc := "([II)V" } : Jvm.MethodName)),
  (Jvm.Cond.code ({ cls := "java/util/Arrays", name := "fill", desc := "([II)V" } : Jvm.MethodName) prog_10_method_103_code (4 : Nat) (Option.none : Option Jvm.ClassFile.FieldType)),
  (Jvm.Cond.fieldLink "ApartCost$Line" (9 : Nat) "ApartCost$Line" "told" "[I"),
  (Jvm.Cond.fieldLink "ApartCost" (177 : Nat) "ApartCost$Line" "told" "[I"),
  (Jvm.Cond.fieldLink "ApartCost$Line" (22 : Nat) "ApartCost$Line" "product" "LApartCost$Product;"),
  (Jvm.Cond.fieldLink "ApartCost$Line" (15 : Nat) "ApartCost$Line" "trial" "[I"),
  (Jvm.Cond.fieldLink "ApartCost$Line" (18 : Nat) "ApartCost$Line" "loads" "[J"),
  (Jvm.Cond.fieldLink "ApartCost$Line" (32 : Nat) "ApartCost$Line" "set" "I"),
  (Jvm.Cond.fieldLink "ApartCost$Line" (36 : Nat) "ApartCost$Line" "stations" "I"),
  (Jvm.Cond.fieldLink "ApartCost$Line" (49 : Nat) "ApartCost$Line" "longest" "J"),
  (Jvm.Cond.fieldLink "ApartCost$Line" (71 : Nat) "ApartCost$Line" "least" "J"),
  (Jvm.Cond.laysFinal "ApartCost$Line" "ApartCost$Line" "told" "[I"),
  (Jvm.Cond.laysFinal "ApartCost$Line" "ApartCost$Line" "product" "LApartCost$Product;"),
  (Jvm.Cond.laysFinal "ApartCost$Line" "ApartCost$Line" "trial" "[I"),
  (Jvm.Cond.laysFinal "ApartCost$Line" "ApartCost$Line" "loads" "[J"),
  (Jvm.Cond.lays "ApartCost$Line" "ApartCost$Line" "set" "I"),
  (Jvm.Cond.lays "ApartCost$Line" "ApartCost$Line" "stations" "I"),
  (Jvm.Cond.lays "ApartCost$Line" "ApartCost$Line" "longest" "J"),
  (Jvm.Cond.lays "ApartCost$Line" "ApartCost$Line" "least" "J"),
  (Jvm.Cond.fieldLink "ApartCost" (12 : Nat) "ApartCost" "product" "LApartCost$Product;"),
  (Jvm.Cond.fieldLink "ApartCost" (21 : Nat) "ApartCost" "planner" "LApartCost$Planner;"),
  (Jvm.Cond.fieldLink "ApartCost" (28 : Nat) "ApartCost" "found" "LApartCost$Found;"),
  (Jvm.Cond.fieldLink "ApartCost" (35 : Nat) "ApartCost" "line" "LApartCost$Line;"),
  (Jvm.Cond.laysFinal "ApartCost" "ApartCost" "product" "LApartCost$Product;"),
  (Jvm.Cond.laysFinal "ApartCost" "ApartCost" "planner" "LApartCost$Planner;"),
  (Jvm.Cond.laysFinal "ApartCost" "ApartCost" "found" "LApartCost$Found;"),
  (Jvm.Cond.laysFinal "ApartCost" "ApartCost" "line" "LApartCost$Line;"),
  (Jvm.Cond.methodLink "ApartCostLaw" (15 : Nat) ({ cls := "ApartCost", name := "act", desc := "(IIIJ)I" } : Jvm.MethodName)),
  (Jvm.Cond.instanceMethod ({ cls := "ApartCost", name := "act", desc := "(IIIJ)I" } : Jvm.MethodName))]
def am_b3 : List Cond := [(Jvm.Cond.selects "ApartCost" ({ cls := "ApartCost", name := "act", desc := "(IIIJ)I" } : Jvm.MethodName) ({ cls := "ApartCost", name := "act", desc := "(IIIJ)I" } : Jvm.MethodName)),
  (Jvm.Cond.code ({ cls := "ApartCost", name := "act", desc := "(IIIJ)I" } : Jvm.MethodName) prog_1_method_2_code (7 : Nat) (Option.some Jvm.ClassFile.FieldType.int)),
  (Jvm.Cond.methodLink "ApartCost" (39 : Nat) ({ cls := "ApartCost", name := "isPart", desc := "(I)Z" } : Jvm.MethodName)),
  (Jvm.Cond.static ({ cls := "ApartCost", name := "isPart", desc := "(I)Z" } : Jvm.MethodName)),
  (Jvm.Cond.code ({ cls := "ApartCost", name := "isPart", desc := "(I)Z" } : Jvm.MethodName) prog_1_method_21_code (1 : Nat) (Option.some Jvm.ClassFile.FieldType.boolean)),
  (Jvm.Cond.methodLink "ApartCost" (47 : Nat) ({ cls := "ApartCost", name := "isKind", desc := "(I)Z" } : Jvm.MethodName)),
  (Jvm.Cond.static ({ cls := "ApartCost", name := "isKind", desc := "(I)Z" } : Jvm.MethodName)),
  (Jvm.Cond.code ({ cls := "ApartCost", name := "isKind", desc := "(I)Z" } : Jvm.MethodName) prog_1_method_22_code (1 : Nat) (Option.some Jvm.ClassFile.FieldType.boolean)),
  (Jvm.Cond.methodLink "ApartCost" (50 : Nat) ({ cls := "ApartCost", name := "isPrice", desc := "(J)Z" } : Jvm.MethodName)),
  (Jvm.Cond.static ({ cls := "ApartCost", name := "isPrice", desc := "(J)Z" } : Jvm.MethodName)),
  (Jvm.Cond.code ({ cls := "ApartCost", name := "isPrice", desc := "(J)Z" } : Jvm.MethodName) prog_1_method_24_code (2 : Nat) (Option.some Jvm.ClassFile.FieldType.boolean)),
  (Jvm.Cond.constantLong "ApartCost" (180 : Nat) (1000000 : Int64)),
  (Jvm.Cond.methodLink "ApartCost" (58 : Nat) ({ cls := "ApartCost$Product", name := "addAct", desc := "(IIIJ)I" } : Jvm.MethodName)),
  (Jvm.Cond.instanceMethod ({ cls := "ApartCost$Product", name := "addAct", desc := "(IIIJ)I" } : Jvm.MethodName)),
  (Jvm.Cond.selects "ApartCost$Product" ({ cls := "ApartCost$Product", name := "addAct", desc := "(IIIJ)I" } : Jvm.MethodName) ({ cls := "ApartCost$Product", name := "addAct", desc := "(IIIJ)I" } : Jvm.MethodName)),
  (Jvm.Cond.code ({ cls := "ApartCost$Product", name := "addAct", desc := "(IIIJ)I" } : Jvm.MethodName) prog_5_method_4_code (7 : Nat) (Option.some Jvm.ClassFile.FieldType.int)),
  (Jvm.Cond.methodLink "ApartCostLaw" (20 : Nat) ({ cls := "ApartCost", name := "before", desc := "(II)Z" } : Jvm.MethodName)),
  (Jvm.Cond.instanceMethod ({ cls := "ApartCost", name := "before", desc := "(II)Z" } : Jvm.MethodName)),
  (Jvm.Cond.selects "ApartCost" ({ cls := "ApartCost", name := "before", desc := "(II)Z" } : Jvm.MethodName) ({ cls := "ApartCost", name := "before", desc := "(II)Z" } : Jvm.MethodName)),
  (Jvm.Cond.code ({ cls := "ApartCost", name := "before", desc := "(II)Z" } : Jvm.MethodName) prog_1_method_3_code (3 : Nat) (Option.some Jvm.ClassFile.FieldType.boolean)),
  (Jvm.Cond.methodLink "ApartCost" (62 : Nat) ({ cls := "ApartCost$Product", name := "hasAct", desc := "(I)Z" } : Jvm.MethodName)),
  (Jvm.Cond.instanceMethod ({ cls := "ApartCost$Product", name := "hasAct", desc := "(I)Z" } : Jvm.MethodName)),
  (Jvm.Cond.selects "ApartCost$Product" ({ cls := "ApartCost$Product", name := "hasAct", desc := "(I)Z" } : Jvm.MethodName) ({ cls := "ApartCost$Product", name := "hasAct", desc := "(I)Z" } : Jvm.MethodName)),
  (Jvm.Cond.code ({ cls := "ApartCost$Product", name := "hasAct", desc := "(I)Z" } : Jvm.MethodName) prog_5_method_2_code (2 : Nat) (Option.some Jvm.ClassFile.FieldType.boolean)),
  (Jvm.Cond.methodLink "ApartCost" (69 : Nat) ({ cls := "ApartCost", name := "has", desc := "(II)Z" } : Jvm.MethodName)),
  (Jvm.Cond.static ({ cls := "ApartCost", name := "has", desc := "(II)Z" } : Jvm.MethodName)),
  (Jvm.Cond.code ({ cls := "ApartCost", name := "has", desc := "(II)Z" } : Jvm.MethodName) prog_1_method_26_code (2 : Nat) (Option.some Jvm.ClassFile.FieldType.boolean)),
  (Jvm.Cond.methodLink "ApartCost" (73 : Nat) ({ cls := "ApartCost$Product", name := "addNeed", desc := "(II)V" } : Jvm.MethodName)),
  (Jvm.Cond.instanceMethod ({ cls := "ApartCost$Product", name := "addNeed", desc := "(II)V" } : Jvm.MethodName)),
  (Jvm.Cond.selects "ApartCost$Product" ({ cls := "ApartCost$Product", name := "addNeed", desc := "(II)V" } : Jvm.MethodName) ({ cls := "ApartCost$Product", name := "addNeed", desc := "(II)V" } : Jvm.MethodName)),
  (Jvm.Cond.code ({ cls := "ApartCost$Product", name := "addNeed", desc := "(II)V" } : Jvm.MethodName) prog_5_method_5_code (5 : Nat) (Option.none : Option Jvm.ClassFile.FieldType)),
  (Jvm.Cond.methodLink "ApartCostLaw" (25 : Nat) ({ cls := "ApartCost", name := "change", desc := "(IIJ)Z" } : Jvm.MethodName)),
  (Jvm.Cond.instanceMethod ({ cls := "ApartCost", name := "change", desc := "(IIJ)Z" } : Jvm.MethodName)),
  (Jvm.Cond.selects "ApartCost" ({ cls := "ApartCost", name := "change", desc := "(IIJ)Z" } : Jvm.MethodName) ({ cls := "ApartCost", name := "change", desc := "(IIJ)Z" } : Jvm.MethodName)),
  (Jvm.Cond.code ({ cls := "ApartCost", name := "change", desc := "(IIJ)Z" } : Jvm.MethodName) prog_1_method_4_code (5 : Nat) (Option.some Jvm.ClassFile.FieldType.boolean)),
  (Jvm.Cond.methodLink "ApartCost" (77 : Nat) ({ cls := "ApartCost", name := "isMove", desc := "(II)Z" } : Jvm.MethodName)),
  (Jvm.Cond.static ({ cls := "ApartCost", name := "isMove", desc := "(II)Z" } : Jvm.MethodName)),
  (Jvm.Cond.code ({ cls := "ApartCost", name := "isMove", desc := "(II)Z" } : Jvm.MethodName) prog_1_method_23_code (2 : Nat) (Option.some Jvm.ClassFile.FieldType.boolean)),
  (Jvm.Cond.methodLink "ApartCostLaw" (30 : Nat) ({ cls := "ApartCost", name := "turn", desc := "(IIJ)Z" } : Jvm.MethodName)),
  (Jvm.Cond.instanceMethod ({ cls := "ApartCost", name := "turn", desc := "(IIJ)Z" } : Jvm.MethodName)),
  (Jvm.Cond.selects "ApartCost" ({ cls := "ApartCost", name := "turn", desc := "(IIJ)Z" } : Jvm.MethodName) ({ cls := "ApartCost", name := "turn", desc := "(IIJ)Z" } : Jvm.MethodName)),
  (Jvm.Cond.code ({ cls := "ApartCost", name := "turn", desc := "(IIJ)Z" } : Jvm.MethodName) prog_1_method_5_code (5 : Nat) (Option.some Jvm.ClassFile.FieldType.boolean)),
  (Jvm.Cond.methodLink "ApartCostLaw" (34 : Nat) ({ cls := "ApartCost", name := "worth", desc := "(IJ)Z" } : Jvm.MethodName)),
  (Jvm.Cond.instanceMethod ({ cls := "ApartCost", name := "worth", desc := "(IJ)Z" } : Jvm.MethodName)),
  (Jvm.Cond.selects "ApartCost" ({ cls := "ApartCost", name := "worth", desc := "(IJ)Z" } : Jvm.MethodName) ({ cls := "ApartCost", name := "worth", desc := "(IJ)Z" } : Jvm.MethodName)),
  (Jvm.Cond.code ({ cls := "ApartCost", name := "worth", desc := "(IJ)Z" } : Jvm.MethodName) prog_1_method_6_code (4 : Nat) (Option.some Jvm.ClassFile.FieldType.boolean)),
  (Jvm.Cond.methodLink "ApartCost" (87 : Nat) ({ cls := "ApartCost", name := "isWorth", desc := "(J)Z" } : Jvm.MethodName)),
  (Jvm.Cond.static ({ cls := "ApartCost", name := "isWorth", desc := "(J)Z" } : Jvm.MethodName)),
  (Jvm.Cond.code ({ cls := "ApartCost", name := "isWorth", desc := "(J)Z" } : Jvm.MethodName) prog_1_method_25_code (2 : Nat) (Option.some Jvm.ClassFile.FieldType.boolean)),
  (Jvm.Cond.constantLong "ApartCost" (182 : Nat) (-1000000 : Int64)),
  (Jvm.Cond.methodLink "ApartCostLaw" (39 : Nat) ({ cls := "ApartCost", name := "rest", desc := "(JJ)Z" } : Jvm.MethodName)),
  (Jvm.Cond.instanceMethod ({ cls := "ApartCost", name := "rest", desc := "(JJ)Z" } : Jvm.MethodName)),
  (Jvm.Cond.selects "ApartCost" ({ cls := "ApartCost", name := "rest", desc := "(JJ)Z" } : Jvm.MethodName) ({ cls := "ApartCost", name := "rest", desc := "(JJ)Z" } : Jvm.MethodName)),
  (Jvm.Cond.code ({ cls := "ApartCost", name := "rest", desc := "(JJ)Z" } : Jvm.MethodName) prog_1_method_7_code (5 : Nat) (Option.some Jvm.ClassFile.FieldType.boolean)),
  (Jvm.Cond.constantLong "ApartCost" (93 : Nat) (4095 : Int64)),
  (Jvm.Cond.methodLink "ApartCost" (95 : Nat) ({ cls := "ApartCost$Product", name := "tellRest", desc := "(IJ)Z" } : Jvm.MethodName)),
  (Jvm.Cond.instanceMethod ({ cls := "ApartCost$Product", name := "tellRest", desc := "(IJ)Z" } : Jvm.MethodName)),
  (Jvm.Cond.selects "ApartCost$Product" ({ cls := "ApartCost$Product", name := "tellRest", desc := "(IJ)Z" } : Jvm.MethodName) ({ cls := "ApartCost$Product", name := "tellRest", desc := "(IJ)Z" } : Jvm.MethodName)),
  (Jvm.Cond.code ({ cls := "ApartCost$Product", name := "tellRest", desc := "(IJ)Z" } : Jvm.MethodName) prog_5_method_6_code (5 : Nat) (Option.some Jvm.ClassFile.FieldType.boolean)),
  (Jvm.Cond.methodLink "ApartCost$Product" (62 : Nat) ({ cls := "ApartCost$Product", name := "placeOfRest", desc := "(I)I" } : Jvm.MethodName))]
def am_b4 : List Cond := [(Jvm.Cond.instanceMethod ({ cls := "ApartCost$Product", name := "placeOfRest", desc := "(I)I" } : Jvm.MethodName)),
  (Jvm.Cond.code ({ cls := "ApartCost$Product", name := "placeOfRest", desc := "(I)I" } : Jvm.MethodName) prog_5_method_7_code (3 : Nat) (Option.some Jvm.ClassFile.FieldType.int)),
  (Jvm.Cond.methodLink "ApartCostLaw" (44 : Nat) ({ cls := "ApartCost", name := "breaks", desc := "(I)Z" } : Jvm.MethodName)),
  (Jvm.Cond.instanceMethod ({ cls := "ApartCost", name := "breaks", desc := "(I)Z" } : Jvm.MethodName)),
  (Jvm.Cond.selects "ApartCost" ({ cls := "ApartCost", name := "breaks", desc := "(I)Z" } : Jvm.MethodName) ({ cls := "ApartCost", name := "breaks", desc := "(I)Z" } : Jvm.MethodName)),
  (Jvm.Cond.code ({ cls := "ApartCost", name := "breaks", desc := "(I)Z" } : Jvm.MethodName) prog_1_method_8_code (2 : Nat) (Option.some Jvm.ClassFile.FieldType.boolean)),
  (Jvm.Cond.methodLink "ApartCostLaw" (49 : Nat) ({ cls := "ApartCost", name := "sure", desc := "(IJJ)Z" } : Jvm.MethodName)),
  (Jvm.Cond.instanceMethod ({ cls := "ApartCost", name := "sure", desc := "(IJJ)Z" } : Jvm.MethodName)),
  (Jvm.Cond.selects "ApartCost" ({ cls := "ApartCost", name := "sure", desc := "(IJJ)Z" } : Jvm.MethodName) ({ cls := "ApartCost", name := "sure", desc := "(IJJ)Z" } : Jvm.MethodName)),
  (Jvm.Cond.code ({ cls := "ApartCost", name := "sure", desc := "(IJJ)Z" } : Jvm.MethodName) prog_1_method_9_code (6 : Nat) (Option.some Jvm.ClassFile.FieldType.boolean)),
  (Jvm.Cond.constantLong "ApartCost" (102 : Nat) (12 : Int64)),
  (Jvm.Cond.constantLong "ApartCost" (107 : Nat) (27720 : Int64)),
  (Jvm.Cond.methodLink "ApartCostLaw" (54 : Nat) ({ cls := "ApartCost", name := "states", desc := "()J" } : Jvm.MethodName)),
  (Jvm.Cond.instanceMethod ({ cls := "ApartCost", name := "states", desc := "()J" } : Jvm.MethodName)),
  (Jvm.Cond.selects "ApartCost" ({ cls := "ApartCost", name := "states", desc := "()J" } : Jvm.MethodName) ({ cls := "ApartCost", name := "states", desc := "()J" } : Jvm.MethodName)),
  (Jvm.Cond.code ({ cls := "ApartCost", name := "states", desc := "()J" } : Jvm.MethodName) prog_1_method_10_code (1 : Nat) (Option.some Jvm.ClassFile.FieldType.long)),
  (Jvm.Cond.methodLink "ApartCost" (109 : Nat) ({ cls := "ApartCost$Product", name := "countStates", desc := "()J" } : Jvm.MethodName)),
  (Jvm.Cond.instanceMethod ({ cls := "ApartCost$Product", name := "countStates", desc := "()J" } : Jvm.MethodName)),
  (Jvm.Cond.selects "ApartCost$Product" ({ cls := "ApartCost$Product", name := "countStates", desc := "()J" } : Jvm.MethodName) ({ cls := "ApartCost$Product", name := "countStates", desc := "()J" } : Jvm.MethodName)),
  (Jvm.Cond.code ({ cls := "ApartCost$Product", name := "countStates", desc := "()J" } : Jvm.MethodName) prog_5_method_16_code (4 : Nat) (Option.some Jvm.ClassFile.FieldType.long)),
  (Jvm.Cond.methodLink "ApartCost$Product" (78 : Nat) ({ cls := "ApartCost$Product", name := "allActs", desc := "()I" } : Jvm.MethodName)),
  (Jvm.Cond.instanceMethod ({ cls := "ApartCost$Product", name := "allActs", desc := "()I" } : Jvm.MethodName)),
  (Jvm.Cond.selects "ApartCost$Product" ({ cls := "ApartCost$Product", name := "allActs", desc := "()I" } : Jvm.MethodName) ({ cls := "ApartCost$Product", name := "allActs", desc := "()I" } : Jvm.MethodName)),
  (Jvm.Cond.code ({ cls := "ApartCost$Product", name := "allActs", desc := "()I" } : Jvm.MethodName) prog_5_method_3_code (1 : Nat) (Option.some Jvm.ClassFile.FieldType.int)),
  (Jvm.Cond.methodLink "ApartCost$Product" (82 : Nat) ({ cls := "ApartCost$Product", name := "lastsOf", desc := "(I)I" } : Jvm.MethodName)),
  (Jvm.Cond.instanceMethod ({ cls := "ApartCost$Product", name := "lastsOf", desc := "(I)I" } : Jvm.MethodName)),
  (Jvm.Cond.selects "ApartCost$Product" ({ cls := "ApartCost$Product", name := "lastsOf", desc := "(I)I" } : Jvm.MethodName) ({ cls := "ApartCost$Product", name := "lastsOf", desc := "(I)I" } : Jvm.MethodName)),
  (Jvm.Cond.code ({ cls := "ApartCost$Product", name := "lastsOf", desc := "(I)I" } : Jvm.MethodName) prog_5_method_14_code (3 : Nat) (Option.some Jvm.ClassFile.FieldType.int)),
  (Jvm.Cond.methodLink "ApartCost$Product" (75 : Nat) ({ cls := "ApartCost$Product", name := "neededBy", desc := "(I)I" } : Jvm.MethodName)),
  (Jvm.Cond.instanceMethod ({ cls := "ApartCost$Product", name := "neededBy", desc := "(I)I" } : Jvm.MethodName)),
  (Jvm.Cond.code ({ cls := "ApartCost$Product", name := "neededBy", desc := "(I)I" } : Jvm.MethodName) prog_5_method_13_code (4 : Nat) (Option.some Jvm.ClassFile.FieldType.int)),
  (Jvm.Cond.methodLink "ApartCost$Product" (85 : Nat) ({ cls := "java/lang/Integer", name := "bitCount", desc := "(I)I" } : Jvm.MethodName)),
  (Jvm.Cond.static ({ cls := "java/lang/Integer", name := "bitCount", desc := "(I)I" } : Jvm.MethodName)),
  (Jvm.Cond.code ({ cls := "java/lang/Integer", name := "bitCount", desc := "(I)I" } : Jvm.MethodName) prog_8_method_49_code (1 : Nat) (Option.some Jvm.ClassFile.FieldType.int)),
  (Jvm.Cond.constant "java/lang/Integer" (265 : Nat) (1431655765 : Int32)),
  (Jvm.Cond.constant "java/lang/Integer" (266 : Nat) (858993459 : Int32)),
  (Jvm.Cond.constant "java/lang/Integer" (267 : Nat) (252645135 : Int32)),
  (Jvm.Cond.methodLink "ApartCostLaw" (59 : Nat) ({ cls := "ApartCost", name := "run", desc := "(J)I" } : Jvm.MethodName)),
  (Jvm.Cond.instanceMethod ({ cls := "ApartCost", name := "run", desc := "(J)I" } : Jvm.MethodName)),
  (Jvm.Cond.selects "ApartCost" ({ cls := "ApartCost", name := "run", desc := "(J)I" } : Jvm.MethodName) ({ cls := "ApartCost", name := "run", desc := "(J)I" } : Jvm.MethodName)),
  (Jvm.Cond.code ({ cls := "ApartCost", name := "run", desc := "(J)I" } : Jvm.MethodName) prog_1_method_11_code (3 : Nat) (Option.some Jvm.ClassFile.FieldType.int)),
  (Jvm.Cond.methodLink "ApartCost" (113 : Nat) ({ cls := "ApartCost$Planner", name := "valueAsTold", desc := "()V" } : Jvm.MethodName)),
  (Jvm.Cond.instanceMethod ({ cls := "ApartCost$Planner", name := "valueAsTold", desc := "()V" } : Jvm.MethodName)),
  (Jvm.Cond.selects "ApartCost$Planner" ({ cls := "ApartCost$Planner", name := "valueAsTold", desc := "()V" } : Jvm.MethodName) ({ cls := "ApartCost$Planner", name := "valueAsTold", desc := "()V" } : Jvm.MethodName)),
  (Jvm.Cond.code ({ cls := "ApartCost$Planner", name := "valueAsTold", desc := "()V" } : Jvm.MethodName) prog_4_method_2_code (2 : Nat) (Option.none : Option Jvm.ClassFile.FieldType)),
  (Jvm.Cond.methodLink "ApartCost$Planner" (25 : Nat) ({ cls := "ApartCost$Product", name := "valueOf", desc := "(I)J" } : Jvm.MethodName)),
  (Jvm.Cond.instanceMethod ({ cls := "ApartCost$Product", name := "valueOf", desc := "(I)J" } : Jvm.MethodName)),
  (Jvm.Cond.selects "ApartCost$Product" ({ cls := "ApartCost$Product", name := "valueOf", desc := "(I)J" } : Jvm.MethodName) ({ cls := "ApartCost$Product", name := "valueOf", desc := "(I)J" } : Jvm.MethodName)),
  (Jvm.Cond.code ({ cls := "ApartCost$Product", name := "valueOf", desc := "(I)J" } : Jvm.MethodName) prog_5_method_9_code (2 : Nat) (Option.some Jvm.ClassFile.FieldType.long)),
  (Jvm.Cond.methodLink "ApartCost" (116 : Nat) ({ cls := "ApartCost$Planner", name := "greatestGain", desc := "()J" } : Jvm.MethodName)),
  (Jvm.Cond.instanceMethod ({ cls := "ApartCost$Planner", name := "greatestGain", desc := "()J" } : Jvm.MethodName)),
  (Jvm.Cond.selects "ApartCost$Planner" ({ cls := "ApartCost$Planner", name := "greatestGain", desc := "()J" } : Jvm.MethodName) ({ cls := "ApartCost$Planner", name := "greatestGain", desc := "()J" } : Jvm.MethodName)),
  (Jvm.Cond.code ({ cls := "ApartCost$Planner", name := "greatestGain", desc := "()J" } : Jvm.MethodName) prog_4_method_4_code (2 : Nat) (Option.some Jvm.ClassFile.FieldType.long)),
  (Jvm.Cond.methodLink "ApartCost$Planner" (34 : Nat) ({ cls := "ApartCost$Planner", name := "setSteps", desc := "()V" } : Jvm.MethodName)),
  (Jvm.Cond.instanceMethod ({ cls := "ApartCost$Planner", name := "setSteps", desc := "()V" } : Jvm.MethodName)),
  (Jvm.Cond.code ({ cls := "ApartCost$Planner", name := "setSteps", desc := "()V" } : Jvm.MethodName) prog_4_method_6_code (3 : Nat) (Option.none : Option Jvm.ClassFile.FieldType)),
  (Jvm.Cond.methodLink "ApartCost$Planner" (68 : Nat) ({ cls := "ApartCost$Planner", name := "stepPlace", desc := "(II)I" } : Jvm.MethodName)),
  (Jvm.Cond.static ({ cls := "ApartCost$Planner", name := "stepPlace", desc := "(II)I" } : Jvm.MethodName)),
  (Jvm.Cond.code ({ cls := "ApartCost$Planner", name := "stepPlace", desc := "(II)I" } : Jvm.MethodName) prog_4_method_7_code (2 : Nat) (Option.some Jvm.ClassFile.FieldType.int)),
  (Jvm.Cond.methodLink "ApartCost$Planner" (72 : Nat) ({ cls := "ApartCost$Product", name := "centsOfStep", desc := "(II)J" } : Jvm.MethodName))]
def am_b5 : List Cond := [(Jvm.Cond.instanceMethod ({ cls := "ApartCost$Product", name := "centsOfStep", desc := "(II)J" } : Jvm.MethodName)),
  (Jvm.Cond.selects "ApartCost$Product" ({ cls := "ApartCost$Product", name := "centsOfStep", desc := "(II)J" } : Jvm.MethodName) ({ cls := "ApartCost$Product", name := "centsOfStep", desc := "(II)J" } : Jvm.MethodName)),
  (Jvm.Cond.code ({ cls := "ApartCost$Product", name := "centsOfStep", desc := "(II)J" } : Jvm.MethodName) prog_5_method_12_code (7 : Nat) (Option.some Jvm.ClassFile.FieldType.long)),
  (Jvm.Cond.constantLong "ApartCost$Planner" (76 : Nat) (27720 : Int64)),
  (Jvm.Cond.methodLink "ApartCost$Planner" (37 : Nat) ({ cls := "ApartCost$Product", name := "allActs", desc := "()I" } : Jvm.MethodName)),
  (Jvm.Cond.methodLink "ApartCost$Planner" (41 : Nat) ({ cls := "ApartCost$Planner", name := "setMost", desc := "(I)V" } : Jvm.MethodName)),
  (Jvm.Cond.instanceMethod ({ cls := "ApartCost$Planner", name := "setMost", desc := "(I)V" } : Jvm.MethodName)),
  (Jvm.Cond.code ({ cls := "ApartCost$Planner", name := "setMost", desc := "(I)V" } : Jvm.MethodName) prog_4_method_8_code (7 : Nat) (Option.none : Option Jvm.ClassFile.FieldType)),
  (Jvm.Cond.methodLink "ApartCost$Planner" (78 : Nat) ({ cls := "ApartCost$Product", name := "lastsOf", desc := "(I)I" } : Jvm.MethodName)),
  (Jvm.Cond.methodLink "ApartCost$Planner" (45 : Nat) ({ cls := "ApartCost$Product", name := "nextsOf", desc := "(I)I" } : Jvm.MethodName)),
  (Jvm.Cond.instanceMethod ({ cls := "ApartCost$Product", name := "nextsOf", desc := "(I)I" } : Jvm.MethodName)),
  (Jvm.Cond.selects "ApartCost$Product" ({ cls := "ApartCost$Product", name := "nextsOf", desc := "(I)I" } : Jvm.MethodName) ({ cls := "ApartCost$Product", name := "nextsOf", desc := "(I)I" } : Jvm.MethodName)),
  (Jvm.Cond.code ({ cls := "ApartCost$Product", name := "nextsOf", desc := "(I)I" } : Jvm.MethodName) prog_5_method_15_code (4 : Nat) (Option.some Jvm.ClassFile.FieldType.int)),
  (Jvm.Cond.methodLink "ApartCost$Planner" (49 : Nat) ({ cls := "ApartCost$Planner", name := "endOf", desc := "(I)J" } : Jvm.MethodName)),
  (Jvm.Cond.instanceMethod ({ cls := "ApartCost$Planner", name := "endOf", desc := "(I)J" } : Jvm.MethodName)),
  (Jvm.Cond.code ({ cls := "ApartCost$Planner", name := "endOf", desc := "(I)J" } : Jvm.MethodName) prog_4_method_11_code (6 : Nat) (Option.some Jvm.ClassFile.FieldType.long)),
  (Jvm.Cond.methodLink "ApartCost$Planner" (87 : Nat) ({ cls := "ApartCost$Product", name := "wholeBy", desc := "(I)I" } : Jvm.MethodName)),
  (Jvm.Cond.instanceMethod ({ cls := "ApartCost$Product", name := "wholeBy", desc := "(I)I" } : Jvm.MethodName)),
  (Jvm.Cond.selects "ApartCost$Product" ({ cls := "ApartCost$Product", name := "wholeBy", desc := "(I)I" } : Jvm.MethodName) ({ cls := "ApartCost$Product", name := "wholeBy", desc := "(I)I" } : Jvm.MethodName)),
  (Jvm.Cond.code ({ cls := "ApartCost$Product", name := "wholeBy", desc := "(I)I" } : Jvm.MethodName) prog_5_method_11_code (2 : Nat) (Option.some Jvm.ClassFile.FieldType.int)),
  (Jvm.Cond.methodLink "ApartCost$Product" (69 : Nat) ({ cls := "ApartCost$Product", name := "freedBy", desc := "(I)I" } : Jvm.MethodName)),
  (Jvm.Cond.instanceMethod ({ cls := "ApartCost$Product", name := "freedBy", desc := "(I)I" } : Jvm.MethodName)),
  (Jvm.Cond.selects "ApartCost$Product" ({ cls := "ApartCost$Product", name := "freedBy", desc := "(I)I" } : Jvm.MethodName) ({ cls := "ApartCost$Product", name := "freedBy", desc := "(I)I" } : Jvm.MethodName)),
  (Jvm.Cond.code ({ cls := "ApartCost$Product", name := "freedBy", desc := "(I)I" } : Jvm.MethodName) prog_5_method_10_code (4 : Nat) (Option.some Jvm.ClassFile.FieldType.int)),
  (Jvm.Cond.methodLink "ApartCost$Planner" (90 : Nat) ({ cls := "ApartCost$Product", name := "freedBy", desc := "(I)I" } : Jvm.MethodName)),
  (Jvm.Cond.methodLink "ApartCost$Planner" (93 : Nat) ({ cls := "ApartCost$Product", name := "restWorth", desc := "(I)J" } : Jvm.MethodName)),
  (Jvm.Cond.instanceMethod ({ cls := "ApartCost$Product", name := "restWorth", desc := "(I)J" } : Jvm.MethodName)),
  (Jvm.Cond.selects "ApartCost$Product" ({ cls := "ApartCost$Product", name := "restWorth", desc := "(I)J" } : Jvm.MethodName) ({ cls := "ApartCost$Product", name := "restWorth", desc := "(I)J" } : Jvm.MethodName)),
  (Jvm.Cond.code ({ cls := "ApartCost$Product", name := "restWorth", desc := "(I)J" } : Jvm.MethodName) prog_5_method_8_code (3 : Nat) (Option.some Jvm.ClassFile.FieldType.long)),
  (Jvm.Cond.methodLink "ApartCost$Planner" (52 : Nat) ({ cls := "ApartCost$Planner", name := "mostFrom", desc := "(IIIJ)J" } : Jvm.MethodName)),
  (Jvm.Cond.instanceMethod ({ cls := "ApartCost$Planner", name := "mostFrom", desc := "(IIIJ)J" } : Jvm.MethodName)),
  (Jvm.Cond.code ({ cls := "ApartCost$Planner", name := "mostFrom", desc := "(IIIJ)J" } : Jvm.MethodName) prog_4_method_9_code (9 : Nat) (Option.some Jvm.ClassFile.FieldType.long)),
  (Jvm.Cond.methodLink "ApartCost$Planner" (64 : Nat) ({ cls := "ApartCost$Planner", name := "mostBy", desc := "(III)J" } : Jvm.MethodName)),
  (Jvm.Cond.instanceMethod ({ cls := "ApartCost$Planner", name := "mostBy", desc := "(III)J" } : Jvm.MethodName)),
  (Jvm.Cond.code ({ cls := "ApartCost$Planner", name := "mostBy", desc := "(III)J" } : Jvm.MethodName) prog_4_method_10_code (4 : Nat) (Option.some Jvm.ClassFile.FieldType.long)),
  (Jvm.Cond.methodLink "ApartCost$Planner" (81 : Nat) ({ cls := "java/lang/Math", name := "max", desc := "(JJ)J" } : Jvm.MethodName)),
  (Jvm.Cond.static ({ cls := "java/lang/Math", name := "max", desc := "(JJ)J" } : Jvm.MethodName)),
  (Jvm.Cond.code ({ cls := "java/lang/Math", name := "max", desc := "(JJ)J" } : Jvm.MethodName) prog_9_method_66_code (4 : Nat) (Option.some Jvm.ClassFile.FieldType.long)),
  (Jvm.Cond.methodLink "ApartCost" (123 : Nat) ({ cls := "ApartCost$Found", name := "keepRow", desc := "(LApartCost$Planner;)V" } : Jvm.MethodName)),
  (Jvm.Cond.instanceMethod ({ cls := "ApartCost$Found", name := "keepRow", desc := "(LApartCost$Planner;)V" } : Jvm.MethodName)),
  (Jvm.Cond.selects "ApartCost$Found" ({ cls := "ApartCost$Found", name := "keepRow", desc := "(LApartCost$Planner;)V" } : Jvm.MethodName) ({ cls := "ApartCost$Found", name := "keepRow", desc := "(LApartCost$Planner;)V" } : Jvm.MethodName)),
  (Jvm.Cond.code ({ cls := "ApartCost$Found", name := "keepRow", desc := "(LApartCost$Planner;)V" } : Jvm.MethodName) prog_2_method_2_code (3 : Nat) (Option.none : Option Jvm.ClassFile.FieldType)),
  (Jvm.Cond.methodLink "ApartCost$Found" (26 : Nat) ({ cls := "ApartCost$Planner", name := "bestNext", desc := "(II)I" } : Jvm.MethodName)),
  (Jvm.Cond.instanceMethod ({ cls := "ApartCost$Planner", name := "bestNext", desc := "(II)I" } : Jvm.MethodName)),
  (Jvm.Cond.selects "ApartCost$Planner" ({ cls := "ApartCost$Planner", name := "bestNext", desc := "(II)I" } : Jvm.MethodName) ({ cls := "ApartCost$Planner", name := "bestNext", desc := "(II)I" } : Jvm.MethodName)),
  (Jvm.Cond.code ({ cls := "ApartCost$Planner", name := "bestNext", desc := "(II)I" } : Jvm.MethodName) prog_4_method_5_code (9 : Nat) (Option.some Jvm.ClassFile.FieldType.int)),
  (Jvm.Cond.methodLink "ApartCost$Found" (32 : Nat) ({ cls := "ApartCost$Found", name := "keepParts", desc := "(LApartCost$Planner;)V" } : Jvm.MethodName)),
  (Jvm.Cond.instanceMethod ({ cls := "ApartCost$Found", name := "keepParts", desc := "(LApartCost$Planner;)V" } : Jvm.MethodName)),
  (Jvm.Cond.code ({ cls := "ApartCost$Found", name := "keepParts", desc := "(LApartCost$Planner;)V" } : Jvm.MethodName) prog_2_method_3_code (4 : Nat) (Option.none : Option Jvm.ClassFile.FieldType)),
  (Jvm.Cond.methodLink "ApartCost$Found" (47 : Nat) ({ cls := "ApartCost$Product", name := "freedBy", desc := "(I)I" } : Jvm.MethodName)),
  (Jvm.Cond.methodLink "ApartCost$Found" (56 : Nat) ({ cls := "ApartCost$Product", name := "wholeBy", desc := "(I)I" } : Jvm.MethodName)),
  (Jvm.Cond.methodLink "ApartCostLaw" (64 : Nat) ({ cls := "ApartCost", name := "step", desc := "(I)I" } : Jvm.MethodName)),
  (Jvm.Cond.instanceMethod ({ cls := "ApartCost", name := "step", desc := "(I)I" } : Jvm.MethodName)),
  (Jvm.Cond.selects "ApartCost" ({ cls := "ApartCost", name := "step", desc := "(I)I" } : Jvm.MethodName) ({ cls := "ApartCost", name := "step", desc := "(I)I" } : Jvm.MethodName)),
  (Jvm.Cond.code ({ cls := "ApartCost", name := "step", desc := "(I)I" } : Jvm.MethodName) prog_1_method_12_code (2 : Nat) (Option.some Jvm.ClassFile.FieldType.int)),
  (Jvm.Cond.methodLink "ApartCostLaw" (69 : Nat) ({ cls := "ApartCost", name := "stops", desc := "(I)I" } : Jvm.MethodName)),
  (Jvm.Cond.instanceMethod ({ cls := "ApartCost", name := "stops", desc := "(I)I" } : Jvm.MethodName)),
  (Jvm.Cond.selects "ApartCost" ({ cls := "ApartCost", name := "stops", desc := "(I)I" } : Jvm.MethodName) ({ cls := "ApartCost", name := "stops", desc := "(I)I" } : Jvm.MethodName)),
  (Jvm.Cond.code ({ cls := "ApartCost", name := "stops", desc := "(I)I" } : Jvm.MethodName) prog_1_method_13_code (2 : Nat) (Option.some Jvm.ClassFile.FieldType.int)),
  (Jvm.Cond.methodLink "ApartCost" (139 : Nat) ({ cls := "ApartCost", name := "member", desc := "(II)I" } : Jvm.MethodName))]
def am_b6 : List Cond := [(Jvm.Cond.static ({ cls := "ApartCost", name := "member", desc := "(II)I" } : Jvm.MethodName)),
  (Jvm.Cond.code ({ cls := "ApartCost", name := "member", desc := "(II)I" } : Jvm.MethodName) prog_1_method_27_code (4 : Nat) (Option.some Jvm.ClassFile.FieldType.int)),
  (Jvm.Cond.methodLink "ApartCostLaw" (73 : Nat) ({ cls := "ApartCost", name := "other", desc := "(I)I" } : Jvm.MethodName)),
  (Jvm.Cond.instanceMethod ({ cls := "ApartCost", name := "other", desc := "(I)I" } : Jvm.MethodName)),
  (Jvm.Cond.selects "ApartCost" ({ cls := "ApartCost", name := "other", desc := "(I)I" } : Jvm.MethodName) ({ cls := "ApartCost", name := "other", desc := "(I)I" } : Jvm.MethodName)),
  (Jvm.Cond.code ({ cls := "ApartCost", name := "other", desc := "(I)I" } : Jvm.MethodName) prog_1_method_14_code (2 : Nat) (Option.some Jvm.ClassFile.FieldType.int)),
  (Jvm.Cond.methodLink "ApartCost" (143 : Nat) ({ cls := "ApartCost$Product", name := "allActs", desc := "()I" } : Jvm.MethodName)),
  (Jvm.Cond.methodLink "ApartCostLaw" (77 : Nat) ({ cls := "ApartCost", name := "gain", desc := "(I)J" } : Jvm.MethodName)),
  (Jvm.Cond.instanceMethod ({ cls := "ApartCost", name := "gain", desc := "(I)J" } : Jvm.MethodName)),
  (Jvm.Cond.selects "ApartCost" ({ cls := "ApartCost", name := "gain", desc := "(I)J" } : Jvm.MethodName) ({ cls := "ApartCost", name := "gain", desc := "(I)J" } : Jvm.MethodName)),
  (Jvm.Cond.code ({ cls := "ApartCost", name := "gain", desc := "(I)J" } : Jvm.MethodName) prog_1_method_15_code (2 : Nat) (Option.some Jvm.ClassFile.FieldType.long)),
  (Jvm.Cond.methodLink "ApartCostLaw" (82 : Nat) ({ cls := "ApartCost", name := "proved", desc := "()Z" } : Jvm.MethodName)),
  (Jvm.Cond.instanceMethod ({ cls := "ApartCost", name := "proved", desc := "()Z" } : Jvm.MethodName)),
  (Jvm.Cond.selects "ApartCost" ({ cls := "ApartCost", name := "proved", desc := "()Z" } : Jvm.MethodName) ({ cls := "ApartCost", name := "proved", desc := "()Z" } : Jvm.MethodName)),
  (Jvm.Cond.code ({ cls := "ApartCost", name := "proved", desc := "()Z" } : Jvm.MethodName) prog_1_method_16_code (1 : Nat) (Option.some Jvm.ClassFile.FieldType.boolean)),
  (Jvm.Cond.methodLink "ApartCostLaw" (87 : Nat) ({ cls := "ApartCost", name := "bound", desc := "()J" } : Jvm.MethodName)),
  (Jvm.Cond.instanceMethod ({ cls := "ApartCost", name := "bound", desc := "()J" } : Jvm.MethodName)),
  (Jvm.Cond.selects "ApartCost" ({ cls := "ApartCost", name := "bound", desc := "()J" } : Jvm.MethodName) ({ cls := "ApartCost", name := "bound", desc := "()J" } : Jvm.MethodName)),
  (Jvm.Cond.code ({ cls := "ApartCost", name := "bound", desc := "()J" } : Jvm.MethodName) prog_1_method_17_code (4 : Nat) (Option.some Jvm.ClassFile.FieldType.long)),
  (Jvm.Cond.methodLink "ApartCost" (159 : Nat) ({ cls := "java/lang/Math", name := "max", desc := "(JJ)J" } : Jvm.MethodName)),
  (Jvm.Cond.methodLink "ApartCost" (165 : Nat) ({ cls := "ApartCost$Product", name := "valueOf", desc := "(I)J" } : Jvm.MethodName)),
  (Jvm.Cond.methodLink "ApartCostLaw" (91 : Nat) ({ cls := "ApartCost", name := "test", desc := "(IJ)I" } : Jvm.MethodName)),
  (Jvm.Cond.instanceMethod ({ cls := "ApartCost", name := "test", desc := "(IJ)I" } : Jvm.MethodName)),
  (Jvm.Cond.selects "ApartCost" ({ cls := "ApartCost", name := "test", desc := "(IJ)I" } : Jvm.MethodName) ({ cls := "ApartCost", name := "test", desc := "(IJ)I" } : Jvm.MethodName)),
  (Jvm.Cond.code ({ cls := "ApartCost", name := "test", desc := "(IJ)I" } : Jvm.MethodName) prog_1_method_18_code (14 : Nat) (Option.some Jvm.ClassFile.FieldType.int)),
  (Jvm.Cond.methodLink "ApartCost" (169 : Nat) ({ cls := "ApartCost$Planner", name := "valueByShare", desc := "(IJ)V" } : Jvm.MethodName)),
  (Jvm.Cond.instanceMethod ({ cls := "ApartCost$Planner", name := "valueByShare", desc := "(IJ)V" } : Jvm.MethodName)),
  (Jvm.Cond.selects "ApartCost$Planner" ({ cls := "ApartCost$Planner", name := "valueByShare", desc := "(IJ)V" } : Jvm.MethodName) ({ cls := "ApartCost$Planner", name := "valueByShare", desc := "(IJ)V" } : Jvm.MethodName)),
  (Jvm.Cond.code ({ cls := "ApartCost$Planner", name := "valueByShare", desc := "(IJ)V" } : Jvm.MethodName) prog_4_method_3_code (4 : Nat) (Option.none : Option Jvm.ClassFile.FieldType)),
  (Jvm.Cond.methodLink "ApartCostLaw" (96 : Nat) ({ cls := "ApartCost", name := "stations", desc := "(I)I" } : Jvm.MethodName)),
  (Jvm.Cond.instanceMethod ({ cls := "ApartCost", name := "stations", desc := "(I)I" } : Jvm.MethodName)),
  (Jvm.Cond.selects "ApartCost" ({ cls := "ApartCost", name := "stations", desc := "(I)I" } : Jvm.MethodName) ({ cls := "ApartCost", name := "stations", desc := "(I)I" } : Jvm.MethodName)),
  (Jvm.Cond.code ({ cls := "ApartCost", name := "stations", desc := "(I)I" } : Jvm.MethodName) prog_1_method_19_code (2 : Nat) (Option.some Jvm.ClassFile.FieldType.int)),
  (Jvm.Cond.methodLink "ApartCost" (173 : Nat) ({ cls := "ApartCost$Line", name := "shareOut", desc := "(II)J" } : Jvm.MethodName)),
  (Jvm.Cond.instanceMethod ({ cls := "ApartCost$Line", name := "shareOut", desc := "(II)J" } : Jvm.MethodName)),
  (Jvm.Cond.selects "ApartCost$Line" ({ cls := "ApartCost$Line", name := "shareOut", desc := "(II)J" } : Jvm.MethodName) ({ cls := "ApartCost$Line", name := "shareOut", desc := "(II)J" } : Jvm.MethodName)),
  (Jvm.Cond.code ({ cls := "ApartCost$Line", name := "shareOut", desc := "(II)J" } : Jvm.MethodName) prog_3_method_2_code (3 : Nat) (Option.some Jvm.ClassFile.FieldType.long)),
  (Jvm.Cond.methodLink "ApartCost$Line" (39 : Nat) ({ cls := "ApartCost$Line", name := "setLimits", desc := "()V" } : Jvm.MethodName)),
  (Jvm.Cond.instanceMethod ({ cls := "ApartCost$Line", name := "setLimits", desc := "()V" } : Jvm.MethodName)),
  (Jvm.Cond.code ({ cls := "ApartCost$Line", name := "setLimits", desc := "()V" } : Jvm.MethodName) prog_3_method_3_code (6 : Nat) (Option.none : Option Jvm.ClassFile.FieldType)),
  (Jvm.Cond.methodLink "ApartCost$Line" (65 : Nat) ({ cls := "java/lang/Math", name := "max", desc := "(JJ)J" } : Jvm.MethodName)),
  (Jvm.Cond.methodLink "ApartCost$Line" (42 : Nat) ({ cls := "java/util/Arrays", name := "fill", desc := "([JJ)V" } : Jvm.MethodName)),
  (Jvm.Cond.methodLink "ApartCost$Line" (45 : Nat) ({ cls := "ApartCost$Line", name := "tryFrom", desc := "(LApartCost$Line;IJ)V" } : Jvm.MethodName)),
  (Jvm.Cond.static ({ cls := "ApartCost$Line", name := "tryFrom", desc := "(LApartCost$Line;IJ)V" } : Jvm.MethodName)),
  (Jvm.Cond.code ({ cls := "ApartCost$Line", name := "tryFrom", desc := "(LApartCost$Line;IJ)V" } : Jvm.MethodName) prog_3_method_4_code (10 : Nat) (Option.none : Option Jvm.ClassFile.FieldType)),
  (Jvm.Cond.methodLink "ApartCost$Line" (74 : Nat) ({ cls := "ApartCost$Line", name := "keepTrial", desc := "(J)V" } : Jvm.MethodName)),
  (Jvm.Cond.instanceMethod ({ cls := "ApartCost$Line", name := "keepTrial", desc := "(J)V" } : Jvm.MethodName)),
  (Jvm.Cond.code ({ cls := "ApartCost$Line", name := "keepTrial", desc := "(J)V" } : Jvm.MethodName) prog_3_method_5_code (4 : Nat) (Option.none : Option Jvm.ClassFile.FieldType)),
  (Jvm.Cond.methodLink "ApartCost$Line" (78 : Nat) ({ cls := "ApartCost$Line", name := "latestFor", desc := "(I)I" } : Jvm.MethodName)),
  (Jvm.Cond.instanceMethod ({ cls := "ApartCost$Line", name := "latestFor", desc := "(I)I" } : Jvm.MethodName)),
  (Jvm.Cond.code ({ cls := "ApartCost$Line", name := "latestFor", desc := "(I)I" } : Jvm.MethodName) prog_3_method_7_code (4 : Nat) (Option.some Jvm.ClassFile.FieldType.int)),
  (Jvm.Cond.methodLink "ApartCost$Line" (91 : Nat) ({ cls := "java/lang/Math", name := "min", desc := "(II)I" } : Jvm.MethodName)),
  (Jvm.Cond.static ({ cls := "java/lang/Math", name := "min", desc := "(II)I" } : Jvm.MethodName)),
  (Jvm.Cond.code ({ cls := "java/lang/Math", name := "min", desc := "(II)I" } : Jvm.MethodName) prog_9_method_69_code (2 : Nat) (Option.some Jvm.ClassFile.FieldType.int)),
  (Jvm.Cond.methodLink "ApartCost$Line" (82 : Nat) ({ cls := "ApartCost$Line", name := "earliestFor", desc := "(I)I" } : Jvm.MethodName)),
  (Jvm.Cond.instanceMethod ({ cls := "ApartCost$Line", name := "earliestFor", desc := "(I)I" } : Jvm.MethodName)),
  (Jvm.Cond.code ({ cls := "ApartCost$Line", name := "earliestFor", desc := "(I)I" } : Jvm.MethodName) prog_3_method_6_code (4 : Nat) (Option.some Jvm.ClassFile.FieldType.int)),
  (Jvm.Cond.methodLink "ApartCost$Line" (88 : Nat) ({ cls := "java/lang/Math", name := "max", desc := "(II)I" } : Jvm.MethodName)),
  (Jvm.Cond.static ({ cls := "java/lang/Math", name := "max", desc := "(II)I" } : Jvm.MethodName)),
  (Jvm.Cond.code ({ cls := "java/lang/Math", name := "max", desc := "(II)I" } : Jvm.MethodName) prog_9_method_65_code (2 : Nat) (Option.some Jvm.ClassFile.FieldType.int))]
def am_b7 : List Cond := [(Jvm.Cond.methodLink "ApartCostLaw" (100 : Nat) ({ cls := "ApartCost", name := "station", desc := "(I)I" } : Jvm.MethodName)),
  (Jvm.Cond.instanceMethod ({ cls := "ApartCost", name := "station", desc := "(I)I" } : Jvm.MethodName)),
  (Jvm.Cond.selects "ApartCost" ({ cls := "ApartCost", name := "station", desc := "(I)I" } : Jvm.MethodName) ({ cls := "ApartCost", name := "station", desc := "(I)I" } : Jvm.MethodName)),
  (Jvm.Cond.code ({ cls := "ApartCost", name := "station", desc := "(I)I" } : Jvm.MethodName) prog_1_method_20_code (2 : Nat) (Option.some Jvm.ClassFile.FieldType.int)),
  (Jvm.Cond.classLink "ApartCostLaw" (10 : Nat) "ApartCostModel"),
  (Jvm.Cond.instantiable "ApartCostModel" (31 : Nat)),
  (Jvm.Cond.methodLink "ApartCostLaw" (12 : Nat) ({ cls := "ApartCostModel", name := "<init>", desc := "()V" } : Jvm.MethodName)),
  (Jvm.Cond.instanceMethod ({ cls := "ApartCostModel", name := "<init>", desc := "()V" } : Jvm.MethodName)),
  (Jvm.Cond.code ({ cls := "ApartCostModel", name := "<init>", desc := "()V" } : Jvm.MethodName) prog_7_method_1_code (2 : Nat) (Option.none : Option Jvm.ClassFile.FieldType)),
  (Jvm.Cond.methodLink "ApartCostModel" (1 : Nat) ({ cls := "java/lang/Object", name := "<init>", desc := "()V" } : Jvm.MethodName)),
  (Jvm.Cond.fieldLink "ApartCostModel" (86 : Nat) "ApartCostModel" "count" "I"),
  (Jvm.Cond.fieldLink "ApartCostModel" (7 : Nat) "ApartCostModel" "freed" "[I"),
  (Jvm.Cond.fieldLink "ApartCostModel" (13 : Nat) "ApartCostModel" "tools" "[I"),
  (Jvm.Cond.fieldLink "ApartCostModel" (16 : Nat) "ApartCostModel" "sides" "[I"),
  (Jvm.Cond.fieldLink "ApartCostModel" (19 : Nat) "ApartCostModel" "costs" "[J"),
  (Jvm.Cond.fieldLink "ApartCostModel" (23 : Nat) "ApartCostModel" "breaking" "[Z"),
  (Jvm.Cond.fieldLink "ApartCostModel" (27 : Nat) "ApartCostModel" "needs" "[Z"),
  (Jvm.Cond.fieldLink "ApartCostModel" (30 : Nat) "ApartCostModel" "changes" "[J"),
  (Jvm.Cond.fieldLink "ApartCostModel" (33 : Nat) "ApartCostModel" "turns" "[J"),
  (Jvm.Cond.fieldLink "ApartCostModel" (36 : Nat) "ApartCostModel" "worths" "[J"),
  (Jvm.Cond.fieldLink "ApartCostModel" (39 : Nat) "ApartCostModel" "above" "[I"),
  (Jvm.Cond.fieldLink "ApartCostModel" (42 : Nat) "ApartCostModel" "below" "[I"),
  (Jvm.Cond.fieldLink "ApartCostModel" (45 : Nat) "ApartCostModel" "rests" "[I"),
  (Jvm.Cond.fieldLink "ApartCostModel" (48 : Nat) "ApartCostModel" "restWorths" "[J"),
  (Jvm.Cond.fieldLink "ApartCostModel" (116 : Nat) "ApartCostModel" "restCount" "I"),
  (Jvm.Cond.fieldLink "ApartCostModel" (51 : Nat) "ApartCostModel" "row" "[I"),
  (Jvm.Cond.fieldLink "ApartCostModel" (54 : Nat) "ApartCostModel" "length" "I"),
  (Jvm.Cond.fieldLink "ApartCostModel" (167 : Nat) "ApartCostModel" "found" "J"),
  (Jvm.Cond.fieldLink "ApartCostModel" (58 : Nat) "ApartCostModel" "brought" "[J"),
  (Jvm.Cond.fieldLink "ApartCostModel" (97 : Nat) "ApartCostModel" "isFresh" "Z"),
  (Jvm.Cond.fieldLink "ApartCostModel" (171 : Nat) "ApartCostModel" "openParts" "I"),
  (Jvm.Cond.fieldLink "ApartCostModel" (174 : Nat) "ApartCostModel" "actsThen" "I"),
  (Jvm.Cond.fieldLink "ApartCostModel" (61 : Nat) "ApartCostModel" "places" "[I"),
  (Jvm.Cond.fieldLink "ApartCostModel" (196 : Nat) "ApartCostModel" "isShared" "Z"),
  (Jvm.Cond.fieldLink "ApartCostModel" (64 : Nat) "ApartCostModel" "tested" "I"),
  (Jvm.Cond.fieldLink "ApartCostModel" (127 : Nat) "ApartCostModel" "testedAs" "I"),
  (Jvm.Cond.fieldLink "ApartCostModel" (67 : Nat) "ApartCostModel" "needed" "[I"),
  (Jvm.Cond.fieldLink "ApartCostModel" (70 : Nat) "ApartCostModel" "least" "[J"),
  (Jvm.Cond.fieldLink "ApartCostModel" (73 : Nat) "ApartCostModel" "values" "[J"),
  (Jvm.Cond.fieldLink "ApartCostModel" (76 : Nat) "ApartCostModel" "tried" "[I"),
  (Jvm.Cond.fieldLink "ApartCostModel" (79 : Nat) "ApartCostModel" "behind" "[Z"),
  (Jvm.Cond.lays "ApartCostModel" "ApartCostModel" "count" "I"),
  (Jvm.Cond.laysFinal "ApartCostModel" "ApartCostModel" "freed" "[I"),
  (Jvm.Cond.laysFinal "ApartCostModel" "ApartCostModel" "tools" "[I"),
  (Jvm.Cond.laysFinal "ApartCostModel" "ApartCostModel" "sides" "[I"),
  (Jvm.Cond.laysFinal "ApartCostModel" "ApartCostModel" "costs" "[J"),
  (Jvm.Cond.laysFinal "ApartCostModel" "ApartCostModel" "breaking" "[Z"),
  (Jvm.Cond.laysFinal "ApartCostModel" "ApartCostModel" "needs" "[Z"),
  (Jvm.Cond.laysFinal "ApartCostModel" "ApartCostModel" "changes" "[J"),
  (Jvm.Cond.laysFinal "ApartCostModel" "ApartCostModel" "turns" "[J"),
  (Jvm.Cond.laysFinal "ApartCostModel" "ApartCostModel" "worths" "[J"),
  (Jvm.Cond.laysFinal "ApartCostModel" "ApartCostModel" "above" "[I"),
  (Jvm.Cond.laysFinal "ApartCostModel" "ApartCostModel" "below" "[I"),
  (Jvm.Cond.laysFinal "ApartCostModel" "ApartCostModel" "rests" "[I"),
  (Jvm.Cond.laysFinal "ApartCostModel" "ApartCostModel" "restWorths" "[J"),
  (Jvm.Cond.lays "ApartCostModel" "ApartCostModel" "restCount" "I"),
  (Jvm.Cond.laysFinal "ApartCostModel" "ApartCostModel" "row" "[I"),
  (Jvm.Cond.lays "ApartCostModel" "ApartCostModel" "length" "I"),
  (Jvm.Cond.lays "ApartCostModel" "ApartCostModel" "found" "J"),
  (Jvm.Cond.laysFinal "ApartCostModel" "ApartCostModel" "brought" "[J")]
def am_b8 : List Cond := [(Jvm.Cond.lays "ApartCostModel" "ApartCostModel" "isFresh" "Z"),
  (Jvm.Cond.lays "ApartCostModel" "ApartCostModel" "openParts" "I"),
  (Jvm.Cond.lays "ApartCostModel" "ApartCostModel" "actsThen" "I"),
  (Jvm.Cond.laysFinal "ApartCostModel" "ApartCostModel" "places" "[I"),
  (Jvm.Cond.lays "ApartCostModel" "ApartCostModel" "isShared" "Z"),
  (Jvm.Cond.lays "ApartCostModel" "ApartCostModel" "tested" "I"),
  (Jvm.Cond.lays "ApartCostModel" "ApartCostModel" "testedAs" "I"),
  (Jvm.Cond.laysFinal "ApartCostModel" "ApartCostModel" "needed" "[I"),
  (Jvm.Cond.laysFinal "ApartCostModel" "ApartCostModel" "least" "[J"),
  (Jvm.Cond.laysFinal "ApartCostModel" "ApartCostModel" "values" "[J"),
  (Jvm.Cond.laysFinal "ApartCostModel" "ApartCostModel" "tried" "[I"),
  (Jvm.Cond.laysFinal "ApartCostModel" "ApartCostModel" "behind" "[Z"),
  (Jvm.Cond.arrayClass Jvm.ClassFile.FieldType.boolean),
  (Jvm.Cond.methodLink "ApartCostLaw" (19 : Nat) ({ cls := "ApartCostModel", name := "act", desc := "(IIIJ)I" } : Jvm.MethodName)),
  (Jvm.Cond.instanceMethod ({ cls := "ApartCostModel", name := "act", desc := "(IIIJ)I" } : Jvm.MethodName)),
  (Jvm.Cond.selects "ApartCostModel" ({ cls := "ApartCostModel", name := "act", desc := "(IIIJ)I" } : Jvm.MethodName) ({ cls := "ApartCostModel", name := "act", desc := "(IIIJ)I" } : Jvm.MethodName)),
  (Jvm.Cond.code ({ cls := "ApartCostModel", name := "act", desc := "(IIIJ)I" } : Jvm.MethodName) prog_7_method_8_code (6 : Nat) (Option.some Jvm.ClassFile.FieldType.int)),
  (Jvm.Cond.methodLink "ApartCostModel" (89 : Nat) ({ cls := "ApartCostModel", name := "isKind", desc := "(I)Z" } : Jvm.MethodName)),
  (Jvm.Cond.static ({ cls := "ApartCostModel", name := "isKind", desc := "(I)Z" } : Jvm.MethodName)),
  (Jvm.Cond.code ({ cls := "ApartCostModel", name := "isKind", desc := "(I)Z" } : Jvm.MethodName) prog_7_method_5_code (1 : Nat) (Option.some Jvm.ClassFile.FieldType.boolean)),
  (Jvm.Cond.methodLink "ApartCostModel" (93 : Nat) ({ cls := "ApartCostModel", name := "isCents", desc := "(J)Z" } : Jvm.MethodName)),
  (Jvm.Cond.static ({ cls := "ApartCostModel", name := "isCents", desc := "(J)Z" } : Jvm.MethodName)),
  (Jvm.Cond.code ({ cls := "ApartCostModel", name := "isCents", desc := "(J)Z" } : Jvm.MethodName) prog_7_method_3_code (2 : Nat) (Option.some Jvm.ClassFile.FieldType.boolean)),
  (Jvm.Cond.constantLong "ApartCostModel" (82 : Nat) (1000000 : Int64)),
  (Jvm.Cond.methodLink "ApartCostLaw" (24 : Nat) ({ cls := "ApartCostModel", name := "before", desc := "(II)Z" } : Jvm.MethodName)),
  (Jvm.Cond.instanceMethod ({ cls := "ApartCostModel", name := "before", desc := "(II)Z" } : Jvm.MethodName)),
  (Jvm.Cond.selects "ApartCostModel" ({ cls := "ApartCostModel", name := "before", desc := "(II)Z" } : Jvm.MethodName) ({ cls := "ApartCostModel", name := "before", desc := "(II)Z" } : Jvm.MethodName)),
  (Jvm.Cond.code ({ cls := "ApartCostModel", name := "before", desc := "(II)Z" } : Jvm.MethodName) prog_7_method_10_code (3 : Nat) (Option.some Jvm.ClassFile.FieldType.boolean)),
  (Jvm.Cond.methodLink "ApartCostModel" (101 : Nat) ({ cls := "ApartCostModel", name := "isAct", desc := "(I)Z" } : Jvm.MethodName)),
  (Jvm.Cond.instanceMethod ({ cls := "ApartCostModel", name := "isAct", desc := "(I)Z" } : Jvm.MethodName)),
  (Jvm.Cond.code ({ cls := "ApartCostModel", name := "isAct", desc := "(I)Z" } : Jvm.MethodName) prog_7_method_7_code (2 : Nat) (Option.some Jvm.ClassFile.FieldType.boolean)),
  (Jvm.Cond.methodLink "ApartCostModel" (104 : Nat) ({ cls := "ApartCostModel", name := "leadsTo", desc := "(II)Z" } : Jvm.MethodName)),
  (Jvm.Cond.instanceMethod ({ cls := "ApartCostModel", name := "leadsTo", desc := "(II)Z" } : Jvm.MethodName)),
  (Jvm.Cond.code ({ cls := "ApartCostModel", name := "leadsTo", desc := "(II)Z" } : Jvm.MethodName) prog_7_method_9_code (7 : Nat) (Option.some Jvm.ClassFile.FieldType.boolean)),
  (Jvm.Cond.methodLink "ApartCostLaw" (29 : Nat) ({ cls := "ApartCostModel", name := "change", desc := "(IIJ)Z" } : Jvm.MethodName)),
  (Jvm.Cond.instanceMethod ({ cls := "ApartCostModel", name := "change", desc := "(IIJ)Z" } : Jvm.MethodName)),
  (Jvm.Cond.selects "ApartCostModel" ({ cls := "ApartCostModel", name := "change", desc := "(IIJ)Z" } : Jvm.MethodName) ({ cls := "ApartCostModel", name := "change", desc := "(IIJ)Z" } : Jvm.MethodName)),
  (Jvm.Cond.code ({ cls := "ApartCostModel", name := "change", desc := "(IIJ)Z" } : Jvm.MethodName) prog_7_method_11_code (5 : Nat) (Option.some Jvm.ClassFile.FieldType.boolean)),
  (Jvm.Cond.methodLink "ApartCostLaw" (33 : Nat) ({ cls := "ApartCostModel", name := "turn", desc := "(IIJ)Z" } : Jvm.MethodName)),
  (Jvm.Cond.instanceMethod ({ cls := "ApartCostModel", name := "turn", desc := "(IIJ)Z" } : Jvm.MethodName)),
  (Jvm.Cond.selects "ApartCostModel" ({ cls := "ApartCostModel", name := "turn", desc := "(IIJ)Z" } : Jvm.MethodName) ({ cls := "ApartCostModel", name := "turn", desc := "(IIJ)Z" } : Jvm.MethodName)),
  (Jvm.Cond.code ({ cls := "ApartCostModel", name := "turn", desc := "(IIJ)Z" } : Jvm.MethodName) prog_7_method_12_code (5 : Nat) (Option.some Jvm.ClassFile.FieldType.boolean)),
  (Jvm.Cond.methodLink "ApartCostLaw" (38 : Nat) ({ cls := "ApartCostModel", name := "worth", desc := "(IJ)Z" } : Jvm.MethodName)),
  (Jvm.Cond.instanceMethod ({ cls := "ApartCostModel", name := "worth", desc := "(IJ)Z" } : Jvm.MethodName)),
  (Jvm.Cond.selects "ApartCostModel" ({ cls := "ApartCostModel", name := "worth", desc := "(IJ)Z" } : Jvm.MethodName) ({ cls := "ApartCostModel", name := "worth", desc := "(IJ)Z" } : Jvm.MethodName)),
  (Jvm.Cond.code ({ cls := "ApartCostModel", name := "worth", desc := "(IJ)Z" } : Jvm.MethodName) prog_7_method_13_code (4 : Nat) (Option.some Jvm.ClassFile.FieldType.boolean)),
  (Jvm.Cond.methodLink "ApartCostModel" (108 : Nat) ({ cls := "ApartCostModel", name := "isPart", desc := "(I)Z" } : Jvm.MethodName)),
  (Jvm.Cond.static ({ cls := "ApartCostModel", name := "isPart", desc := "(I)Z" } : Jvm.MethodName)),
  (Jvm.Cond.code ({ cls := "ApartCostModel", name := "isPart", desc := "(I)Z" } : Jvm.MethodName) prog_7_method_6_code (1 : Nat) (Option.some Jvm.ClassFile.FieldType.boolean)),
  (Jvm.Cond.methodLink "ApartCostModel" (111 : Nat) ({ cls := "ApartCostModel", name := "isWorth", desc := "(J)Z" } : Jvm.MethodName)),
  (Jvm.Cond.static ({ cls := "ApartCostModel", name := "isWorth", desc := "(J)Z" } : Jvm.MethodName)),
  (Jvm.Cond.code ({ cls := "ApartCostModel", name := "isWorth", desc := "(J)Z" } : Jvm.MethodName) prog_7_method_4_code (2 : Nat) (Option.some Jvm.ClassFile.FieldType.boolean)),
  (Jvm.Cond.constantLong "ApartCostModel" (84 : Nat) (-1000000 : Int64)),
  (Jvm.Cond.methodLink "ApartCostLaw" (43 : Nat) ({ cls := "ApartCostModel", name := "rest", desc := "(JJ)Z" } : Jvm.MethodName)),
  (Jvm.Cond.instanceMethod ({ cls := "ApartCostModel", name := "rest", desc := "(JJ)Z" } : Jvm.MethodName)),
  (Jvm.Cond.selects "ApartCostModel" ({ cls := "ApartCostModel", name := "rest", desc := "(JJ)Z" } : Jvm.MethodName) ({ cls := "ApartCostModel", name := "rest", desc := "(JJ)Z" } : Jvm.MethodName)),
  (Jvm.Cond.code ({ cls := "ApartCostModel", name := "rest", desc := "(JJ)Z" } : Jvm.MethodName) prog_7_method_14_code (6 : Nat) (Option.some Jvm.ClassFile.FieldType.boolean)),
  (Jvm.Cond.constantLong "ApartCostModel" (114 : Nat) (4095 : Int64)),
  (Jvm.Cond.methodLink "ApartCostLaw" (48 : Nat) ({ cls := "ApartCostModel", name := "breaks", desc := "(I)Z" } : Jvm.MethodName)),
  (Jvm.Cond.instanceMethod ({ cls := "ApartCostModel", name := "breaks", desc := "(I)Z" } : Jvm.MethodName))]
def am_b9 : List Cond := [(Jvm.Cond.selects "ApartCostModel" ({ cls := "ApartCostModel", name := "breaks", desc := "(I)Z" } : Jvm.MethodName) ({ cls := "ApartCostModel", name := "breaks", desc := "(I)Z" } : Jvm.MethodName)),
  (Jvm.Cond.code ({ cls := "ApartCostModel", name := "breaks", desc := "(I)Z" } : Jvm.MethodName) prog_7_method_15_code (2 : Nat) (Option.some Jvm.ClassFile.FieldType.boolean)),
  (Jvm.Cond.methodLink "ApartCostLaw" (53 : Nat) ({ cls := "ApartCostModel", name := "sure", desc := "(IJJ)Z" } : Jvm.MethodName)),
  (Jvm.Cond.instanceMethod ({ cls := "ApartCostModel", name := "sure", desc := "(IJJ)Z" } : Jvm.MethodName)),
  (Jvm.Cond.selects "ApartCostModel" ({ cls := "ApartCostModel", name := "sure", desc := "(IJJ)Z" } : Jvm.MethodName) ({ cls := "ApartCostModel", name := "sure", desc := "(IJJ)Z" } : Jvm.MethodName)),
  (Jvm.Cond.code ({ cls := "ApartCostModel", name := "sure", desc := "(IJJ)Z" } : Jvm.MethodName) prog_7_method_16_code (6 : Nat) (Option.some Jvm.ClassFile.FieldType.boolean)),
  (Jvm.Cond.constantLong "ApartCostModel" (119 : Nat) (12 : Int64)),
  (Jvm.Cond.methodLink "ApartCostLaw" (58 : Nat) ({ cls := "ApartCostModel", name := "states", desc := "()J" } : Jvm.MethodName)),
  (Jvm.Cond.instanceMethod ({ cls := "ApartCostModel", name := "states", desc := "()J" } : Jvm.MethodName)),
  (Jvm.Cond.selects "ApartCostModel" ({ cls := "ApartCostModel", name := "states", desc := "()J" } : Jvm.MethodName) ({ cls := "ApartCostModel", name := "states", desc := "()J" } : Jvm.MethodName)),
  (Jvm.Cond.code ({ cls := "ApartCostModel", name := "states", desc := "()J" } : Jvm.MethodName) prog_7_method_19_code (7 : Nat) (Option.some Jvm.ClassFile.FieldType.long)),
  (Jvm.Cond.methodLink "ApartCostModel" (124 : Nat) ({ cls := "ApartCostModel", name := "isClosed", desc := "(I)Z" } : Jvm.MethodName)),
  (Jvm.Cond.instanceMethod ({ cls := "ApartCostModel", name := "isClosed", desc := "(I)Z" } : Jvm.MethodName)),
  (Jvm.Cond.code ({ cls := "ApartCostModel", name := "isClosed", desc := "(I)Z" } : Jvm.MethodName) prog_7_method_18_code (5 : Nat) (Option.some Jvm.ClassFile.FieldType.boolean)),
  (Jvm.Cond.methodLink "ApartCostModel" (121 : Nat) ({ cls := "ApartCostModel", name := "has", desc := "(II)Z" } : Jvm.MethodName)),
  (Jvm.Cond.static ({ cls := "ApartCostModel", name := "has", desc := "(II)Z" } : Jvm.MethodName)),
  (Jvm.Cond.code ({ cls := "ApartCostModel", name := "has", desc := "(II)Z" } : Jvm.MethodName) prog_7_method_17_code (2 : Nat) (Option.some Jvm.ClassFile.FieldType.boolean)),
  (Jvm.Cond.methodLink "ApartCostLaw" (63 : Nat) ({ cls := "ApartCostModel", name := "run", desc := "(J)I" } : Jvm.MethodName)),
  (Jvm.Cond.instanceMethod ({ cls := "ApartCostModel", name := "run", desc := "(J)I" } : Jvm.MethodName)),
  (Jvm.Cond.selects "ApartCostModel" ({ cls := "ApartCostModel", name := "run", desc := "(J)I" } : Jvm.MethodName) ({ cls := "ApartCostModel", name := "run", desc := "(J)I" } : Jvm.MethodName)),
  (Jvm.Cond.code ({ cls := "ApartCostModel", name := "run", desc := "(J)I" } : Jvm.MethodName) prog_7_method_28_code (8 : Nat) (Option.some Jvm.ClassFile.FieldType.int)),
  (Jvm.Cond.methodLink "ApartCostModel" (156 : Nat) ({ cls := "ApartCostModel", name := "states", desc := "()J" } : Jvm.MethodName)),
  (Jvm.Cond.methodLink "ApartCostModel" (160 : Nat) ({ cls := "ApartCostModel", name := "reckonValues", desc := "()V" } : Jvm.MethodName)),
  (Jvm.Cond.instanceMethod ({ cls := "ApartCostModel", name := "reckonValues", desc := "()V" } : Jvm.MethodName)),
  (Jvm.Cond.code ({ cls := "ApartCostModel", name := "reckonValues", desc := "()V" } : Jvm.MethodName) prog_7_method_25_code (3 : Nat) (Option.none : Option Jvm.ClassFile.FieldType)),
  (Jvm.Cond.methodLink "ApartCostModel" (140 : Nat) ({ cls := "ApartCostModel", name := "valueOf", desc := "(I)J" } : Jvm.MethodName)),
  (Jvm.Cond.instanceMethod ({ cls := "ApartCostModel", name := "valueOf", desc := "(I)J" } : Jvm.MethodName)),
  (Jvm.Cond.code ({ cls := "ApartCostModel", name := "valueOf", desc := "(I)J" } : Jvm.MethodName) prog_7_method_22_code (6 : Nat) (Option.some Jvm.ClassFile.FieldType.long)),
  (Jvm.Cond.methodLink "ApartCostModel" (132 : Nat) ({ cls := "ApartCostModel", name := "bringsOf", desc := "(II)J" } : Jvm.MethodName)),
  (Jvm.Cond.instanceMethod ({ cls := "ApartCostModel", name := "bringsOf", desc := "(II)J" } : Jvm.MethodName)),
  (Jvm.Cond.code ({ cls := "ApartCostModel", name := "bringsOf", desc := "(II)J" } : Jvm.MethodName) prog_7_method_20_code (7 : Nat) (Option.some Jvm.ClassFile.FieldType.long)),
  (Jvm.Cond.constantLong "ApartCostModel" (130 : Nat) (27720 : Int64)),
  (Jvm.Cond.methodLink "ApartCostModel" (136 : Nat) ({ cls := "ApartCostModel", name := "restOf", desc := "(I)I" } : Jvm.MethodName)),
  (Jvm.Cond.instanceMethod ({ cls := "ApartCostModel", name := "restOf", desc := "(I)I" } : Jvm.MethodName)),
  (Jvm.Cond.code ({ cls := "ApartCostModel", name := "restOf", desc := "(I)I" } : Jvm.MethodName) prog_7_method_21_code (4 : Nat) (Option.some Jvm.ClassFile.FieldType.int)),
  (Jvm.Cond.methodLink "ApartCostModel" (163 : Nat) ({ cls := "ApartCostModel", name := "bestFrom", desc := "(IIJ)J" } : Jvm.MethodName)),
  (Jvm.Cond.instanceMethod ({ cls := "ApartCostModel", name := "bestFrom", desc := "(IIJ)J" } : Jvm.MethodName)),
  (Jvm.Cond.code ({ cls := "ApartCostModel", name := "bestFrom", desc := "(IIJ)J" } : Jvm.MethodName) prog_7_method_26_code (11 : Nat) (Option.some Jvm.ClassFile.FieldType.long)),
  (Jvm.Cond.constantLong "ApartCostModel" (144 : Nat) (1000000000000000 : Int64)),
  (Jvm.Cond.methodLink "ApartCostModel" (146 : Nat) ({ cls := "ApartCostModel", name := "canDo", desc := "(II)Z" } : Jvm.MethodName)),
  (Jvm.Cond.instanceMethod ({ cls := "ApartCostModel", name := "canDo", desc := "(II)Z" } : Jvm.MethodName)),
  (Jvm.Cond.code ({ cls := "ApartCostModel", name := "canDo", desc := "(II)Z" } : Jvm.MethodName) prog_7_method_24_code (3 : Nat) (Option.some Jvm.ClassFile.FieldType.boolean)),
  (Jvm.Cond.methodLink "ApartCostModel" (149 : Nat) ({ cls := "ApartCostModel", name := "stepCost", desc := "(II)J" } : Jvm.MethodName)),
  (Jvm.Cond.instanceMethod ({ cls := "ApartCostModel", name := "stepCost", desc := "(II)J" } : Jvm.MethodName)),
  (Jvm.Cond.code ({ cls := "ApartCostModel", name := "stepCost", desc := "(II)J" } : Jvm.MethodName) prog_7_method_23_code (5 : Nat) (Option.some Jvm.ClassFile.FieldType.long)),
  (Jvm.Cond.methodLink "ApartCostModel" (152 : Nat) ({ cls := "ApartCostModel", name := "spread", desc := "(IIJ)V" } : Jvm.MethodName)),
  (Jvm.Cond.instanceMethod ({ cls := "ApartCostModel", name := "spread", desc := "(IIJ)V" } : Jvm.MethodName)),
  (Jvm.Cond.code ({ cls := "ApartCostModel", name := "spread", desc := "(IIJ)V" } : Jvm.MethodName) prog_7_method_27_code (9 : Nat) (Option.none : Option Jvm.ClassFile.FieldType)),
  (Jvm.Cond.methodLink "ApartCostLaw" (68 : Nat) ({ cls := "ApartCostModel", name := "step", desc := "(I)I" } : Jvm.MethodName)),
  (Jvm.Cond.instanceMethod ({ cls := "ApartCostModel", name := "step", desc := "(I)I" } : Jvm.MethodName)),
  (Jvm.Cond.selects "ApartCostModel" ({ cls := "ApartCostModel", name := "step", desc := "(I)I" } : Jvm.MethodName) ({ cls := "ApartCostModel", name := "step", desc := "(I)I" } : Jvm.MethodName)),
  (Jvm.Cond.code ({ cls := "ApartCostModel", name := "step", desc := "(I)I" } : Jvm.MethodName) prog_7_method_29_code (2 : Nat) (Option.some Jvm.ClassFile.FieldType.int)),
  (Jvm.Cond.methodLink "ApartCostLaw" (72 : Nat) ({ cls := "ApartCostModel", name := "stops", desc := "(I)I" } : Jvm.MethodName)),
  (Jvm.Cond.instanceMethod ({ cls := "ApartCostModel", name := "stops", desc := "(I)I" } : Jvm.MethodName)),
  (Jvm.Cond.selects "ApartCostModel" ({ cls := "ApartCostModel", name := "stops", desc := "(I)I" } : Jvm.MethodName) ({ cls := "ApartCostModel", name := "stops", desc := "(I)I" } : Jvm.MethodName)),
  (Jvm.Cond.code ({ cls := "ApartCostModel", name := "stops", desc := "(I)I" } : Jvm.MethodName) prog_7_method_30_code (4 : Nat) (Option.some Jvm.ClassFile.FieldType.int)),
  (Jvm.Cond.methodLink "ApartCostLaw" (76 : Nat) ({ cls := "ApartCostModel", name := "other", desc := "(I)I" } : Jvm.MethodName)),
  (Jvm.Cond.instanceMethod ({ cls := "ApartCostModel", name := "other", desc := "(I)I" } : Jvm.MethodName)),
  (Jvm.Cond.selects "ApartCostModel" ({ cls := "ApartCostModel", name := "other", desc := "(I)I" } : Jvm.MethodName) ({ cls := "ApartCostModel", name := "other", desc := "(I)I" } : Jvm.MethodName)),
  (Jvm.Cond.code ({ cls := "ApartCostModel", name := "other", desc := "(I)I" } : Jvm.MethodName) prog_7_method_32_code (4 : Nat) (Option.some Jvm.ClassFile.FieldType.int))]
def am_b10 : List Cond := [(Jvm.Cond.methodLink "ApartCostModel" (177 : Nat) ({ cls := "ApartCostModel", name := "isInRow", desc := "(I)Z" } : Jvm.MethodName)),
  (Jvm.Cond.instanceMethod ({ cls := "ApartCostModel", name := "isInRow", desc := "(I)Z" } : Jvm.MethodName)),
  (Jvm.Cond.code ({ cls := "ApartCostModel", name := "isInRow", desc := "(I)Z" } : Jvm.MethodName) prog_7_method_31_code (4 : Nat) (Option.some Jvm.ClassFile.FieldType.boolean)),
  (Jvm.Cond.methodLink "ApartCostLaw" (81 : Nat) ({ cls := "ApartCostModel", name := "gain", desc := "(I)J" } : Jvm.MethodName)),
  (Jvm.Cond.instanceMethod ({ cls := "ApartCostModel", name := "gain", desc := "(I)J" } : Jvm.MethodName)),
  (Jvm.Cond.selects "ApartCostModel" ({ cls := "ApartCostModel", name := "gain", desc := "(I)J" } : Jvm.MethodName) ({ cls := "ApartCostModel", name := "gain", desc := "(I)J" } : Jvm.MethodName)),
  (Jvm.Cond.code ({ cls := "ApartCostModel", name := "gain", desc := "(I)J" } : Jvm.MethodName) prog_7_method_33_code (2 : Nat) (Option.some Jvm.ClassFile.FieldType.long)),
  (Jvm.Cond.methodLink "ApartCostLaw" (86 : Nat) ({ cls := "ApartCostModel", name := "proved", desc := "()Z" } : Jvm.MethodName)),
  (Jvm.Cond.instanceMethod ({ cls := "ApartCostModel", name := "proved", desc := "()Z" } : Jvm.MethodName)),
  (Jvm.Cond.selects "ApartCostModel" ({ cls := "ApartCostModel", name := "proved", desc := "()Z" } : Jvm.MethodName) ({ cls := "ApartCostModel", name := "proved", desc := "()Z" } : Jvm.MethodName)),
  (Jvm.Cond.code ({ cls := "ApartCostModel", name := "proved", desc := "()Z" } : Jvm.MethodName) prog_7_method_34_code (1 : Nat) (Option.some Jvm.ClassFile.FieldType.boolean)),
  (Jvm.Cond.methodLink "ApartCostLaw" (90 : Nat) ({ cls := "ApartCostModel", name := "bound", desc := "()J" } : Jvm.MethodName)),
  (Jvm.Cond.instanceMethod ({ cls := "ApartCostModel", name := "bound", desc := "()J" } : Jvm.MethodName)),
  (Jvm.Cond.selects "ApartCostModel" ({ cls := "ApartCostModel", name := "bound", desc := "()J" } : Jvm.MethodName) ({ cls := "ApartCostModel", name := "bound", desc := "()J" } : Jvm.MethodName)),
  (Jvm.Cond.code ({ cls := "ApartCostModel", name := "bound", desc := "()J" } : Jvm.MethodName) prog_7_method_35_code (6 : Nat) (Option.some Jvm.ClassFile.FieldType.long)),
  (Jvm.Cond.methodLink "ApartCostLaw" (95 : Nat) ({ cls := "ApartCostModel", name := "test", desc := "(IJ)I" } : Jvm.MethodName)),
  (Jvm.Cond.instanceMethod ({ cls := "ApartCostModel", name := "test", desc := "(IJ)I" } : Jvm.MethodName)),
  (Jvm.Cond.selects "ApartCostModel" ({ cls := "ApartCostModel", name := "test", desc := "(IJ)I" } : Jvm.MethodName) ({ cls := "ApartCostModel", name := "test", desc := "(IJ)I" } : Jvm.MethodName)),
  (Jvm.Cond.code ({ cls := "ApartCostModel", name := "test", desc := "(IJ)I" } : Jvm.MethodName) prog_7_method_37_code (12 : Nat) (Option.some Jvm.ClassFile.FieldType.int)),
  (Jvm.Cond.methodLink "ApartCostModel" (180 : Nat) ({ cls := "ApartCostModel", name := "bestWith", desc := "(II)J" } : Jvm.MethodName)),
  (Jvm.Cond.instanceMethod ({ cls := "ApartCostModel", name := "bestWith", desc := "(II)J" } : Jvm.MethodName)),
  (Jvm.Cond.code ({ cls := "ApartCostModel", name := "bestWith", desc := "(II)J" } : Jvm.MethodName) prog_7_method_36_code (5 : Nat) (Option.some Jvm.ClassFile.FieldType.long)),
  (Jvm.Cond.methodLink "ApartCostLaw" (99 : Nat) ({ cls := "ApartCostModel", name := "stations", desc := "(I)I" } : Jvm.MethodName)),
  (Jvm.Cond.instanceMethod ({ cls := "ApartCostModel", name := "stations", desc := "(I)I" } : Jvm.MethodName)),
  (Jvm.Cond.selects "ApartCostModel" ({ cls := "ApartCostModel", name := "stations", desc := "(I)I" } : Jvm.MethodName) ({ cls := "ApartCostModel", name := "stations", desc := "(I)I" } : Jvm.MethodName)),
  (Jvm.Cond.code ({ cls := "ApartCostModel", name := "stations", desc := "(I)I" } : Jvm.MethodName) prog_7_method_41_code (8 : Nat) (Option.some Jvm.ClassFile.FieldType.int)),
  (Jvm.Cond.constantLong "ApartCostModel" (183 : Nat) (-1 : Int64)),
  (Jvm.Cond.methodLink "ApartCostModel" (185 : Nat) ({ cls := "ApartCostModel", name := "keeps", desc := "([I)Z" } : Jvm.MethodName)),
  (Jvm.Cond.instanceMethod ({ cls := "ApartCostModel", name := "keeps", desc := "([I)Z" } : Jvm.MethodName)),
  (Jvm.Cond.code ({ cls := "ApartCostModel", name := "keeps", desc := "([I)Z" } : Jvm.MethodName) prog_7_method_38_code (5 : Nat) (Option.some Jvm.ClassFile.FieldType.boolean)),
  (Jvm.Cond.methodLink "ApartCostModel" (189 : Nat) ({ cls := "ApartCostModel", name := "longestOf", desc := "([I)J" } : Jvm.MethodName)),
  (Jvm.Cond.instanceMethod ({ cls := "ApartCostModel", name := "longestOf", desc := "([I)J" } : Jvm.MethodName)),
  (Jvm.Cond.code ({ cls := "ApartCostModel", name := "longestOf", desc := "([I)J" } : Jvm.MethodName) prog_7_method_39_code (8 : Nat) (Option.some Jvm.ClassFile.FieldType.long)),
  (Jvm.Cond.methodLink "ApartCostModel" (193 : Nat) ({ cls := "ApartCostModel", name := "next", desc := "(I)Z" } : Jvm.MethodName)),
  (Jvm.Cond.instanceMethod ({ cls := "ApartCostModel", name := "next", desc := "(I)Z" } : Jvm.MethodName)),
  (Jvm.Cond.code ({ cls := "ApartCostModel", name := "next", desc := "(I)Z" } : Jvm.MethodName) prog_7_method_40_code (3 : Nat) (Option.some Jvm.ClassFile.FieldType.boolean)),
  (Jvm.Cond.methodLink "ApartCostLaw" (103 : Nat) ({ cls := "ApartCostModel", name := "station", desc := "(I)I" } : Jvm.MethodName)),
  (Jvm.Cond.instanceMethod ({ cls := "ApartCostModel", name := "station", desc := "(I)I" } : Jvm.MethodName)),
  (Jvm.Cond.selects "ApartCostModel" ({ cls := "ApartCostModel", name := "station", desc := "(I)I" } : Jvm.MethodName) ({ cls := "ApartCostModel", name := "station", desc := "(I)I" } : Jvm.MethodName)),
  (Jvm.Cond.code ({ cls := "ApartCostModel", name := "station", desc := "(I)I" } : Jvm.MethodName) prog_7_method_42_code (2 : Nat) (Option.some Jvm.ClassFile.FieldType.int)),
  (Jvm.Cond.constantLong "ApartCostLaw" (13 : Nat) (4294967295 : Int64))]
def am_big : List Cond := am_b0 ++ (am_b1 ++ (am_b2 ++ (am_b3 ++ (am_b4 ++ (am_b5 ++ (am_b6 ++ (am_b7 ++ (am_b8 ++ (am_b9 ++ (am_b10))))))))))
set_option maxRecDepth 20000 in
theorem am_g0 : GoodIn lw_tbl am_b0 := goodIn_r0 _ [0, 1, 2, 3, 4, 5, 6, 7, 8, 9, 10, 11, 12, 13, 14, 15, 16, 17, 18, 19, 20, 21, 22, 23, 24, 25, 26, 27, 28, 29, 30, 31, 32, 33, 34, 35, 36, 37, 38, 39, 40, 41, 42, 43, 44, 45, 46, 47, 48, 49, 50, 51, 52, 53, 54, 55, 56, 57, 58, 59] (by decide +kernel) (by decide +kernel)
set_option maxRecDepth 20000 in
theorem am_g1 : GoodIn lw_tbl am_b1 := goodIn_r0 _ [60, 61, 62, 63, 64, 65, 66, 67, 68, 69, 70, 71, 72, 73, 74, 75, 76, 77, 78, 79, 80, 81, 82, 83, 84, 86, 88, 90, 92, 94, 96, 98, 100, 102, 104, 106, 108, 110, 113, 114, 115, 116, 117, 118, 119, 120, 121, 122, 123, 124, 125, 126, 127, 129, 131, 133, 136, 137, 139, 140] (by decide +kernel) (by decide +kernel)
set_option maxRecDepth 20000 in
theorem am_g2 : GoodIn lw_tbl am_b2 := goodIn_r0 _ [141, 142, 143, 144, 145, 146, 147, 148, 149, 150, 151, 152, 153, 154, 155, 156, 157, 159, 161, 163, 165, 167, 169, 171, 174, 175, 176, 177, 178, 179, 180, 181, 182, 183, 184, 185, 186, 187, 188, 189, 190, 191, 192, 194, 196, 198, 200, 202, 204, 206, 209, 210, 211, 212, 213, 215, 217, 219, 222, 223] (by decide +kernel) (by decide +kernel)
set_option maxRecDepth 20000 in
theorem am_g3 : GoodIn lw_tbl am_b3 := goodIn_r0 _ [224, 225, 226, 227, 228, 229, 230, 231, 232, 233, 234, 235, 236, 237, 238, 239, 240, 241, 242, 243, 244, 245, 246, 247, 248, 249, 250, 251, 252, 253, 254, 256, 257, 258, 259, 260, 261, 262, 263, 264, 265, 266, 267, 268, 269, 270, 271, 272, 273, 274, 275, 276, 277, 278, 279, 280, 281, 282, 283, 284] (by decide +kernel) (by decide +kernel)
set_option maxRecDepth 20000 in
theorem am_g4 : GoodIn lw_tbl am_b4 := goodIn_r0 _ [286, 287, 288, 289, 290, 291, 292, 293, 294, 295, 296, 297, 298, 299, 300, 301, 302, 303, 304, 305, 306, 307, 308, 309, 310, 311, 312, 313, 314, 316, 317, 318, 319, 320, 321, 322, 323, 324, 325, 326, 327, 328, 329, 330, 331, 332, 333, 334, 335, 336, 337, 338, 339, 340, 342, 343, 344, 345, 346, 347] (by decide +kernel) (by decide +kernel)
set_option maxRecDepth 20000 in
theorem am_g5 : GoodIn lw_tbl am_b5 := goodIn_r0 _ [348, 349, 350, 351, 352, 353, 355, 356, 357, 358, 359, 360, 361, 362, 364, 365, 366, 367, 368, 369, 370, 371, 372, 373, 374, 375, 376, 377, 378, 380, 382, 383, 384, 386, 387, 388, 389, 390, 391, 392, 393, 394, 395, 396, 397, 398, 399, 401, 402, 403, 404, 406, 407, 408, 409, 410, 411, 412, 413, 414] (by decide +kernel) (by decide +kernel)
set_option maxRecDepth 20000 in
theorem am_g6 : GoodIn lw_tbl am_b6 := goodIn_r0 _ [415, 416, 417, 418, 419, 420, 421, 422, 423, 424, 425, 426, 427, 428, 429, 430, 431, 432, 433, 434, 435, 436, 437, 438, 439, 440, 441, 442, 443, 444, 445, 446, 447, 448, 449, 450, 451, 452, 454, 455, 457, 458, 459, 460, 461, 462, 464, 465, 466, 468, 469, 470, 471, 472, 473, 475, 476, 477, 478, 479] (by decide +kernel) (by decide +kernel)
set_option maxRecDepth 20000 in
theorem am_g7 : GoodIn lw_tbl am_b7 := goodIn_r0 _ [480, 481, 482, 483, 484, 485, 486, 487, 488, 489, 490, 491, 492, 493, 494, 495, 496, 497, 498, 499, 500, 501, 502, 503, 504, 505, 506, 507, 508, 509, 510, 511, 512, 513, 514, 515, 516, 517, 518, 519, 520, 521, 523, 525, 527, 529, 531, 533, 535, 537, 539, 541, 543, 545, 547, 549, 551, 553, 555, 557] (by decide +kernel) (by decide +kernel)
set_option maxRecDepth 20000 in
theorem am_g8 : GoodIn lw_tbl am_b8 := goodIn_r0 _ [559, 561, 563, 565, 567, 569, 571, 573, 575, 577, 579, 581, 584, 585, 586, 587, 588, 589, 590, 591, 592, 593, 594, 595, 596, 597, 598, 599, 600, 602, 603, 604, 606, 607, 608, 609, 610, 611, 612, 613, 614, 615, 616, 617, 618, 619, 620, 621, 622, 623, 624, 625, 626, 627, 628, 629, 630, 631, 632, 633] (by decide +kernel) (by decide +kernel)
set_option maxRecDepth 20000 in
theorem am_g9 : GoodIn lw_tbl am_b9 := goodIn_r0 _ [634, 635, 636, 637, 638, 639, 640, 641, 642, 643, 644, 645, 647, 648, 649, 650, 651, 652, 653, 654, 655, 656, 657, 659, 660, 661, 663, 664, 665, 667, 668, 669, 670, 672, 673, 674, 676, 677, 678, 679, 681, 682, 683, 685, 686, 687, 689, 690, 691, 692, 693, 694, 695, 696, 697, 698, 699, 700, 701, 702] (by decide +kernel) (by decide +kernel)
set_option maxRecDepth 20000 in
theorem am_g10 : GoodIn lw_tbl am_b10 := goodIn_r0 _ [703, 705, 706, 707, 708, 709, 710, 711, 712, 713, 714, 715, 716, 717, 718, 719, 720, 721, 722, 723, 725, 726, 727, 728, 729, 730, 731, 732, 734, 735, 736, 738, 739, 740, 742, 743, 744, 745, 746, 747, 748] (by decide +kernel) (by decide +kernel)
theorem am_big_good : GoodIn lw_tbl am_big := goodIn_app0 am_g0 (goodIn_app0 am_g1 (goodIn_app0 am_g2 (goodIn_app0 am_g3 (goodIn_app0 am_g4 (goodIn_app0 am_g5 (goodIn_app0 am_g6 (goodIn_app0 am_g7 (goodIn_app0 am_g8 (goodIn_app0 am_g9 (am_g10))))))))))
set_option maxRecDepth 20000 in
theorem am_inX0 : ∀ w ∈ u_ws RX0 TX0 4, w ∈ am_big := by decide +kernel
set_option maxRecDepth 20000 in
theorem am_inX1 : ∀ w ∈ u_ws RX1 TX1 14, w ∈ am_big := by decide +kernel
set_option maxRecDepth 20000 in
theorem am_inX2 : ∀ w ∈ u_ws RX2 TX2 4, w ∈ am_big := by decide +kernel
set_option maxRecDepth 20000 in
theorem am_inX3 : ∀ w ∈ u_ws RX3 TX3 8, w ∈ am_big := by decide +kernel
set_option maxRecDepth 20000 in
theorem am_inX4 : ∀ w ∈ u_ws RX4 TX4 8, w ∈ am_big := by decide +kernel
set_option maxRecDepth 20000 in
theorem am_inX5 : ∀ w ∈ u_ws RX5 TX5 31, w ∈ am_big := by decide +kernel
theorem am_in (k : Nat) {w : Cond} (h : am_big[k]? = some w) : w ∈ am_big := List.mem_of_getElem? h
theorem am_ht {c : Cond} {args : Array Value} {s : State} (hts : ∀ w ∈ (c :: am_big), w.before args s = true) : ∀ (k : Nat) (w : Cond), am_big[k]? = some w → w.before args s = true := fun _ w h => hts w (List.mem_cons_of_mem _ (List.mem_of_getElem? h))
theorem am_gN {c : Cond} {y : MethodName} {b : ByteArray} {mL : Nat} {ret : Option FieldType} (h : Cond.code y b mL ret ∈ am_big) : GoodIn (c :: am_big) (Cond.code y b mL ret :: am_big) := fun w hw => by
  rcases List.mem_cons.mp hw with rfl | hw
  · exact ⟨List.mem_cons_of_mem _ h, (am_big_good _ h).2⟩
  · exact ⟨List.mem_cons_of_mem _ hw, (am_big_good _ hw).2⟩
theorem am_gS {c : Cond} {own : String} {idx : Nat} {y : MethodName} {b : ByteArray} {mL : Nat} {ret : Option FieldType} (h1 : Cond.methodLink own idx y ∈ am_big) (h2 : Cond.static y ∈ am_big) (h3 : Cond.initialized y.cls ∈ am_big) (h : Cond.code y b mL ret ∈ am_big) : GoodIn (c :: am_big) (va_wsS own idx y (Cond.code y b mL ret :: am_big)) := fun w hw => by
  unfold va_wsS at hw
  rcases List.mem_append.mp hw with hw | hw
  · have hb : w ∈ am_big := by
      simp only [List.mem_cons, List.not_mem_nil, or_false] at hw
      rcases hw with rfl | rfl | rfl <;> assumption
    exact ⟨List.mem_cons_of_mem _ hb, (am_big_good _ hb).2⟩
  · exact am_gN h w hw
theorem am_gV {c : Cond} {own C : String} {idx : Nat} {y : MethodName} {b : ByteArray} {mL : Nat} {ret : Option FieldType} (h1 : Cond.methodLink own idx y ∈ am_big) (h2 : Cond.instanceMethod y ∈ am_big) (h3 : Cond.selects C y y ∈ am_big) (h4 : Cond.initialized C ∈ am_big) (h : Cond.code y b mL ret ∈ am_big) : GoodIn (c :: am_big) (wsV own idx C y (Cond.code y b mL ret :: am_big)) := fun w hw => by
  unfold wsV at hw
  rcases List.mem_append.mp hw with hw | hw
  · have hb : w ∈ am_big := by
      simp only [List.mem_cons, List.not_mem_nil, or_false] at hw
      rcases hw with rfl | rfl | rfl | rfl <;> assumption
    exact ⟨List.mem_cons_of_mem _ hb, (am_big_good _ hb).2⟩
  · exact am_gN h w hw
def nwL : List (String × Nat × MethodName × String) := [("ApartCost", 27, ⟨"ApartCost$Found", "<init>", "()V"⟩, "ApartCost"), ("ApartCost$Product", 58, ⟨"ApartCost", "has", "(II)Z"⟩, "ApartCost"), ("ApartCost$Planner", 60, ⟨"ApartCost", "has", "(II)Z"⟩, "ApartCost"), ("ApartCost$Found", 59, ⟨"ApartCost", "has", "(II)Z"⟩, "ApartCost"), ("ApartCost$Line", 58, ⟨"ApartCost", "has", "(II)Z"⟩, "ApartCost")]
abbrev cX0_init : ByteArray := prog_1_method_1_code
def yX0_init : MethodName := ⟨"ApartCost", "<init>", "()V"⟩
abbrev wsX0_init : List Cond := .code yX0_init cX0_init 1 none :: am_big
abbrev cX1_init : ByteArray := prog_5_method_1_code
def yX1_init : MethodName := ⟨"ApartCost$Product", "<init>", "()V"⟩
abbrev wsX1_init : List Cond := .code yX1_init cX1_init 1 none :: am_big
abbrev cJA_fillJ : ByteArray := prog_10_method_101_code
def yJA_fillJ : MethodName := ⟨"java/util/Arrays", "fill", "([JJ)V"⟩
abbrev wsJA_fillJ : List Cond := .code yJA_fillJ cJA_fillJ 5 none :: am_big
abbrev cX2_init : ByteArray := prog_4_method_1_code
def yX2_init : MethodName := ⟨"ApartCost$Planner", "<init>", "(LApartCost$Product;)V"⟩
abbrev wsX2_init : List Cond := .code yX2_init cX2_init 2 none :: am_big
abbrev cX3_init : ByteArray := prog_2_method_1_code
def yX3_init : MethodName := ⟨"ApartCost$Found", "<init>", "()V"⟩
abbrev wsX3_init : List Cond := .code yX3_init cX3_init 1 none :: am_big
abbrev cX4_init : ByteArray := prog_3_method_1_code
def yX4_init : MethodName := ⟨"ApartCost$Line", "<init>", "(LApartCost$Product;)V"⟩
abbrev wsX4_init : List Cond := .code yX4_init cX4_init 2 none :: am_big
abbrev cJA_fillI : ByteArray := prog_10_method_103_code
def yJA_fillI : MethodName := ⟨"java/util/Arrays", "fill", "([II)V"⟩
abbrev wsJA_fillI : List Cond := .code yJA_fillI cJA_fillI 4 none :: am_big
abbrev cX0_act : ByteArray := prog_1_method_2_code
def yX0_act : MethodName := ⟨"ApartCost", "act", "(IIIJ)I"⟩
abbrev wsX0_act : List Cond := .code yX0_act cX0_act 7 (some .int) :: am_big
abbrev cX0_isPart : ByteArray := prog_1_method_21_code
def yX0_isPart : MethodName := ⟨"ApartCost", "isPart", "(I)Z"⟩
abbrev wsX0_isPart : List Cond := .code yX0_isPart cX0_isPart 1 (some .boolean) :: am_big
abbrev cX0_isKind : ByteArray := prog_1_method_22_code
def yX0_isKind : MethodName := ⟨"ApartCost", "isKind", "(I)Z"⟩
abbrev wsX0_isKind : List Cond := .code yX0_isKind cX0_isKind 1 (some .boolean) :: am_big
abbrev cX0_isPrice : ByteArray := prog_1_method_24_code
def yX0_isPrice : MethodName := ⟨"ApartCost", "isPrice", "(J)Z"⟩
abbrev wsX0_isPrice : List Cond := .code yX0_isPrice cX0_isPrice 2 (some .boolean) :: am_big
abbrev cX1_addAct : ByteArray := prog_5_method_4_code
def yX1_addAct : MethodName := ⟨"ApartCost$Product", "addAct", "(IIIJ)I"⟩
abbrev wsX1_addAct : List Cond := .code yX1_addAct cX1_addAct 7 (some .int) :: am_big
abbrev cX0_before : ByteArray := prog_1_method_3_code
def yX0_before : MethodName := ⟨"ApartCost", "before", "(II)Z"⟩
abbrev wsX0_before : List Cond := .code yX0_before cX0_before 3 (some .boolean) :: am_big
abbrev cX1_hasAct : ByteArray := prog_5_method_2_code
def yX1_hasAct : MethodName := ⟨"ApartCost$Product", "hasAct", "(I)Z"⟩
abbrev wsX1_hasAct : List Cond := .code yX1_hasAct cX1_hasAct 2 (some .boolean) :: am_big
abbrev cX0_has : ByteArray := prog_1_method_26_code
def yX0_has : MethodName := ⟨"ApartCost", "has", "(II)Z"⟩
abbrev wsX0_has : List Cond := .code yX0_has cX0_has 2 (some .boolean) :: am_big
abbrev cX1_addNeed : ByteArray := prog_5_method_5_code
def yX1_addNeed : MethodName := ⟨"ApartCost$Product", "addNeed", "(II)V"⟩
abbrev wsX1_addNeed : List Cond := .code yX1_addNeed cX1_addNeed 5 none :: am_big
abbrev cX0_change : ByteArray := prog_1_method_4_code
def yX0_change : MethodName := ⟨"ApartCost", "change", "(IIJ)Z"⟩
abbrev wsX0_change : List Cond := .code yX0_change cX0_change 5 (some .boolean) :: am_big
abbrev cX0_isMove : ByteArray := prog_1_method_23_code
def yX0_isMove : MethodName := ⟨"ApartCost", "isMove", "(II)Z"⟩
abbrev wsX0_isMove : List Cond := .code yX0_isMove cX0_isMove 2 (some .boolean) :: am_big
abbrev cX0_turn : ByteArray := prog_1_method_5_code
def yX0_turn : MethodName := ⟨"ApartCost", "turn", "(IIJ)Z"⟩
abbrev wsX0_turn : List Cond := .code yX0_turn cX0_turn 5 (some .boolean) :: am_big
abbrev cX0_worth : ByteArray := prog_1_method_6_code
def yX0_worth : MethodName := ⟨"ApartCost", "worth", "(IJ)Z"⟩
abbrev wsX0_worth : List Cond := .code yX0_worth cX0_worth 4 (some .boolean) :: am_big
abbrev cX0_isWorth : ByteArray := prog_1_method_25_code
def yX0_isWorth : MethodName := ⟨"ApartCost", "isWorth", "(J)Z"⟩
abbrev wsX0_isWorth : List Cond := .code yX0_isWorth cX0_isWorth 2 (some .boolean) :: am_big
abbrev cX0_rest : ByteArray := prog_1_method_7_code
def yX0_rest : MethodName := ⟨"ApartCost", "rest", "(JJ)Z"⟩
abbrev wsX0_rest : List Cond := .code yX0_rest cX0_rest 5 (some .boolean) :: am_big
abbrev cX1_tellRest : ByteArray := prog_5_method_6_code
def yX1_tellRest : MethodName := ⟨"ApartCost$Product", "tellRest", "(IJ)Z"⟩
abbrev wsX1_tellRest : List Cond := .code yX1_tellRest cX1_tellRest 5 (some .boolean) :: am_big
abbrev cX1_placeOfRest : ByteArray := prog_5_method_7_code
def yX1_placeOfRest : MethodName := ⟨"ApartCost$Product", "placeOfRest", "(I)I"⟩
abbrev wsX1_placeOfRest : List Cond := .code yX1_placeOfRest cX1_placeOfRest 3 (some .int) :: am_big
abbrev cX0_breaks : ByteArray := prog_1_method_8_code
def yX0_breaks : MethodName := ⟨"ApartCost", "breaks", "(I)Z"⟩
abbrev wsX0_breaks : List Cond := .code yX0_breaks cX0_breaks 2 (some .boolean) :: am_big
abbrev cX0_sure : ByteArray := prog_1_method_9_code
def yX0_sure : MethodName := ⟨"ApartCost", "sure", "(IJJ)Z"⟩
abbrev wsX0_sure : List Cond := .code yX0_sure cX0_sure 6 (some .boolean) :: am_big
abbrev cX0_states : ByteArray := prog_1_method_10_code
def yX0_states : MethodName := ⟨"ApartCost", "states", "()J"⟩
abbrev wsX0_states : List Cond := .code yX0_states cX0_states 1 (some .long) :: am_big
abbrev cX1_countStates : ByteArray := prog_5_method_16_code
def yX1_countStates : MethodName := ⟨"ApartCost$Product", "countStates", "()J"⟩
abbrev wsX1_countStates : List Cond := .code yX1_countStates cX1_countStates 4 (some .long) :: am_big
abbrev cX1_allActs : ByteArray := prog_5_method_3_code
def yX1_allActs : MethodName := ⟨"ApartCost$Product", "allActs", "()I"⟩
abbrev wsX1_allActs : List Cond := .code yX1_allActs cX1_allActs 1 (some .int) :: am_big
abbrev cX1_lastsOf : ByteArray := prog_5_method_14_code
def yX1_lastsOf : MethodName := ⟨"ApartCost$Product", "lastsOf", "(I)I"⟩
abbrev wsX1_lastsOf : List Cond := .code yX1_lastsOf cX1_lastsOf 3 (some .int) :: am_big
abbrev cX1_neededBy : ByteArray := prog_5_method_13_code
def yX1_neededBy : MethodName := ⟨"ApartCost$Product", "neededBy", "(I)I"⟩
abbrev wsX1_neededBy : List Cond := .code yX1_neededBy cX1_neededBy 4 (some .int) :: am_big
abbrev cJI_bitCount : ByteArray := prog_8_method_49_code
def yJI_bitCount : MethodName := ⟨"java/lang/Integer", "bitCount", "(I)I"⟩
abbrev wsJI_bitCount : List Cond := .code yJI_bitCount cJI_bitCount 1 (some .int) :: am_big
abbrev cX0_run : ByteArray := prog_1_method_11_code
def yX0_run : MethodName := ⟨"ApartCost", "run", "(J)I"⟩
abbrev wsX0_run : List Cond := .code yX0_run cX0_run 3 (some .int) :: am_big
abbrev cX2_valueAsTold : ByteArray := prog_4_method_2_code
def yX2_valueAsTold : MethodName := ⟨"ApartCost$Planner", "valueAsTold", "()V"⟩
abbrev wsX2_valueAsTold : List Cond := .code yX2_valueAsTold cX2_valueAsTold 2 none :: am_big
abbrev cX1_valueOf : ByteArray := prog_5_method_9_code
def yX1_valueOf : MethodName := ⟨"ApartCost$Product", "valueOf", "(I)J"⟩
abbrev wsX1_valueOf : List Cond := .code yX1_valueOf cX1_valueOf 2 (some .long) :: am_big
abbrev cX2_greatestGain : ByteArray := prog_4_method_4_code
def yX2_greatestGain : MethodName := ⟨"ApartCost$Planner", "greatestGain", "()J"⟩
abbrev wsX2_greatestGain : List Cond := .code yX2_greatestGain cX2_greatestGain 2 (some .long) :: am_big
abbrev cX2_setSteps : ByteArray := prog_4_method_6_code
def yX2_setSteps : MethodName := ⟨"ApartCost$Planner", "setSteps", "()V"⟩
abbrev wsX2_setSteps : List Cond := .code yX2_setSteps cX2_setSteps 3 none :: am_big
abbrev cX2_stepPlace : ByteArray := prog_4_method_7_code
def yX2_stepPlace : MethodName := ⟨"ApartCost$Planner", "stepPlace", "(II)I"⟩
abbrev wsX2_stepPlace : List Cond := .code yX2_stepPlace cX2_stepPlace 2 (some .int) :: am_big
abbrev cX1_centsOfStep : ByteArray := prog_5_method_12_code
def yX1_centsOfStep : MethodName := ⟨"ApartCost$Product", "centsOfStep", "(II)J"⟩
abbrev wsX1_centsOfStep : List Cond := .code yX1_centsOfStep cX1_centsOfStep 7 (some .long) :: am_big
abbrev cX2_setMost : ByteArray := prog_4_method_8_code
def yX2_setMost : MethodName := ⟨"ApartCost$Planner", "setMost", "(I)V"⟩
abbrev wsX2_setMost : List Cond := .code yX2_setMost cX2_setMost 7 none :: am_big
abbrev cX1_nextsOf : ByteArray := prog_5_method_15_code
def yX1_nextsOf : MethodName := ⟨"ApartCost$Product", "nextsOf", "(I)I"⟩
abbrev wsX1_nextsOf : List Cond := .code yX1_nextsOf cX1_nextsOf 4 (some .int) :: am_big
abbrev cX2_endOf : ByteArray := prog_4_method_11_code
def yX2_endOf : MethodName := ⟨"ApartCost$Planner", "endOf", "(I)J"⟩
abbrev wsX2_endOf : List Cond := .code yX2_endOf cX2_endOf 6 (some .long) :: am_big
abbrev cX1_wholeBy : ByteArray := prog_5_method_11_code
def yX1_wholeBy : MethodName := ⟨"ApartCost$Product", "wholeBy", "(I)I"⟩
abbrev wsX1_wholeBy : List Cond := .code yX1_wholeBy cX1_wholeBy 2 (some .int) :: am_big
abbrev cX1_freedBy : ByteArray := prog_5_method_10_code
def yX1_freedBy : MethodName := ⟨"ApartCost$Product", "freedBy", "(I)I"⟩
abbrev wsX1_freedBy : List Cond := .code yX1_freedBy cX1_freedBy 4 (some .int) :: am_big
abbrev cX1_restWorth : ByteArray := prog_5_method_8_code
def yX1_restWorth : MethodName := ⟨"ApartCost$Product", "restWorth", "(I)J"⟩
abbrev wsX1_restWorth : List Cond := .code yX1_restWorth cX1_restWorth 3 (some .long) :: am_big
abbrev cX2_mostFrom : ByteArray := prog_4_method_9_code
def yX2_mostFrom : MethodName := ⟨"ApartCost$Planner", "mostFrom", "(IIIJ)J"⟩
abbrev wsX2_mostFrom : List Cond := .code yX2_mostFrom cX2_mostFrom 9 (some .long) :: am_big
abbrev cX2_mostBy : ByteArray := prog_4_method_10_code
def yX2_mostBy : MethodName := ⟨"ApartCost$Planner", "mostBy", "(III)J"⟩
abbrev wsX2_mostBy : List Cond := .code yX2_mostBy cX2_mostBy 4 (some .long) :: am_big
abbrev cJM_maxL : ByteArray := prog_9_method_66_code
def yJM_maxL : MethodName := ⟨"java/lang/Math", "max", "(JJ)J"⟩
abbrev wsJM_maxL : List Cond := .code yJM_maxL cJM_maxL 4 (some .long) :: am_big
abbrev cX3_keepRow : ByteArray := prog_2_method_2_code
def yX3_keepRow : MethodName := ⟨"ApartCost$Found", "keepRow", "(LApartCost$Planner;)V"⟩
abbrev wsX3_keepRow : List Cond := .code yX3_keepRow cX3_keepRow 3 none :: am_big
abbrev cX2_bestNext : ByteArray := prog_4_method_5_code
def yX2_bestNext : MethodName := ⟨"ApartCost$Planner", "bestNext", "(II)I"⟩
abbrev wsX2_bestNext : List Cond := .code yX2_bestNext cX2_bestNext 9 (some .int) :: am_big
abbrev cX3_keepParts : ByteArray := prog_2_method_3_code
def yX3_keepParts : MethodName := ⟨"ApartCost$Found", "keepParts", "(LApartCost$Planner;)V"⟩
abbrev wsX3_keepParts : List Cond := .code yX3_keepParts cX3_keepParts 4 none :: am_big
abbrev cX0_step : ByteArray := prog_1_method_12_code
def yX0_step : MethodName := ⟨"ApartCost", "step", "(I)I"⟩
abbrev wsX0_step : List Cond := .code yX0_step cX0_step 2 (some .int) :: am_big
abbrev cX0_stops : ByteArray := prog_1_method_13_code
def yX0_stops : MethodName := ⟨"ApartCost", "stops", "(I)I"⟩
abbrev wsX0_stops : List Cond := .code yX0_stops cX0_stops 2 (some .int) :: am_big
abbrev cX0_member : ByteArray := prog_1_method_27_code
def yX0_member : MethodName := ⟨"ApartCost", "member", "(II)I"⟩
abbrev wsX0_member : List Cond := .code yX0_member cX0_member 4 (some .int) :: am_big
abbrev cX0_other : ByteArray := prog_1_method_14_code
def yX0_other : MethodName := ⟨"ApartCost", "other", "(I)I"⟩
abbrev wsX0_other : List Cond := .code yX0_other cX0_other 2 (some .int) :: am_big
abbrev cX0_gain : ByteArray := prog_1_method_15_code
def yX0_gain : MethodName := ⟨"ApartCost", "gain", "(I)J"⟩
abbrev wsX0_gain : List Cond := .code yX0_gain cX0_gain 2 (some .long) :: am_big
abbrev cX0_proved : ByteArray := prog_1_method_16_code
def yX0_proved : MethodName := ⟨"ApartCost", "proved", "()Z"⟩
abbrev wsX0_proved : List Cond := .code yX0_proved cX0_proved 1 (some .boolean) :: am_big
abbrev cX0_bound : ByteArray := prog_1_method_17_code
def yX0_bound : MethodName := ⟨"ApartCost", "bound", "()J"⟩
abbrev wsX0_bound : List Cond := .code yX0_bound cX0_bound 4 (some .long) :: am_big
abbrev cX0_test : ByteArray := prog_1_method_18_code
def yX0_test : MethodName := ⟨"ApartCost", "test", "(IJ)I"⟩
abbrev wsX0_test : List Cond := .code yX0_test cX0_test 14 (some .int) :: am_big
abbrev cX2_valueByShare : ByteArray := prog_4_method_3_code
def yX2_valueByShare : MethodName := ⟨"ApartCost$Planner", "valueByShare", "(IJ)V"⟩
abbrev wsX2_valueByShare : List Cond := .code yX2_valueByShare cX2_valueByShare 4 none :: am_big
abbrev cX0_stations : ByteArray := prog_1_method_19_code
def yX0_stations : MethodName := ⟨"ApartCost", "stations", "(I)I"⟩
abbrev wsX0_stations : List Cond := .code yX0_stations cX0_stations 2 (some .int) :: am_big
abbrev cX4_shareOut : ByteArray := prog_3_method_2_code
def yX4_shareOut : MethodName := ⟨"ApartCost$Line", "shareOut", "(II)J"⟩
abbrev wsX4_shareOut : List Cond := .code yX4_shareOut cX4_shareOut 3 (some .long) :: am_big
abbrev cX4_setLimits : ByteArray := prog_3_method_3_code
def yX4_setLimits : MethodName := ⟨"ApartCost$Line", "setLimits", "()V"⟩
abbrev wsX4_setLimits : List Cond := .code yX4_setLimits cX4_setLimits 6 none :: am_big
abbrev cX4_tryFrom : ByteArray := prog_3_method_4_code
def yX4_tryFrom : MethodName := ⟨"ApartCost$Line", "tryFrom", "(LApartCost$Line;IJ)V"⟩
abbrev wsX4_tryFrom : List Cond := .code yX4_tryFrom cX4_tryFrom 10 none :: am_big
abbrev cX4_keepTrial : ByteArray := prog_3_method_5_code
def yX4_keepTrial : MethodName := ⟨"ApartCost$Line", "keepTrial", "(J)V"⟩
abbrev wsX4_keepTrial : List Cond := .code yX4_keepTrial cX4_keepTrial 4 none :: am_big
abbrev cX4_latestFor : ByteArray := prog_3_method_7_code
def yX4_latestFor : MethodName := ⟨"ApartCost$Line", "latestFor", "(I)I"⟩
abbrev wsX4_latestFor : List Cond := .code yX4_latestFor cX4_latestFor 4 (some .int) :: am_big
abbrev cJM_min : ByteArray := prog_9_method_69_code
def yJM_min : MethodName := ⟨"java/lang/Math", "min", "(II)I"⟩
abbrev wsJM_min : List Cond := .code yJM_min cJM_min 2 (some .int) :: am_big
abbrev cX4_earliestFor : ByteArray := prog_3_method_6_code
def yX4_earliestFor : MethodName := ⟨"ApartCost$Line", "earliestFor", "(I)I"⟩
abbrev wsX4_earliestFor : List Cond := .code yX4_earliestFor cX4_earliestFor 4 (some .int) :: am_big
abbrev cJM_max : ByteArray := prog_9_method_65_code
def yJM_max : MethodName := ⟨"java/lang/Math", "max", "(II)I"⟩
abbrev wsJM_max : List Cond := .code yJM_max cJM_max 2 (some .int) :: am_big
abbrev cX0_station : ByteArray := prog_1_method_20_code
def yX0_station : MethodName := ⟨"ApartCost", "station", "(I)I"⟩
abbrev wsX0_station : List Cond := .code yX0_station cX0_station 2 (some .int) :: am_big
abbrev cX5_init : ByteArray := prog_7_method_1_code
def yX5_init : MethodName := ⟨"ApartCostModel", "<init>", "()V"⟩
abbrev wsX5_init : List Cond := .code yX5_init cX5_init 2 none :: am_big
abbrev cX5_act : ByteArray := prog_7_method_8_code
def yX5_act : MethodName := ⟨"ApartCostModel", "act", "(IIIJ)I"⟩
abbrev wsX5_act : List Cond := .code yX5_act cX5_act 6 (some .int) :: am_big
abbrev cX5_isKind : ByteArray := prog_7_method_5_code
def yX5_isKind : MethodName := ⟨"ApartCostModel", "isKind", "(I)Z"⟩
abbrev wsX5_isKind : List Cond := .code yX5_isKind cX5_isKind 1 (some .boolean) :: am_big
abbrev cX5_isCents : ByteArray := prog_7_method_3_code
def yX5_isCents : MethodName := ⟨"ApartCostModel", "isCents", "(J)Z"⟩
abbrev wsX5_isCents : List Cond := .code yX5_isCents cX5_isCents 2 (some .boolean) :: am_big
abbrev cX5_before : ByteArray := prog_7_method_10_code
def yX5_before : MethodName := ⟨"ApartCostModel", "before", "(II)Z"⟩
abbrev wsX5_before : List Cond := .code yX5_before cX5_before 3 (some .boolean) :: am_big
abbrev cX5_isAct : ByteArray := prog_7_method_7_code
def yX5_isAct : MethodName := ⟨"ApartCostModel", "isAct", "(I)Z"⟩
abbrev wsX5_isAct : List Cond := .code yX5_isAct cX5_isAct 2 (some .boolean) :: am_big
abbrev cX5_leadsTo : ByteArray := prog_7_method_9_code
def yX5_leadsTo : MethodName := ⟨"ApartCostModel", "leadsTo", "(II)Z"⟩
abbrev wsX5_leadsTo : List Cond := .code yX5_leadsTo cX5_leadsTo 7 (some .boolean) :: am_big
abbrev cX5_change : ByteArray := prog_7_method_11_code
def yX5_change : MethodName := ⟨"ApartCostModel", "change", "(IIJ)Z"⟩
abbrev wsX5_change : List Cond := .code yX5_change cX5_change 5 (some .boolean) :: am_big
abbrev cX5_turn : ByteArray := prog_7_method_12_code
def yX5_turn : MethodName := ⟨"ApartCostModel", "turn", "(IIJ)Z"⟩
abbrev wsX5_turn : List Cond := .code yX5_turn cX5_turn 5 (some .boolean) :: am_big
abbrev cX5_worth : ByteArray := prog_7_method_13_code
def yX5_worth : MethodName := ⟨"ApartCostModel", "worth", "(IJ)Z"⟩
abbrev wsX5_worth : List Cond := .code yX5_worth cX5_worth 4 (some .boolean) :: am_big
abbrev cX5_isPart : ByteArray := prog_7_method_6_code
def yX5_isPart : MethodName := ⟨"ApartCostModel", "isPart", "(I)Z"⟩
abbrev wsX5_isPart : List Cond := .code yX5_isPart cX5_isPart 1 (some .boolean) :: am_big
abbrev cX5_isWorth : ByteArray := prog_7_method_4_code
def yX5_isWorth : MethodName := ⟨"ApartCostModel", "isWorth", "(J)Z"⟩
abbrev wsX5_isWorth : List Cond := .code yX5_isWorth cX5_isWorth 2 (some .boolean) :: am_big
abbrev cX5_rest : ByteArray := prog_7_method_14_code
def yX5_rest : MethodName := ⟨"ApartCostModel", "rest", "(JJ)Z"⟩
abbrev wsX5_rest : List Cond := .code yX5_rest cX5_rest 6 (some .boolean) :: am_big
abbrev cX5_breaks : ByteArray := prog_7_method_15_code
def yX5_breaks : MethodName := ⟨"ApartCostModel", "breaks", "(I)Z"⟩
abbrev wsX5_breaks : List Cond := .code yX5_breaks cX5_breaks 2 (some .boolean) :: am_big
abbrev cX5_sure : ByteArray := prog_7_method_16_code
def yX5_sure : MethodName := ⟨"ApartCostModel", "sure", "(IJJ)Z"⟩
abbrev wsX5_sure : List Cond := .code yX5_sure cX5_sure 6 (some .boolean) :: am_big
abbrev cX5_states : ByteArray := prog_7_method_19_code
def yX5_states : MethodName := ⟨"ApartCostModel", "states", "()J"⟩
abbrev wsX5_states : List Cond := .code yX5_states cX5_states 7 (some .long) :: am_big
abbrev cX5_isClosed : ByteArray := prog_7_method_18_code
def yX5_isClosed : MethodName := ⟨"ApartCostModel", "isClosed", "(I)Z"⟩
abbrev wsX5_isClosed : List Cond := .code yX5_isClosed cX5_isClosed 5 (some .boolean) :: am_big
abbrev cX5_has : ByteArray := prog_7_method_17_code
def yX5_has : MethodName := ⟨"ApartCostModel", "has", "(II)Z"⟩
abbrev wsX5_has : List Cond := .code yX5_has cX5_has 2 (some .boolean) :: am_big
abbrev cX5_run : ByteArray := prog_7_method_28_code
def yX5_run : MethodName := ⟨"ApartCostModel", "run", "(J)I"⟩
abbrev wsX5_run : List Cond := .code yX5_run cX5_run 8 (some .int) :: am_big
abbrev cX5_reckonValues : ByteArray := prog_7_method_25_code
def yX5_reckonValues : MethodName := ⟨"ApartCostModel", "reckonValues", "()V"⟩
abbrev wsX5_reckonValues : List Cond := .code yX5_reckonValues cX5_reckonValues 3 none :: am_big
abbrev cX5_valueOf : ByteArray := prog_7_method_22_code
def yX5_valueOf : MethodName := ⟨"ApartCostModel", "valueOf", "(I)J"⟩
abbrev wsX5_valueOf : List Cond := .code yX5_valueOf cX5_valueOf 6 (some .long) :: am_big
abbrev cX5_bringsOf : ByteArray := prog_7_method_20_code
def yX5_bringsOf : MethodName := ⟨"ApartCostModel", "bringsOf", "(II)J"⟩
abbrev wsX5_bringsOf : List Cond := .code yX5_bringsOf cX5_bringsOf 7 (some .long) :: am_big
abbrev cX5_restOf : ByteArray := prog_7_method_21_code
def yX5_restOf : MethodName := ⟨"ApartCostModel", "restOf", "(I)I"⟩
abbrev wsX5_restOf : List Cond := .code yX5_restOf cX5_restOf 4 (some .int) :: am_big
abbrev cX5_bestFrom : ByteArray := prog_7_method_26_code
def yX5_bestFrom : MethodName := ⟨"ApartCostModel", "bestFrom", "(IIJ)J"⟩
abbrev wsX5_bestFrom : List Cond := .code yX5_bestFrom cX5_bestFrom 11 (some .long) :: am_big
abbrev cX5_canDo : ByteArray := prog_7_method_24_code
def yX5_canDo : MethodName := ⟨"ApartCostModel", "canDo", "(II)Z"⟩
abbrev wsX5_canDo : List Cond := .code yX5_canDo cX5_canDo 3 (some .boolean) :: am_big
abbrev cX5_stepCost : ByteArray := prog_7_method_23_code
def yX5_stepCost : MethodName := ⟨"ApartCostModel", "stepCost", "(II)J"⟩
abbrev wsX5_stepCost : List Cond := .code yX5_stepCost cX5_stepCost 5 (some .long) :: am_big
abbrev cX5_spread : ByteArray := prog_7_method_27_code
def yX5_spread : MethodName := ⟨"ApartCostModel", "spread", "(IIJ)V"⟩
abbrev wsX5_spread : List Cond := .code yX5_spread cX5_spread 9 none :: am_big
abbrev cX5_step : ByteArray := prog_7_method_29_code
def yX5_step : MethodName := ⟨"ApartCostModel", "step", "(I)I"⟩
abbrev wsX5_step : List Cond := .code yX5_step cX5_step 2 (some .int) :: am_big
abbrev cX5_stops : ByteArray := prog_7_method_30_code
def yX5_stops : MethodName := ⟨"ApartCostModel", "stops", "(I)I"⟩
abbrev wsX5_stops : List Cond := .code yX5_stops cX5_stops 4 (some .int) :: am_big
abbrev cX5_other : ByteArray := prog_7_method_32_code
def yX5_other : MethodName := ⟨"ApartCostModel", "other", "(I)I"⟩
abbrev wsX5_other : List Cond := .code yX5_other cX5_other 4 (some .int) :: am_big
abbrev cX5_isInRow : ByteArray := prog_7_method_31_code
def yX5_isInRow : MethodName := ⟨"ApartCostModel", "isInRow", "(I)Z"⟩
abbrev wsX5_isInRow : List Cond := .code yX5_isInRow cX5_isInRow 4 (some .boolean) :: am_big
abbrev cX5_gain : ByteArray := prog_7_method_33_code
def yX5_gain : MethodName := ⟨"ApartCostModel", "gain", "(I)J"⟩
abbrev wsX5_gain : List Cond := .code yX5_gain cX5_gain 2 (some .long) :: am_big
abbrev cX5_proved : ByteArray := prog_7_method_34_code
def yX5_proved : MethodName := ⟨"ApartCostModel", "proved", "()Z"⟩
abbrev wsX5_proved : List Cond := .code yX5_proved cX5_proved 1 (some .boolean) :: am_big
abbrev cX5_bound : ByteArray := prog_7_method_35_code
def yX5_bound : MethodName := ⟨"ApartCostModel", "bound", "()J"⟩
abbrev wsX5_bound : List Cond := .code yX5_bound cX5_bound 6 (some .long) :: am_big
abbrev cX5_test : ByteArray := prog_7_method_37_code
def yX5_test : MethodName := ⟨"ApartCostModel", "test", "(IJ)I"⟩
abbrev wsX5_test : List Cond := .code yX5_test cX5_test 12 (some .int) :: am_big
abbrev cX5_bestWith : ByteArray := prog_7_method_36_code
def yX5_bestWith : MethodName := ⟨"ApartCostModel", "bestWith", "(II)J"⟩
abbrev wsX5_bestWith : List Cond := .code yX5_bestWith cX5_bestWith 5 (some .long) :: am_big
abbrev cX5_stations : ByteArray := prog_7_method_41_code
def yX5_stations : MethodName := ⟨"ApartCostModel", "stations", "(I)I"⟩
abbrev wsX5_stations : List Cond := .code yX5_stations cX5_stations 8 (some .int) :: am_big
abbrev cX5_keeps : ByteArray := prog_7_method_38_code
def yX5_keeps : MethodName := ⟨"ApartCostModel", "keeps", "([I)Z"⟩
abbrev wsX5_keeps : List Cond := .code yX5_keeps cX5_keeps 5 (some .boolean) :: am_big
abbrev cX5_longestOf : ByteArray := prog_7_method_39_code
def yX5_longestOf : MethodName := ⟨"ApartCostModel", "longestOf", "([I)J"⟩
abbrev wsX5_longestOf : List Cond := .code yX5_longestOf cX5_longestOf 8 (some .long) :: am_big
abbrev cX5_next : ByteArray := prog_7_method_40_code
def yX5_next : MethodName := ⟨"ApartCostModel", "next", "(I)Z"⟩
abbrev wsX5_next : List Cond := .code yX5_next cX5_next 3 (some .boolean) :: am_big
abbrev cX5_station : ByteArray := prog_7_method_42_code
def yX5_station : MethodName := ⟨"ApartCostModel", "station", "(I)I"⟩
abbrev wsX5_station : List Cond := .code yX5_station cX5_station 2 (some .int) :: am_big
end
section
-- ===== rows of my own over the kit: loops, arrays by a natural index, contracts that read, contracts that write =====
/-- the links to hidden methods of nest mates that the system uses: (own name, place in its pool, method, host) -/
def am_nw (L : List (String × Nat × MethodName × String)) (U : State) : Prop := ∀ q ∈ L, va_Nw (.methodLinkNest q.1 q.2.1 q.2.2.1 q.2.2.2) U
theorem am_nw_warm {L : List (String × Nat × MethodName × String)} {s U : State} (hW : s.WarmedH U.vm) (h : am_nw L s) : am_nw L U := fun q hq => va_Nw.warmM hW (h q hq)
theorem am_nw_call {L : List (String × Nat × MethodName × String)} {U : State} {g : JFrame} {mk : MethodId} {a : Array Value} (h : am_nw L U) : am_nw L (U.calling g mk a) := fun q hq => va_Nw.same (u := U) (U := U.calling g mk a) rfl rfl (h q hq)
theorem am_nw_at {L : List (String × Nat × MethodName × String)} {U : State} (h : am_nw L U) (k : Nat) {a : String} {i : Nat} {x : MethodName} {b : String} (hk : L[k]? = some (a, i, x, b)) : va_Nw (.methodLinkNest a i x b) U := h (a, i, x, b) (List.mem_of_getElem? hk)
/-- the same addresses: apart as before -/
theorem am_D {A : Nat → Prop} {w w' : va_W} (hD : va_D A w) (h : w.map Prod.fst = w'.map Prod.fst) : va_D A w' := by
  have key : ∀ (k : Nat) (q : Nat × va_E), w'[k]? = some q → ∃ q0, w[k]? = some q0 ∧ q0.1 = q.1 := by
    intro k q hk
    have e : (w.map Prod.fst)[k]? = (w'.map Prod.fst)[k]? := by rw [h]
    rw [List.getElem?_map, List.getElem?_map, hk] at e
    cases hw : w[k]? with
    | none => rw [hw] at e; cases e
    | some q0 => rw [hw] at e; exact ⟨q0, rfl, Option.some.inj e⟩
  refine ⟨fun i j x y hi hj hxy => ?_, fun k q hk => ?_⟩
  · obtain ⟨x0, h1, h2⟩ := key i x hi
    obtain ⟨y0, h3, h4⟩ := key j y hj
    exact hD.1 i j x0 y0 h1 h3 (h2.trans (hxy.trans h4.symm))
  · obtain ⟨q0, h1, h2⟩ := key k q hk
    rw [← h2]
    exact hD.2 k q0 h1
section AMK
variable {p : Program} {l : Launch} {e : Env} {R : Room} {s : State} {m : MethodId} {args : Array Value} {below : List Frame} {meth : Method} {c : Code} {H : Heap} {locs : List Loc} {cells slots : Nat} {Q : State → Prop}
/-- a loop that only reads -/
theorem am_loopR {σ : Type} {pc : Nat} {st : List Value} (I : σ → Nat → Array Slot → Prop)
    (step : ∀ (x : σ) (n : Nat) (ls : Array Slot), I x n ls → (∀ (x' : σ) (n' : Nat) (ls' : Array Slot), n' < n → I x' n' ls' → W p l e R s m args below meth c H locs cells slots Q (F0 m pc ls' st)) → W p l e R s m args below meth c H locs cells slots Q (F0 m pc ls st)) :
    ∀ (x : σ) (n : Nat) (ls : Array Slot), I x n ls → W p l e R s m args below meth c H locs cells slots Q (F0 m pc ls st) := by
  have key : ∀ (N : Nat) (x : σ) (n : Nat) (ls : Array Slot), n < N → I x n ls → W p l e R s m args below meth c H locs cells slots Q (F0 m pc ls st) := by
    intro N
    induction N with
    | zero => intro x n ls h; exact absurd h (Nat.not_lt_zero _)
    | succ N ih => intro x n ls h hI; exact step x n ls hI (fun x' n' ls' h' hI' => ih x' n' ls' (Nat.lt_of_lt_of_le h' (Nat.le_of_lt_succ h)) hI')
  intro x n ls hI
  exact key (n + 1) x n ls (Nat.lt_succ_self n) hI
/-- a loop that writes -/
theorem am_loop {σ : Type} {pc : Nat} {st : List Value} (I : σ → Nat → Heap → List Loc → Array Slot → Prop)
    (step : ∀ (x : σ) (n : Nat) (H : Heap) (locs : List Loc) (ls : Array Slot), I x n H locs ls → (∀ (x' : σ) (n' : Nat) (H' : Heap) (locs' : List Loc) (ls' : Array Slot), n' < n → I x' n' H' locs' ls' → W p l e R s m args below meth c H' locs' cells slots Q (F0 m pc ls' st)) → W p l e R s m args below meth c H locs cells slots Q (F0 m pc ls st)) :
    ∀ (x : σ) (n : Nat) (H : Heap) (locs : List Loc) (ls : Array Slot), I x n H locs ls → W p l e R s m args below meth c H locs cells slots Q (F0 m pc ls st) := by
  have key : ∀ (N : Nat) (x : σ) (n : Nat) (H : Heap) (locs : List Loc) (ls : Array Slot), n < N → I x n H locs ls → W p l e R s m args below meth c H locs cells slots Q (F0 m pc ls st) := by
    intro N
    induction N with
    | zero => intro x n H locs ls h; exact absurd h (Nat.not_lt_zero _)
    | succ N ih => intro x n H locs ls h hI; exact step x n H locs ls hI (fun x' n' H' locs' ls' h' hI' => ih x' n' H' locs' ls' (Nat.lt_of_lt_of_le h' (Nat.le_of_lt_succ h)) hI')
  intro x n H locs ls hI
  exact key (n + 1) x n H locs ls (Nat.lt_succ_self n) hI
variable {cc : ByteArray} {pc : Nat} {ls : Array Slot} {rest : List Value} {D : va_G} {cl : List vw_C} {A : Nat → Prop} {a : Nat} {tys : List (ClassId × FieldType)} {ws : va_W} {H0 : Heap}
/-- the value on top is another term -/
theorem am_topi {x y : Int32} (h : x = y) (kk : W p l e R s m args below meth c H locs cells slots Q (F0 m pc ls (.int y :: rest))) : W p l e R s m args below meth c H locs cells slots Q (F0 m pc ls (.int x :: rest)) := by
  subst h; exact kk
theorem am_topl {x y : Int64} (h : x = y) (kk : W p l e R s m args below meth c H locs cells slots Q (F0 m pc ls (.long y :: rest))) : W p l e R s m args below meth c H locs cells slots Q (F0 m pc ls (.long x :: rest)) := by
  subst h; exact kk
theorem am_iald (hexec : p.tables.exec = Jvm.exec) (hb : c.code = cc) (hK : va_K D cl tys s) (hP : va_P D cl ws H) (q0 t0 : Nat) {cA : ClassId} {n : Nat} {f : Nat → Int32} (ha : ws[q0]? = some (a, .inl (cA, n, .inl f))) (ht : tys[t0]? = some (cA, .int)) {i : Int32} (k : Nat) (hi : i = nI k) (hk : k < n) (hn : n < 2 ^ 31) (hdg : decode cc pc = .ok (.iaload, 1))
    (kk : W p l e R s m args below meth c H locs cells slots Q (F0 m (pc + 1) ls (.int (f k) :: rest))) : W p l e R s m args below meth c H locs cells slots Q (F0 m pc ls (.int i :: .ref a :: rest)) := by
  subst hi
  refine va_iald hexec hb hK hP q0 t0 ha ht (vp_in_nI hk hn) hdg ?_
  rw [nI_clamp (Nat.lt_trans hk hn)]
  exact kk
theorem am_lald (hexec : p.tables.exec = Jvm.exec) (hb : c.code = cc) (hK : va_K D cl tys s) (hP : va_P D cl ws H) (q0 t0 : Nat) {cA : ClassId} {n : Nat} {f : Nat → Int64} (ha : ws[q0]? = some (a, .inl (cA, n, .inr (.inl f)))) (ht : tys[t0]? = some (cA, .long)) {i : Int32} (k : Nat) (hi : i = nI k) (hk : k < n) (hn : n < 2 ^ 31) (hdg : decode cc pc = .ok (.laload, 1))
    (kk : W p l e R s m args below meth c H locs cells slots Q (F0 m (pc + 1) ls (.long (f k) :: rest))) : W p l e R s m args below meth c H locs cells slots Q (F0 m pc ls (.int i :: .ref a :: rest)) := by
  subst hi
  refine va_lald hexec hb hK hP q0 t0 ha ht (vp_in_nI hk hn) hdg ?_
  rw [nI_clamp (Nat.lt_trans hk hn)]
  exact kk
theorem am_iast (hexec : p.tables.exec = Jvm.exec) (hb : c.code = cc) (hK : va_K D cl tys s) (hP : va_P D cl ws H) (hD : va_D A ws) (hS : va_S A H0 H locs) (q0 t0 : Nat) {cA : ClassId} {n : Nat} {f : Nat → Int32} (ha : ws[q0]? = some (a, .inl (cA, n, .inl f))) (ht : tys[t0]? = some (cA, .int)) {i x : Int32} (k : Nat) (hi : i = nI k) (hk : k < n) (hn : n < 2 ^ 31) (ws' : va_W) (hw : ws.set q0 (a, .inl (cA, n, .inl (upd f k x))) = ws') (hdg : decode cc pc = .ok (.iastore, 1))
    (kk : ∀ (H1 : Heap) (locs1 : List Loc), va_P D cl ws' H1 → va_D A ws' → va_S A H0 H1 locs1 → W p l e R s m args below meth c H1 locs1 cells slots Q (F0 m (pc + 1) ls rest)) : W p l e R s m args below meth c H locs cells slots Q (F0 m pc ls (.int x :: .int i :: .ref a :: rest)) := by
  subst hi
  subst hw
  refine va_iast hexec hb hK hP hD hS q0 t0 ha ht (vp_in_nI hk hn) hdg ?_
  rw [nI_clamp (Nat.lt_trans hk hn)]
  exact kk
theorem am_last (hexec : p.tables.exec = Jvm.exec) (hb : c.code = cc) (hK : va_K D cl tys s) (hP : va_P D cl ws H) (hD : va_D A ws) (hS : va_S A H0 H locs) (q0 t0 : Nat) {cA : ClassId} {n : Nat} {f : Nat → Int64} (ha : ws[q0]? = some (a, .inl (cA, n, .inr (.inl f)))) (ht : tys[t0]? = some (cA, .long)) {i : Int32} {x : Int64} (k : Nat) (hi : i = nI k) (hk : k < n) (hn : n < 2 ^ 31) (ws' : va_W) (hw : ws.set q0 (a, .inl (cA, n, .inr (.inl (vp_updL f k x)))) = ws') (hdg : decode cc pc = .ok (.lastore, 1))
    (kk : ∀ (H1 : Heap) (locs1 : List Loc), va_P D cl ws' H1 → va_D A ws' → va_S A H0 H1 locs1 → W p l e R s m args below meth c H1 locs1 cells slots Q (F0 m (pc + 1) ls rest)) : W p l e R s m args below meth c H locs cells slots Q (F0 m pc ls (.long x :: .int i :: .ref a :: rest)) := by
  subst hi
  subst hw
  refine va_last hexec hb hK hP hD hS q0 t0 ha ht (vp_in_nI hk hn) hdg ?_
  rw [nI_clamp (Nat.lt_trans hk hn)]
  exact kk
end AMK
-- contracts: what a method finds, what it leaves
def am_R (L : List (String × Nat × MethodName × String)) (cl : List vw_C) (D : va_G) (w : va_W) (tys : List (ClassId × FieldType)) (U : State) : Prop := va_P D cl w U.heap ∧ va_K D cl tys U ∧ am_nw L U
def am_M (L : List (String × Nat × MethodName × String)) (cl : List vw_C) (D : va_G) (A : Nat → Prop) (w : va_W) (tys : List (ClassId × FieldType)) (U : State) : Prop := va_P D cl w U.heap ∧ va_K D cl tys U ∧ am_nw L U ∧ va_D A w
def am_rm (fr lo : Nat) : Room := { frames := fr, cells := 0, slots := 0, locals := lo }
def am_No : Nat → Prop := fun _ => False
def am_Mi (cl : List vw_C) (D : va_G) (v : Int32) (w : va_W) (A : Nat → Prop) : Array Value → State → Outcome → State → Prop := va_Qi (fun (r : Int32) (_ : Unit) => r = v) (fun _ t => va_P D cl w t.heap) A
def am_Ml (cl : List vw_C) (D : va_G) (v : Int64) (w : va_W) (A : Nat → Prop) : Array Value → State → Outcome → State → Prop := va_Ql (fun (r : Int64) (_ : Unit) => r = v) (fun _ t => va_P D cl w t.heap) A
def am_Mv (cl : List vw_C) (D : va_G) (w : va_W) (A : Nat → Prop) : Array Value → State → Outcome → State → Prop := va_Qv (fun (_ : Unit) => True) (fun _ t => va_P D cl w t.heap) A
section AMC
variable {p : Program} {l : Launch} {e : Env} {R : Room} {s : State} {m : MethodId} {args : Array Value} {below : List Frame} {meth : Method} {c : Code} {H : Heap} {locs : List Loc} {cells slots : Nat} {Q : State → Prop}
variable {cc : ByteArray} {pc : Nat} {ls : Array Slot} {rest st0 : List Value} {D : va_G} {cl : List vw_C} {A : Nat → Prop} {tys : List (ClassId × FieldType)} {w w' : va_W} {H0 : Heap} {L : List (String × Nat × MethodName × String)} {a : Array Value}
theorem am_startR {y : MethodName} {ws ws' : List Cond} {fr lo maxL : Nat} {av : List Value} {Qc : Array Value → State → Outcome → State → Prop} {ret : Option FieldType} (hy : plainName y.cls = true) (hw : ws = Cond.code y cc maxL ret :: ws') (hsl : (lg_sl av).length ≤ maxL) (lv : List (Nat × Value)) (hlv : lv_args 0 av = lv)
    (body : ∀ (p : Program) (e : Env) (s : State) (m : MethodId) (below : List Frame) (meth : Method) (c : Code) (ls : Array Slot), p.tables.exec = Jvm.exec → c.code = cc → meth.sig.returnType = ret → c.maxLocals = maxL → s.vm.findClass y.cls = some m.cls → (∀ x ∈ ws, x.before av.toArray s = true) → meth.locks = false → va_P D cl w s.heap → va_K D cl tys s → am_nw L s → lv_has ls maxL lv →
      W p l e (am_rm fr lo) s m av.toArray below meth c s.heap [] 0 0 (MQ below Qc av.toArray s 0 0 am_No) (F0 m 0 ls [])) :
    Met l y ws (am_rm fr lo) (va_Pc av (am_R L cl D w tys)) Qc 0 0 am_No := by
  refine Met.ofW (cc := cc) (maxL := maxL) (ret := ret) hy hw ?_
  intro p e s m args below meth c s₁ B hml hv
  obtain ⟨rfl, hP, hK, hN⟩ := hv
  have hl := lv_entry av (n := maxL) hsl
  rw [lg_entry_eq]
  subst hlv
  exact body p e s m below meth c _ B.exec B.bytes B.returns hml (findClass_of_methodNamed B.named) (atoms_spec (ws := ws) B.pre) B.notSynchronized hP hK hN hl
theorem am_startM {y : MethodName} {ws ws' : List Cond} {fr lo maxL : Nat} {av : List Value} {Qc : Array Value → State → Outcome → State → Prop} {ret : Option FieldType} (hy : plainName y.cls = true) (hw : ws = Cond.code y cc maxL ret :: ws') (hsl : (lg_sl av).length ≤ maxL) (lv : List (Nat × Value)) (hlv : lv_args 0 av = lv)
    (body : ∀ (p : Program) (e : Env) (s : State) (m : MethodId) (below : List Frame) (meth : Method) (c : Code) (ls : Array Slot), p.tables.exec = Jvm.exec → c.code = cc → meth.sig.returnType = ret → c.maxLocals = maxL → s.vm.findClass y.cls = some m.cls → (∀ x ∈ ws, x.before av.toArray s = true) → meth.locks = false → va_K D cl tys s → am_nw L s → va_D A w → ∀ (H : Heap) (locs : List Loc), va_P D cl w H → va_S A s.heap H locs → lv_has ls maxL lv →
      W p l e (am_rm fr lo) s m av.toArray below meth c H locs 0 0 (MQ below Qc av.toArray s 0 0 A) (F0 m 0 ls [])) :
    Met l y ws (am_rm fr lo) (va_Pc av (am_M L cl D A w tys)) Qc 0 0 A := by
  refine Met.ofW (cc := cc) (maxL := maxL) (ret := ret) hy hw ?_
  intro p e s m args below meth c s₁ B hml hv
  obtain ⟨rfl, hP, hK, hN, hD⟩ := hv
  have hl := lv_entry av (n := maxL) hsl
  rw [lg_entry_eq]
  subst hlv
  exact body p e s m below meth c _ B.exec B.bytes B.returns hml (findClass_of_methodNamed B.named) (atoms_spec (ws := ws) B.pre) B.notSynchronized hK hN hD s.heap [] hP va_S.rf hl
-- ends of methods that read
theorem am_iretR {v v' : Int32} (hexec : p.tables.exec = Jvm.exec) (hb : c.code = cc) (hr : meth.sig.returnType = some .int) (hlocks : meth.locks = false) (hp : v = v') (hdg : decode cc pc = .ok (.ireturn, 1)) : W p l e R s m args below meth c s.heap [] 0 0 (MQ below (vp_Si (fun r => r = v')) args s 0 0 am_No) (F0 m pc ls [.int v]) :=
  W.iret hexec hb hr (fun t ht _ => ⟨v, rfl, hp, ht⟩) (fun _ h => by cases h) hdg hlocks
theorem am_zretR {v v' : Int32} (hexec : p.tables.exec = Jvm.exec) (hb : c.code = cc) (hr : meth.sig.returnType = some .boolean) (hlocks : meth.locks = false) (hz : v = 0 ∨ v = 1) (hp : v = v') (hdg : decode cc pc = .ok (.ireturn, 1)) : W p l e R s m args below meth c s.heap [] 0 0 (MQ below (vp_Si (fun r => r = v')) args s 0 0 am_No) (F0 m pc ls [.int v]) :=
  W.zret hexec hb hr (by rcases hz with rfl | rfl <;> rfl) (fun t ht _ => ⟨v, rfl, hp, ht⟩) (fun _ h => by cases h) hdg hlocks
theorem am_lretR {v v' : Int64} (hexec : p.tables.exec = Jvm.exec) (hb : c.code = cc) (hr : meth.sig.returnType = some .long) (hlocks : meth.locks = false) (hp : v = v') (hdg : decode cc pc = .ok (.lreturn, 1)) : W p l e R s m args below meth c s.heap [] 0 0 (MQ below (vp_Sl (fun r => r = v')) args s 0 0 am_No) (F0 m pc ls [.long v]) :=
  W.lret hexec hb hr (fun t ht _ => ⟨v, rfl, hp, ht⟩) (fun _ h => by cases h) hdg hlocks
-- ends of methods that write
theorem am_iretM {v v' : Int32} (hexec : p.tables.exec = Jvm.exec) (hb : c.code = cc) (hr : meth.sig.returnType = some .int) (hlocks : meth.locks = false) (hP : va_P D cl w H) (hS : va_S A s.heap H locs) (hv : v = v') (hdg : decode cc pc = .ok (.ireturn, 1)) : W p l e R s m args below meth c H locs 0 0 (MQ below (am_Mi cl D v' w A) args s 0 0 A) (F0 m pc ls [.int v]) :=
  W.iret hexec hb hr (fun t ht _ => ⟨⟨v, (), rfl, hv, by show va_P D cl w t.heap; rw [ht]; exact hP⟩, hS.F ht⟩) hS.2.2 hdg hlocks
theorem am_zretM {v v' : Int32} (hexec : p.tables.exec = Jvm.exec) (hb : c.code = cc) (hr : meth.sig.returnType = some .boolean) (hlocks : meth.locks = false) (hz : v = 0 ∨ v = 1) (hP : va_P D cl w H) (hS : va_S A s.heap H locs) (hv : v = v') (hdg : decode cc pc = .ok (.ireturn, 1)) : W p l e R s m args below meth c H locs 0 0 (MQ below (am_Mi cl D v' w A) args s 0 0 A) (F0 m pc ls [.int v]) :=
  W.zret hexec hb hr (by rcases hz with rfl | rfl <;> rfl) (fun t ht _ => ⟨⟨v, (), rfl, hv, by show va_P D cl w t.heap; rw [ht]; exact hP⟩, hS.F ht⟩) hS.2.2 hdg hlocks
theorem am_lretM {v v' : Int64} (hexec : p.tables.exec = Jvm.exec) (hb : c.code = cc) (hr : meth.sig.returnType = some .long) (hlocks : meth.locks = false) (hP : va_P D cl w H) (hS : va_S A s.heap H locs) (hv : v = v') (hdg : decode cc pc = .ok (.lreturn, 1)) : W p l e R s m args below meth c H locs 0 0 (MQ below (am_Ml cl D v' w A) args s 0 0 A) (F0 m pc ls [.long v]) :=
  W.lret hexec hb hr (fun t ht _ => ⟨⟨v, (), rfl, hv, by show va_P D cl w t.heap; rw [ht]; exact hP⟩, hS.F ht⟩) hS.2.2 hdg hlocks
theorem am_vretM (hexec : p.tables.exec = Jvm.exec) (hb : c.code = cc) (hr : meth.sig.returnType = none) (hlocks : meth.locks = false) (hP : va_P D cl w H) (hS : va_S A s.heap H locs) (hdg : decode cc pc = .ok (.return_, 1)) : W p l e R s m args below meth c H locs 0 0 (MQ below (am_Mv cl D w A) args s 0 0 A) (F0 m pc ls []) :=
  W.vret hexec hb hr (fun t ht _ => ⟨⟨(), rfl, trivial, by show va_P D cl w t.heap; rw [ht]; exact hP⟩, hS.F ht⟩) hS.2.2 hdg hlocks
-- what a call finds
theorem am_blindR {av : List Value} : FrameBlind (va_Pc av (am_R L cl D w tys)) := fun a U g mk q => by
  obtain ⟨q1, q2, q3, q4⟩ := q
  exact ⟨q1, q2, va_K.moved (u := U) (U := U.calling g mk a) (Vm.Alike.refl U.vm) q3, am_nw_call q4⟩
theorem am_blindM {av : List Value} : FrameBlind (va_Pc av (am_M L cl D A w tys)) := fun a U g mk q => by
  obtain ⟨q1, q2, q3, q4, q5⟩ := q
  exact ⟨q1, q2, va_K.moved (u := U) (U := U.calling g mk a) (Vm.Alike.refl U.vm) q3, am_nw_call q4, q5⟩
theorem am_preSR {As : List Value} (hP : va_P D cl w H) (hK : va_K D cl tys s) (hN : am_nw L s) : PreS s H (va_Pc As (am_R L cl D w tys)) As :=
  ⟨am_blindR, fun U hU hW => ⟨rfl, by rw [hU]; exact hP, va_K.moved hW.alike hK, am_nw_warm hW hN⟩⟩
theorem am_preSM {As : List Value} (hP : va_P D cl w H) (hK : va_K D cl tys s) (hN : am_nw L s) (hD : va_D A w) : PreS s H (va_Pc As (am_M L cl D A w tys)) As :=
  ⟨am_blindM, fun U hU hW => ⟨rfl, by rw [hU]; exact hP, va_K.moved hW.alike hK, am_nw_warm hW hN, hD⟩⟩
theorem am_preVR {As : List Value} {b : Nat} {C : String} (ci q0 : Nat) {q : vw_C} {fs : List Value} (hc : cl[ci]? = some q) (hC : q.1 = C) (he : w[q0]? = some (b, .inr (ci, fs))) (hP : va_P D cl w H) (hK : va_K D cl tys s) (hN : am_nw L s) : PreV s H C b (va_Pc (.ref b :: As) (am_R L cl D w tys)) As :=
  ⟨am_blindR, by subst hC; exact va_recv hK hP hc he, fun U hU hW => ⟨rfl, by rw [hU]; exact hP, va_K.moved hW.alike hK, am_nw_warm hW hN⟩⟩
theorem am_preVM {As : List Value} {b : Nat} {C : String} (ci q0 : Nat) {q : vw_C} {fs : List Value} (hc : cl[ci]? = some q) (hC : q.1 = C) (he : w[q0]? = some (b, .inr (ci, fs))) (hP : va_P D cl w H) (hK : va_K D cl tys s) (hN : am_nw L s) (hD : va_D A w) : PreV s H C b (va_Pc (.ref b :: As) (am_M L cl D A w tys)) As :=
  ⟨am_blindM, by subst hC; exact va_recv hK hP hc he, fun U hU hW => ⟨rfl, by rw [hU]; exact hP, va_K.moved hW.alike hK, am_nw_warm hW hN, hD⟩⟩
-- behind a call
theorem am_callRi {v : Int32} (hr : CallRun p l e R s m args below meth c H locs cells slots 0 0 (F0 m pc ls st0) rest (vp_Si (fun r => r = v) a) am_No)
    (kk : W p l e R s m args below meth c H locs cells slots Q (F0 m (pc + 3) ls (.int v :: rest))) : W p l e R s m args below meth c H locs cells slots Q (F0 m pc ls st0) :=
  vp_callSi hr (fun r (h : r = v) => by subst h; exact kk)
theorem am_callRl {v : Int64} (hr : CallRun p l e R s m args below meth c H locs cells slots 0 0 (F0 m pc ls st0) rest (vp_Sl (fun r => r = v) a) am_No)
    (kk : W p l e R s m args below meth c H locs cells slots Q (F0 m (pc + 3) ls (.long v :: rest))) : W p l e R s m args below meth c H locs cells slots Q (F0 m pc ls st0) :=
  vp_callSl hr (fun r (h : r = v) => by subst h; exact kk)
theorem am_callMi {v : Int32} (hr : va_Run p l e R s m args below meth c H locs cells slots 0 0 (F0 m pc ls st0) rest (am_Mi cl D v w' A a) A) (hS : va_S A H0 H locs)
    (kk : ∀ (H1 : Heap) (locs1 : List Loc), va_P D cl w' H1 → va_S A H0 H1 locs1 → W p l e R s m args below meth c H1 locs1 cells slots Q (F0 m (pc + 3) ls (.int v :: rest))) : W p l e R s m args below meth c H locs cells slots Q (F0 m pc ls st0) :=
  va_calli hr hS (fun _ _ h => h) (fun _ h => h) (fun r _ t H1 locs1 ht _ (hp : r = v) hB _ _ hS1 => by subst hp; exact kk H1 locs1 (by rw [← ht]; exact hB) hS1)
theorem am_callMl {v : Int64} (hr : va_Run p l e R s m args below meth c H locs cells slots 0 0 (F0 m pc ls st0) rest (am_Ml cl D v w' A a) A) (hS : va_S A H0 H locs)
    (kk : ∀ (H1 : Heap) (locs1 : List Loc), va_P D cl w' H1 → va_S A H0 H1 locs1 → W p l e R s m args below meth c H1 locs1 cells slots Q (F0 m (pc + 3) ls (.long v :: rest))) : W p l e R s m args below meth c H locs cells slots Q (F0 m pc ls st0) :=
  va_calll hr hS (fun _ _ h => h) (fun _ h => h) (fun r _ t H1 locs1 ht _ (hp : r = v) hB _ _ hS1 => by subst hp; exact kk H1 locs1 (by rw [← ht]; exact hB) hS1)
theorem am_callMv (hr : va_Run p l e R s m args below meth c H locs cells slots 0 0 (F0 m pc ls st0) rest (am_Mv cl D w' A a) A) (hS : va_S A H0 H locs)
    (kk : ∀ (H1 : Heap) (locs1 : List Loc), va_P D cl w' H1 → va_S A H0 H1 locs1 → W p l e R s m args below meth c H1 locs1 cells slots Q (F0 m (pc + 3) ls rest)) : W p l e R s m args below meth c H locs cells slots Q (F0 m pc ls st0) :=
  va_callv hr hS (fun _ _ h => h) (fun _ h => h) (fun _ t H1 locs1 ht _ _ hB _ _ hS1 => kk H1 locs1 (by rw [← ht]; exact hB) hS1)
end AMC
theorem am_set_self {w : va_W} {q0 : Nat} {e : Nat × va_E} (h : w[q0]? = some e) : w.set q0 e = w := by
  apply List.ext_getElem?
  intro i
  by_cases hi : q0 = i
  · subst hi
    rw [List.getElem?_set_self (List.getElem?_eq_some_iff.mp h).1, h]
  · rw [List.getElem?_set_ne hi]
theorem am_set_fst {w : va_W} {q0 : Nat} {a : Nat} {e e' : va_E} (h : w[q0]? = some (a, e)) : w.map Prod.fst = (w.set q0 (a, e')).map Prod.fst := by
  apply List.ext_getElem?
  intro i
  rw [List.getElem?_map, List.getElem?_map]
  by_cases hi : q0 = i
  · subst hi
    rw [List.getElem?_set_self (List.getElem?_eq_some_iff.mp h).1, h]
    rfl
  · rw [List.getElem?_set_ne hi]
section AMN
variable {p : Program} {l : Launch} {e : Env} {R : Room} {s : State} {m : MethodId} {args : Array Value} {below : List Frame} {meth : Method} {c : Code} {H : Heap} {locs : List Loc} {cells slots : Nat} {Q : State → Prop}
variable {cc : ByteArray} {pc : Nat} {ls : Array Slot} {rest : List Value} {D : va_G} {cl : List vw_C} {A : Nat → Prop} {ws : va_W} {H0 : Heap} {cI cL : ClassId}
theorem am_newI (hexec : p.tables.exec = Jvm.exec) (hb : c.code = cc) (harr : (Cond.arrayClass .int).before args s = true) (hK : va_K D cl [(cI, .int), (cL, .long)] s) (hP : va_P D cl ws H) (hD : va_D A ws) (hS : va_S A H0 H locs) (hA : ∀ q, H0.size ≤ q → A q)
    {n : Int32} (N : Nat) (hn : ¬ n < 0) (hN : n.toNatClampNeg = N) (hbytes : N * componentBytes .int ≤ 536870912) (hcells : cells + 1 ≤ R.cells) (hslots : slots + N ≤ R.slots) (hdg : decode cc pc = .ok (.newarray .int, 2))
    (kk : ∀ (q : Nat) (H1 : Heap), va_P D cl (ws ++ [(q, .inl (cI, N, .inl (fun _ => 0)))]) H1 → va_D A (ws ++ [(q, .inl (cI, N, .inl (fun _ => 0)))]) → va_S A H0 H1 locs →
      W p l e R s m args below meth c H1 locs (cells + 1) (slots + N) Q (F0 m (pc + 2) ls (.ref q :: rest))) : W p l e R s m args below meth c H locs cells slots Q (F0 m pc ls (.int n :: rest)) :=
  va_newa (atype := .int) hexec hb harr rfl hK hP hD hS hA (a0 := (N, .inl (fun _ => 0))) (fun _ => rfl) hn hN hbytes hcells hslots hdg (fun q cA H1 hK1 hP1 hD1 hS1 => by
    have h1 := (hK1.2 0 _ rfl).2
    have h2 := (hK1.2 2 _ rfl).2
    have e : cA = cI := Option.some.inj (h2.symm.trans h1)
    subst e
    exact kk q H1 hP1 hD1 hS1)
theorem am_newL (hexec : p.tables.exec = Jvm.exec) (hb : c.code = cc) (harr : (Cond.arrayClass .long).before args s = true) (hK : va_K D cl [(cI, .int), (cL, .long)] s) (hP : va_P D cl ws H) (hD : va_D A ws) (hS : va_S A H0 H locs) (hA : ∀ q, H0.size ≤ q → A q)
    {n : Int32} (N : Nat) (hn : ¬ n < 0) (hN : n.toNatClampNeg = N) (hbytes : N * componentBytes .long ≤ 536870912) (hcells : cells + 1 ≤ R.cells) (hslots : slots + N ≤ R.slots) (hdg : decode cc pc = .ok (.newarray .long, 2))
    (kk : ∀ (q : Nat) (H1 : Heap), va_P D cl (ws ++ [(q, .inl (cL, N, .inr (.inl (fun _ => 0))))]) H1 → va_D A (ws ++ [(q, .inl (cL, N, .inr (.inl (fun _ => 0))))]) → va_S A H0 H1 locs →
      W p l e R s m args below meth c H1 locs (cells + 1) (slots + N) Q (F0 m (pc + 2) ls (.ref q :: rest))) : W p l e R s m args below meth c H locs cells slots Q (F0 m pc ls (.int n :: rest)) :=
  va_newa (atype := .long) hexec hb harr rfl hK hP hD hS hA (a0 := (N, .inr (.inl (fun _ => 0)))) (fun _ => rfl) hn hN hbytes hcells hslots hdg (fun q cA H1 hK1 hP1 hD1 hS1 => by
    have h1 := (hK1.2 1 _ rfl).2
    have h2 := (hK1.2 2 _ rfl).2
    have e : cA = cL := Option.some.inj (h2.symm.trans h1)
    subst e
    exact kk q H1 hP1 hD1 hS1)
end AMN
theorem am_blindC {L : List (String × Nat × MethodName × String)} {cl : List vw_C} {D : va_G} {A : Nat → Prop} {w : va_W} {tys : List (ClassId × FieldType)} {sz : Nat} {av : List Value} : FrameBlind (va_Pc av (fun U => U.heap.size = sz ∧ am_M L cl D A w tys U)) := fun a U g mk q => by
  obtain ⟨q0, q1, q2, q3, q4, q5⟩ := q
  exact ⟨q0, q1, q2, va_K.moved (u := U) (U := U.calling g mk a) (Vm.Alike.refl U.vm) q3, am_nw_call q4, q5⟩
end
section
-- ===== the system's world, and its methods as functions of numbers (each as its text is, loop by loop) =====
theorem am_ge {x : Int32} {k n : Nat} (hx : x = nI n) (hn : n < 2 ^ 31) (hk : k < 2 ^ 31) : (x ≤ nI k) ↔ n ≤ k := by rw [hx, nI_leI hn hk]
theorem am_gt {x : Int32} {k n : Nat} (hx : x = nI n) (hn : n < 2 ^ 31) (hk : k < 2 ^ 31) : (x < nI k) ↔ n < k := by rw [hx, nI_ltI hn hk]
theorem am_shl1 : ∀ k, k < 31 → (1 : Int32) <<< (nI k &&& 31) = nI (2 ^ k) := by decide +kernel
theorem am_or (a b : Nat) : nI a ||| nI b = nI (a ||| b) := by
  apply Int32.toBitVec_inj.mp
  simp [nI, Int32.toBitVec_or, Int32.toBitVec_ofNat', BitVec.ofNat_or]
-- the last act as a number: 0 none, j + 1 act j
def ac_la : Nat → Int32
  | 0 => -1
  | j + 1 => nI j
theorem ac_la_inc : ∀ j, ac_la j + 1 = ac_la (j + 1)
  | 0 => by decide +kernel
  | j + 1 => nI_1 j
theorem ac_la_ne (j : Nat) (h : j < 2 ^ 30) : ¬ ac_la (j + 1) = -1 := by
  intro z
  have h1 : (nI j).toInt = (j : Int) := nI_toInt (by omega)
  have h2 : (ac_la (j + 1)).toInt = -1 := by rw [z]; decide +kernel
  rw [show ac_la (j + 1) = nI j from rfl, h1] at h2
  omega
def ac_pl : Nat → Nat → Nat
  | 0, b => 100 + b
  | j + 1, b => j * 10 + b
def ac_has (x y : Int32) : Int32 := if ((x >>> (y &&& 31)) &&& 1) = 0 then 0 else 1
def ac_isPart (x : Int32) : Int32 := if x < 0 then 0 else if 12 ≤ x then 0 else 1
def ac_isKind (x : Int32) : Int32 := if x < 0 then 0 else if 6 ≤ x then 0 else 1
def ac_isMove (x y : Int32) : Int32 := if ac_isKind x = 0 then 0 else if ac_isKind y = 0 then 0 else if x = y then 0 else 1
def ac_isPrice (x : Int64) : Int32 := if x < 0 then 0 else if 1000000 < x then 0 else 1
def ac_isWorth (x : Int64) : Int32 := if x < -1000000 then 0 else if 1000000 < x then 0 else 1
/-- member: n steps are left, at number k, c members were passed -/
def ac_mem (set key : Int32) : Nat → Nat → Int32 → Int32
  | 0, _, _ => -1
  | n + 1, k, c => if ac_has set (nI k) = 0 then ac_mem set key n (k + 1) c else if c = key then nI k else ac_mem set key n (k + 1) (c + 1)
def ac_hasAct (n x : Int32) : Int32 := if x < 0 then 0 else if n ≤ x then 0 else 1
def ac_all (n : Int32) : Int32 := ((1 : Int32) <<< (n &&& 31)) - 1
def ac_addNeed (more b : Int32) (ne : Nat → Int32) : Nat → Nat → Int32
  | 0 => ne
  | k + 1 => if nI k = b then upd (ac_addNeed more b ne k) k (ac_addNeed more b ne k k ||| more) else if ac_has (ac_addNeed more b ne k k) b = 0 then ac_addNeed more b ne k else upd (ac_addNeed more b ne k) k (ac_addNeed more b ne k k ||| more)
/-- placeOfRest: n steps are left, at place k -/
def ac_place (rp : Nat → Int32) (x : Int32) : Nat → Nat → Nat
  | 0, k => k
  | n + 1, k => if rp k = x then k else ac_place rp x n (k + 1)
theorem ac_place_le (rp : Nat → Int32) (x : Int32) : ∀ n k, k ≤ ac_place rp x n k ∧ ac_place rp x n k ≤ k + n
  | 0, k => ⟨Nat.le_refl _, Nat.le_refl _⟩
  | n + 1, k => by
    rw [ac_place]
    split
    · exact ⟨Nat.le_refl _, by omega⟩
    · obtain ⟨h1, h2⟩ := ac_place_le rp x n (k + 1)
      exact ⟨by omega, by omega⟩
def ac_restW (rp : Nat → Int32) (rc : Nat → Int64) (nr : Nat) (x : Int32) : Int64 := if ac_place rp x nr 0 < nr then rc (ac_place rp x nr 0) else 0
def ac_freed (fr : Nat → Int32) (set : Int32) : Nat → Int32
  | 0 => 0
  | k + 1 => if ac_has set (nI k) = 0 then ac_freed fr set k else if fr k = -1 then ac_freed fr set k else ac_freed fr set k ||| ((1 : Int32) <<< (fr k &&& 31))
def ac_whole (fr : Nat → Int32) (brk : Int32) (n : Nat) (set : Int32) : Int32 := ac_freed fr set n &&& (ac_freed fr (set &&& brk) n ^^^ (-1))
def ac_cents (to si : Nat → Int32) (ce ch tu : Nat → Int64) : Nat → Nat → Int64
  | 0, b => ce b
  | j + 1, b => ce b + ch (to j * 6 + to b).toNatClampNeg + tu (si j * 6 + si b).toNatClampNeg
def ac_needed (ne : Nat → Int32) (set : Int32) : Nat → Int32
  | 0 => 0
  | k + 1 => if ac_has set (nI k) = 0 then ac_needed ne set k else ac_needed ne set k ||| ne k
def ac_lasts (ne : Nat → Int32) (n : Nat) (set : Int32) : Int32 := if (ac_needed ne set n &&& (set ^^^ (-1))) = 0 then set &&& (ac_needed ne set n ^^^ (-1)) else 0
def ac_nexts (ne : Nat → Int32) (set : Int32) : Nat → Int32
  | 0 => 0
  | k + 1 => if ac_has set (nI k) = 0 then (if (ne k &&& (set ^^^ (-1))) = 0 then ac_nexts ne set k ||| ((1 : Int32) <<< (nI k &&& 31)) else ac_nexts ne set k) else ac_nexts ne set k
def ac_vals (wo sh va : Nat → Int64) : Nat → Nat → Int64
  | 0 => va
  | k + 1 => vp_updL (ac_vals wo sh va k) k (wo k * sh k)
/-- setSteps: the inner loop, j lasts are through -/
def ac_ssi (cents : Nat → Nat → Int64) (b : Nat) (f : Nat → Int64) : Nat → Nat → Int64
  | 0 => f
  | j + 1 => vp_updL (ac_ssi cents b f j) (ac_pl j b) (cents j b * 27720)
def ac_sso (cents : Nat → Nat → Int64) (n : Nat) (f : Nat → Int64) : Nat → Nat → Int64
  | 0 => f
  | b + 1 => ac_ssi cents b (ac_sso cents n f b) (n + 1)
def ac_mby (mo stp : Nat → Int64) (j s b : Nat) : Int64 := mo ((s ||| 2 ^ b) * 10 + b) - stp (ac_pl j b)
def ac_max (x y : Int64) : Int64 := if y < x then x else y
def ac_mfrom (mo stp : Nat → Int64) (j s : Nat) (nexts : Int32) (ed : Int64) : Nat → Int64
  | 0 => ed
  | b + 1 => if ac_has nexts (nI b) = 0 then ac_mfrom mo stp j s nexts ed b else ac_max (ac_mfrom mo stp j s nexts ed b) (ac_mby mo stp j s b)
def ac_endl (va : Nat → Int64) (whole : Int32) (e0 : Int64) : Nat → Int64
  | 0 => e0
  | k + 1 => if ac_has whole (nI k) = 0 then ac_endl va whole e0 k else ac_endl va whole e0 k + va k
def ac_end (fr rp : Nat → Int32) (rc va : Nat → Int64) (brk : Int32) (n nr : Nat) (set : Int32) : Int64 :=
  ac_endl va (ac_whole fr brk n set) (ac_restW rp rc nr (4095 &&& (ac_freed fr set n ^^^ (-1))) * 27720) 12
/-- setMost: the loop over the last acts -/
def ac_sml (stp : Nat → Int64) (s : Nat) (lasts nexts : Int32) (ed : Int64) (n : Nat) (mo : Nat → Int64) : Nat → Nat → Int64
  | 0 => mo
  | k + 1 => if ac_has lasts (nI k) = 0 then ac_sml stp s lasts nexts ed n mo k else vp_updL (ac_sml stp s lasts nexts ed n mo k) (s * 10 + k) (ac_mfrom (ac_sml stp s lasts nexts ed n mo k) stp (k + 1) s nexts ed n)
def ac_setMost (fr rp ne : Nat → Int32) (rc va stp : Nat → Int64) (brk : Int32) (n nr : Nat) (s : Nat) (mo : Nat → Int64) : Nat → Int64 :=
  if ac_lasts ne n (nI s) = 0 then mo else ac_sml stp s (ac_lasts ne n (nI s)) (ac_nexts ne (nI s) n) (ac_end fr rp rc va brk n nr (nI s)) n mo n
/-- greatestGain: the sets from s down to 1 -/
def ac_down (fr rp ne : Nat → Int32) (rc va stp : Nat → Int64) (brk : Int32) (n nr : Nat) : Nat → (Nat → Int64) → Nat → Int64
  | 0, mo => mo
  | s + 1, mo => ac_down fr rp ne rc va stp brk n nr s (ac_setMost fr rp ne rc va stp brk n nr (s + 1) mo)
/-- bestNext's search: n steps are left, at act k; 0 none, k + 1 act k -/
def ac_bnl (mo stp : Nat → Int64) (j s : Nat) (nexts : Int32) (best : Int64) : Nat → Nat → Nat
  | 0, _ => 0
  | n + 1, k => if ac_has nexts (nI k) = 0 then ac_bnl mo stp j s nexts best n (k + 1) else if ac_mby mo stp j s k = best then k + 1 else ac_bnl mo stp j s nexts best n (k + 1)
def ac_bn (fr rp ne : Nat → Int32) (rc va stp mo : Nat → Int64) (brk : Int32) (n nr : Nat) (s j : Nat) : Nat :=
  if ac_mfrom mo stp j s (ac_nexts ne (nI s) n) (ac_end fr rp rc va brk n nr (nI s)) n = ac_end fr rp rc va brk n nr (nI s) then 0
  else ac_bnl mo stp j s (ac_nexts ne (nI s) n) (ac_mfrom mo stp j s (ac_nexts ne (nI s) n) (ac_end fr rp rc va brk n nr (nI s)) n) n 0
theorem ac_bnl_le (mo stp : Nat → Int64) (j s : Nat) (nexts : Int32) (best : Int64) : ∀ n k, ac_bnl mo stp j s nexts best n k ≤ k + n
  | 0, k => Nat.zero_le _
  | n + 1, k => by
    have h := ac_bnl_le mo stp j s nexts best n (k + 1)
    rw [ac_bnl]
    split
    · omega
    · split
      · omega
      · omega
def ac_brg (va : Nat → Int64) (whole : Int32) (br : Nat → Int64) : Nat → Nat → Int64
  | 0 => br
  | k + 1 => if ac_has whole (nI k) = 0 then vp_updL (ac_brg va whole br k) k 0 else vp_updL (ac_brg va whole br k) k (va k)
-- the line
def ac_tot (ce : Nat → Int64) (set : Int32) : Nat → Int64
  | 0 => 0
  | k + 1 => if ac_has set (nI k) = 0 then ac_tot ce set k else ac_tot ce set k + ce k
def ac_dear (ce : Nat → Int64) (set : Int32) : Nat → Int64
  | 0 => 0
  | k + 1 => if ac_has set (nI k) = 0 then ac_dear ce set k else ac_max (ac_dear ce set k) (ce k)
def ac_least (ce : Nat → Int64) (set st : Int32) (n : Nat) : Int64 :=
  if st ≤ 0 then ac_tot ce set n else ac_max (ac_dear ce set n) ((ac_tot ce set n + st.toInt64 - 1) / st.toInt64)
def ac_keep (set : Int32) (tr told : Nat → Int32) : Nat → Nat → Int32
  | 0 => told
  | k + 1 => if ac_has set (nI k) = 0 then upd (ac_keep set tr told k) k (-1) else upd (ac_keep set tr told k) k (tr k)
def ac_imax (x y : Int32) : Int32 := if x < y then y else x
def ac_imin (x y : Int32) : Int32 := if y < x then y else x
def ac_early (set nd : Int32) (tr : Nat → Int32) : Nat → Int32
  | 0 => 0
  | k + 1 => if ac_has (set &&& nd) (nI k) = 0 then ac_early set nd tr k else ac_imax (ac_early set nd tr k) (tr k)
def ac_late (set st a : Int32) (ne tr : Nat → Int32) : Nat → Int32
  | 0 => st - 1
  | k + 1 => if ac_has set (nI k) = 0 then ac_late set st a ne tr k else if ac_has (ne k) a = 0 then ac_late set st a ne tr k else ac_imin (ac_late set st a ne tr k) (tr k)
theorem am_p2 {n : Nat} (h : n ≤ 10) : 1 ≤ 2 ^ n ∧ 2 ^ n ≤ 1024 := ⟨Nat.one_le_two_pow, Nat.pow_le_pow_right (by decide) h⟩
theorem am_all {x : Int32} {n : Nat} (hx : x = nI n) (h : n ≤ 10) : ac_all x = nI (2 ^ n - 1) := by
  subst hx
  rw [ac_all, am_shl1 n (by omega)]
  exact pk_sub (am_p2 h).1
theorem am_ix6 {x y : Int32} (hx : ∃ t, t < 6 ∧ x = nI t) (hy : ∃ t, t < 6 ∧ y = nI t) : x * 6 + y = nI (x * 6 + y).toNatClampNeg ∧ (x * 6 + y).toNatClampNeg < 36 := by
  obtain ⟨t, ht, rfl⟩ := hx
  obtain ⟨u, hu, rfl⟩ := hy
  have e : nI t * 6 + nI u = nI (t * 6 + u) := by rw [show (6 : Int32) = nI 6 from rfl, pk_mul, nI_add]
  rw [e, nI_clamp (by omega)]
  exact ⟨rfl, by omega⟩
theorem am_or_lt {s b : Nat} (hs : s < 1024) (hb : b < 10) : s ||| 2 ^ b < 1024 := Nat.or_lt_two_pow (n := 10) hs (Nat.pow_lt_pow_right (by decide) hb)
theorem am_six {s b : Nat} (hb : b < 31) : (nI s ||| ((1 : Int32) <<< (nI b &&& 31))) * 10 + nI b = nI ((s ||| 2 ^ b) * 10 + b) := by
  rw [am_shl1 b hb, am_or, show (10 : Int32) = nI 10 from rfl, pk_mul, nI_add]
theorem ac_pl_lt : ∀ {j b : Nat}, j ≤ 10 → b < 10 → ac_pl j b < 110
  | 0, b, _, hb => by rw [ac_pl]; omega
  | j + 1, b, hj, hb => by rw [ac_pl]; omega
theorem ac_pl_eq0 (b : Nat) : (10 : Int32) * 10 + nI b = nI (ac_pl 0 b) := by
  rw [show (10 : Int32) * 10 = nI 100 from by decide +kernel, nI_add]; rfl
theorem ac_pl_eq1 (j b : Nat) : nI j * 10 + nI b = nI (ac_pl (j + 1) b) := by
  rw [show (10 : Int32) = nI 10 from rfl, pk_mul, nI_add]; rfl
/-- Integer.bitCount, as its text is -/
def ac_sr (x : Int32) (k : Int32) : Int32 := (x.toUInt32 >>> (k.toUInt32 &&& Int32.toUInt32 31)).toInt32
def ac_bc1 (x : Int32) : Int32 := x - (ac_sr x 1 &&& 1431655765)
def ac_bc2 (x : Int32) : Int32 := (x &&& 858993459) + (ac_sr x 2 &&& 858993459)
def ac_bc3 (x : Int32) : Int32 := (x + ac_sr x 4) &&& 252645135
def ac_bc4 (x : Int32) : Int32 := x + ac_sr x 8
def ac_bc5 (x : Int32) : Int32 := x + ac_sr x 16
def ac_bc (x : Int32) : Int32 := ac_bc5 (ac_bc4 (ac_bc3 (ac_bc2 (ac_bc1 x)))) &&& 63
def ac_count (ne : Nat → Int32) (n : Nat) : Nat → Int64
  | 0 => 1
  | k + 1 => ac_count ne n k + (ac_bc (ac_lasts ne n (nI (k + 1)))).toInt64
theorem am_lt16 {k : Nat} (h : k < 2 ^ 31) : nI k < 16 ↔ k < 16 := by rw [show (16 : Int32) = nI 16 from rfl, nI_ltI h (by decide)]
theorem am_ix10 (s k : Nat) : nI s * 10 + nI k = nI (s * 10 + k) := by rw [show (10 : Int32) = nI 10 from rfl, pk_mul, nI_add]
theorem ac_la_ge {x : Int32} {j n : Nat} (hx : x = nI n) (hn : n < 2 ^ 30) (hj : j < 2 ^ 30) : (x ≤ ac_la j) ↔ n + 1 ≤ j := by
  subst hx
  cases j with
  | zero =>
    refine ⟨fun h => ?_, fun h => by omega⟩
    have h1 := Int32.le_iff_toInt_le.mp h
    rw [nI_toInt (by omega), show (ac_la 0).toInt = -1 from by decide +kernel] at h1
    omega
  | succ j =>
    rw [show ac_la (j + 1) = nI j from rfl, nI_leI (by omega) (by omega)]
    omega
theorem ac_bn_le (fr rp ne : Nat → Int32) (rc va stp mo : Nat → Int64) (brk : Int32) (n nr s j : Nat) : ac_bn fr rp ne rc va stp mo brk n nr s j ≤ n := by
  unfold ac_bn
  split
  · exact Nat.zero_le _
  · have h := ac_bnl_le mo stp j s (ac_nexts ne (nI s) n) (ac_mfrom mo stp j s (ac_nexts ne (nI s) n) (ac_end fr rp rc va brk n nr (nI s)) n) n 0
    omega
/-- keepRow: the row so far, its length, its set, the next act -/
def ac_kr (bn : Nat → Nat → Nat) : Nat → (Nat → Int32) → Nat → Nat → Nat → (Nat → Int32) × Nat × Nat
  | 0, row, len, s, _ => (row, len, s)
  | _ + 1, row, len, s, 0 => (row, len, s)
  | n + 1, row, len, s, a + 1 => ac_kr bn n (upd row len (nI a)) (len + 1) (s ||| 2 ^ a) (bn (s ||| 2 ^ a) (a + 1))
theorem ac_kr_0 (bn : Nat → Nat → Nat) (n : Nat) (row : Nat → Int32) (len s : Nat) : ac_kr bn n row len s 0 = (row, len, s) := by
  cases n <;> rfl
theorem am_ne0 {x : Int32} (h : ¬ x ≤ 0) : ¬ x.toInt64 = 0 := by
  intro z
  apply h
  have h1 : x.toInt64.toInt = 0 := by rw [z]; rfl
  rw [Int32.toInt_toInt64] at h1
  exact Int32.le_iff_toInt_le.mpr (by rw [h1]; decide)
-- the face
abbrev ac_actOk (n x t d : Int32) (z : Int64) : Prop := ¬ 10 ≤ n ∧ (x = -1 ∨ ¬ ac_isPart x = 0) ∧ ¬ ac_isKind t = 0 ∧ ¬ ac_isKind d = 0 ∧ ¬ ac_isPrice z = 0
abbrev ac_befOk (n : Int32) (ne : Nat → Int32) (x y : Int32) : Prop := ¬ ac_hasAct n x = 0 ∧ ¬ ac_hasAct n y = 0 ∧ ¬ x = y ∧ ac_has (ne x.toNatClampNeg) y = 0
abbrev ac_movOk (x y : Int32) (z : Int64) : Prop := ¬ ac_isMove x y = 0 ∧ ¬ ac_isPrice z = 0
abbrev ac_worOk (x : Int32) (z : Int64) : Prop := ¬ ac_isPart x = 0 ∧ ¬ ac_isWorth z = 0
abbrev ac_rstOk (v z : Int64) (p : Nat) : Prop := ¬ v < 0 ∧ ¬ 4095 < v ∧ ¬ ac_isWorth z = 0 ∧ p < 16
abbrev ac_brkOk (n b x : Int32) : Prop := ¬ ac_hasAct n x = 0 ∧ ac_has b x = 0
abbrev ac_surOk (x : Int32) (u v : Int64) : Prop := ¬ ac_isPart x = 0 ∧ ¬ v < 1 ∧ ¬ 12 < v ∧ ¬ u < 0 ∧ u ≤ v
def ac_step (n : Int32) (row : Nat → Int32) (x : Int32) : Int32 := if x < 0 then -1 else if n ≤ x then -1 else row x.toNatClampNeg
def ac_gain (tot : Int64) (br : Nat → Int64) (x : Int32) : Int64 := if x = -1 then tot else if ac_isPart x = 0 then 0 else br x.toNatClampNeg
def ac_stn (told : Nat → Int32) (x : Int32) : Int32 := if x < 0 then -1 else if 10 ≤ x then -1 else told x.toNatClampNeg
def ac_bnd1 (rc : Nat → Int64) : Nat → Int64
  | 0 => 0
  | k + 1 => ac_max (ac_bnd1 rc k) (rc k * 27720)
def ac_bnd2 (wo sh : Nat → Int64) (b0 : Int64) : Nat → Int64
  | 0 => b0
  | k + 1 => ac_bnd2 wo sh b0 k + ac_max 0 (wo k * sh k)
theorem am_rng {n x : Int32} {k : Nat} (hn : n = nI k) (hk : k < 2 ^ 31) (h0 : ¬ x < 0) (h1 : ¬ n ≤ x) : ∃ z, z < k ∧ x = nI z := by
  obtain ⟨j, hj, rfl⟩ := nI_of h0
  rw [hn, nI_leI hk hj] at h1
  exact ⟨j, by omega, rfl⟩
theorem am_hasAct {n x : Int32} {k : Nat} (hn : n = nI k) (hk : k < 2 ^ 31) (h : ¬ ac_hasAct n x = 0) : ∃ z, z < k ∧ x = nI z := by
  unfold ac_hasAct at h
  split at h
  · exact absurd rfl h
  · split at h
    · exact absurd rfl h
    · exact am_rng hn hk (by assumption) (by assumption)
theorem am_isPart {x : Int32} (h : ¬ ac_isPart x = 0) : ∃ z, z < 12 ∧ x = nI z := by
  unfold ac_isPart at h
  split at h
  · exact absurd rfl h
  · split at h
    · exact absurd rfl h
    · exact am_rng (rfl : (12 : Int32) = nI 12) (by decide) (by assumption) (by assumption)
theorem am_isKind {x : Int32} (h : ¬ ac_isKind x = 0) : ∃ z, z < 6 ∧ x = nI z := by
  unfold ac_isKind at h
  split at h
  · exact absurd rfl h
  · split at h
    · exact absurd rfl h
    · exact am_rng (rfl : (6 : Int32) = nI 6) (by decide) (by assumption) (by assumption)
theorem am_isMove {x y : Int32} (h : ¬ ac_isMove x y = 0) : (∃ z, z < 6 ∧ x = nI z) ∧ ∃ z, z < 6 ∧ y = nI z := by
  unfold ac_isMove at h
  split at h
  · exact absurd rfl h
  · split at h
    · exact absurd rfl h
    · exact ⟨am_isKind (by assumption), am_isKind (by assumption)⟩
theorem am_lne0 {v : Int64} (h : ¬ v < 1) : ¬ v = 0 := fun z => h (by rw [z]; decide)
-- the planner's work and the row, of the whole state
def ac_rs (ai : Nat → Nat → Int32) (al : Nat → Nat → Int64) (na : Nat) : Nat → Int64 := ac_sso (ac_cents (ai 6) (ai 7) (al 8) (al 10) (al 11)) na (al 17) na
def ac_rd (fi : Nat → Int32) (ai : Nat → Nat → Int32) (al : Nat → Nat → Int64) (na nr : Nat) : Nat → Int64 := ac_down (ai 5) (ai 14) (ai 9) (al 15) (al 16) (ac_rs ai al na) (fi 1) na nr (2 ^ na - 1) (al 18)
def ac_rg (fi : Nat → Int32) (ai : Nat → Nat → Int32) (al : Nat → Nat → Int64) (na nr : Nat) : Int64 := ac_mfrom (ac_rd fi ai al na nr) (ac_rs ai al na) 0 0 (ac_nexts (ai 9) 0 na) (ac_end (ai 5) (ai 14) (al 15) (al 16) (fi 1) na nr 0) na
def ac_rk (fi : Nat → Int32) (ai : Nat → Nat → Int32) (al : Nat → Nat → Int64) (na nr : Nat) : (Nat → Int32) × Nat × Nat := ac_kr (ac_bn (ai 5) (ai 14) (ai 9) (al 15) (al 16) (al 17) (al 18) (fi 1) na nr) 10 (ai 19) 0 0 (ac_bn (ai 5) (ai 14) (ai 9) (al 15) (al 16) (al 17) (al 18) (fi 1) na nr 0 0)
def ac_rb (fi : Nat → Int32) (ai : Nat → Nat → Int32) (al : Nat → Nat → Int64) (na : Nat) (s : Int32) : Nat → Int64 := ac_brg (al 16) (ac_whole (ai 5) (fi 1) na s) (al 20) 12
/-- told, trial, loads, longest -/
abbrev ac_T : Type := (Nat → Int32) × (Nat → Int32) × (Nat → Int64) × Int64
def ac_tput (t : ac_T) (a p : Nat) (cen : Int64) : ac_T := (t.1, upd t.2.1 a (nI p), vp_updL t.2.2.1 p (t.2.2.1 p + cen), t.2.2.2)
def ac_toff (u : ac_T) (p : Nat) (cen : Int64) : ac_T := (u.1, u.2.1, vp_updL u.2.2.1 p (u.2.2.1 p - cen), u.2.2.2)
def ac_tl (go : Int64 → ac_T → ac_T) (cen least : Int64) (late : Int32) (a : Nat) (load : Int64) : Nat → Nat → ac_T → ac_T
  | 0, _, t => t
  | m + 1, p, t => if late < nI p then t else if t.2.2.2 ≤ least then t else if t.2.2.2 ≤ ac_max load (t.2.2.1 p + cen) then ac_tl go cen least late a load m (p + 1) t
    else ac_tl go cen least late a load m (p + 1) (ac_toff (go (ac_max load (t.2.2.1 p + cen)) (ac_tput t a p cen)) p cen)
def ac_try (ce : Nat → Int64) (ne : Nat → Int32) (set st : Int32) (least : Int64) (na : Nat) : Nat → Nat → Int64 → ac_T → ac_T
  | 0, _, load, t => (ac_keep set t.2.1 t.1 na, t.2.1, t.2.2.1, load)
  | n + 1, a, load, t => if ac_has set (nI a) = 0 then ac_try ce ne set st least na n (a + 1) load t
    else ac_tl (fun m u => ac_try ce ne set st least na n (a + 1) m u) (ce a) least (ac_late set st (nI a) ne t.2.1 a) a load (4 - (ac_early set (ne a) t.2.1 a).toNatClampNeg) (ac_early set (ne a) t.2.1 a).toNatClampNeg t
def ac_fillL (z : Int64) (f : Nat → Int64) : Nat → Nat → Int64
  | 0 => f
  | k + 1 => vp_updL (ac_fillL z f k) k z
def ac_fillI (z : Int32) (f : Nat → Int32) : Nat → Nat → Int32
  | 0 => f
  | k + 1 => upd (ac_fillI z f k) k z
theorem ac_early_nn (set nd : Int32) (tr : Nat → Int32) : ∀ k, ¬ ac_early set nd tr k < 0
  | 0 => by
    show ¬ (0 : Int32) < 0
    decide
  | k + 1 => by
    have h := ac_early_nn set nd tr k
    rw [ac_early]
    split
    · exact h
    · unfold ac_imax
      split
      · intro z
        exact h (Int32.lt_trans (by assumption) z)
      · exact h
theorem ac_late_le (set st a : Int32) (ne tr : Nat → Int32) : ∀ k, ac_late set st a ne tr k ≤ st - 1
  | 0 => Int32.le_refl _
  | k + 1 => by
    have h := ac_late_le set st a ne tr k
    rw [ac_late]
    split
    · exact h
    · split
      · exact h
      · unfold ac_imin
        split
        · exact Int32.le_of_lt (Int32.lt_of_lt_of_le (by assumption) h)
        · exact h
abbrev ac_tstOk (x : Int32) (z : Int64) : Prop := ¬ ac_isPart x = 0 ∧ ¬ ac_isPrice z = 0
def ac_tst (sh g1 g2 g3 z : Int64) : Int32 := if sh * g2 + (27720 - sh) * g3 - z * 27720 * 27720 ≤ g1 * 27720 then 0 else 1
theorem am_clamp {x : Int32} (h : ¬ x < 0) : x = nI x.toNatClampNeg := by
  obtain ⟨j, hj, rfl⟩ := nI_of h
  rw [nI_clamp hj]
theorem am_clamp_lt (x : Int32) : x.toNatClampNeg < 2 ^ 31 := by
  by_cases h : x < 0
  · have h1 : x.toInt < 0 := Int32.lt_iff_toInt_lt.mp h
    have h2 : x.toNatClampNeg = x.toInt.toNat := rfl
    omega
  · obtain ⟨j, hj, rfl⟩ := nI_of h
    rw [nI_clamp hj]
    exact hj
theorem am_p4 {x L : Int32} {st p : Nat} (hx : x = nI st) (hst : st ≤ 4) (hp : p < 2 ^ 31) (h1 : L ≤ x - 1) (h2 : ¬ L < nI p) : p < 4 := by
  subst hx
  have a1 := Int32.le_iff_toInt_le.mp h1
  have a2 : (nI p).toInt ≤ L.toInt := Int.not_lt.mp (fun z => h2 (Int32.lt_iff_toInt_lt.mpr z))
  rw [show nI st - 1 = nI st - nI 1 from rfl, pk_sub_toInt (by omega) (by omega)] at a1
  rw [nI_toInt hp] at a2
  omega
theorem ac_tl_s1 {go : Int64 → ac_T → ac_T} {cen least : Int64} {late : Int32} {a : Nat} {load : Int64} {m p : Nat} {t : ac_T} (h : late < nI p) : ac_tl go cen least late a load m p t = t := by
  cases m with
  | zero => rfl
  | succ m => rw [ac_tl, if_pos h]
theorem ac_tl_s2 {go : Int64 → ac_T → ac_T} {cen least : Int64} {late : Int32} {a : Nat} {load : Int64} {m p : Nat} {t : ac_T} (h : t.2.2.2 ≤ least) : ac_tl go cen least late a load m p t = t := by
  cases m with
  | zero => rfl
  | succ m =>
    rw [ac_tl]
    split
    · rfl
    · first | rfl | rw [if_pos h]
abbrev ac_stOk (any x : Int32) : Prop := ¬ any = 0 ∧ ¬ x < 1 ∧ x ≤ 4
theorem am_st4 {x : Int32} (h1 : ¬ x < 1) (h2 : x ≤ 4) : x = nI x.toNatClampNeg ∧ x.toNatClampNeg ≤ 4 := by
  have h0 : ¬ x < 0 := fun z => h1 (Int32.lt_iff_toInt_lt.mpr (Int.lt_trans (Int32.lt_iff_toInt_lt.mp z) (by decide)))
  obtain ⟨j, hj, rfl⟩ := nI_of h0
  rw [show (4 : Int32) = nI 4 from rfl, nI_leI hj (by decide)] at h2
  rw [nI_clamp hj]
  exact ⟨rfl, h2⟩
def ac_ai0 : Nat → Nat → Int32 := fun c => if c = 21 then ac_fillI (-1) (fun _ => 0) 10 else fun _ => 0
def ac_al0 : Nat → Nat → Int64 := fun c => if c = 13 then ac_fillL 27720 (fun _ => 0) 12 else fun _ => 0
def ac_w (ad : Nat → Nat) (cI cL : ClassId) (fi : Nat → Int32) (fl : Nat → Int64) (ai : Nat → Nat → Int32) (al : Nat → Nat → Int64) : va_W := [(ad 0, .inr (0, [.ref (ad 1), .ref (ad 2), .ref (ad 3), .ref (ad 4)])),
  (ad 1, .inr (1, [.int (fi 0), .ref (ad 5), .ref (ad 6), .ref (ad 7), .ref (ad 8), .ref (ad 9), .int (fi 1), .ref (ad 10), .ref (ad 11), .ref (ad 12), .ref (ad 13), .int (fi 2), .ref (ad 14), .ref (ad 15)])),
  (ad 2, .inr (2, [.ref (ad 1), .ref (ad 16), .ref (ad 17), .ref (ad 18)])),
  (ad 3, .inr (3, [.int (fi 3), .int (fi 4), .int (fi 5), .int (fi 6), .int (fi 7), .long (fl 0), .ref (ad 19), .ref (ad 20)])),
  (ad 4, .inr (4, [.ref (ad 21), .ref (ad 1), .ref (ad 22), .ref (ad 23), .int (fi 8), .int (fi 9), .long (fl 1), .long (fl 2)])),
  (ad 5, .inl (cI, 10, .inl (ai 5))),
  (ad 6, .inl (cI, 10, .inl (ai 6))),
  (ad 7, .inl (cI, 10, .inl (ai 7))),
  (ad 8, .inl (cL, 10, .inr (.inl (al 8)))),
  (ad 9, .inl (cI, 10, .inl (ai 9))),
  (ad 10, .inl (cL, 36, .inr (.inl (al 10)))),
  (ad 11, .inl (cL, 36, .inr (.inl (al 11)))),
  (ad 12, .inl (cL, 12, .inr (.inl (al 12)))),
  (ad 13, .inl (cL, 12, .inr (.inl (al 13)))),
  (ad 14, .inl (cI, 16, .inl (ai 14))),
  (ad 15, .inl (cL, 16, .inr (.inl (al 15)))),
  (ad 16, .inl (cL, 12, .inr (.inl (al 16)))),
  (ad 17, .inl (cL, 110, .inr (.inl (al 17)))),
  (ad 18, .inl (cL, 10240, .inr (.inl (al 18)))),
  (ad 19, .inl (cI, 10, .inl (ai 19))),
  (ad 20, .inl (cL, 12, .inr (.inl (al 20)))),
  (ad 21, .inl (cI, 10, .inl (ai 21))),
  (ad 22, .inl (cI, 10, .inl (ai 22))),
  (ad 23, .inl (cL, 4, .inr (.inl (al 23))))]
end
section
theorem dX0_init_0 : decode cX0_init 0 = .ok (.aload_n 0, 1) := by decide +kernel
theorem dX0_init_1 : decode cX0_init 1 = .ok (.invokespecial 3, 3) := by decide +kernel
theorem dX0_init_4 : decode cX0_init 4 = .ok (.aload_n 0, 1) := by decide +kernel
theorem dX0_init_5 : decode cX0_init 5 = .ok (.new 9, 3) := by decide +kernel
theorem dX0_init_8 : decode cX0_init 8 = .ok (.dup, 1) := by decide +kernel
theorem dX0_init_9 : decode cX0_init 9 = .ok (.invokespecial 11, 3) := by decide +kernel
theorem dX0_init_12 : decode cX0_init 12 = .ok (.putfield 12, 3) := by decide +kernel
theorem dX0_init_15 : decode cX0_init 15 = .ok (.aload_n 0, 1) := by decide +kernel
theorem dX0_init_16 : decode cX0_init 16 = .ok (.new 16, 3) := by decide +kernel
theorem dX0_init_19 : decode cX0_init 19 = .ok (.dup, 1) := by decide +kernel
theorem dX0_init_20 : decode cX0_init 20 = .ok (.aload_n 0, 1) := by decide +kernel
theorem dX0_init_21 : decode cX0_init 21 = .ok (.getfield 12, 3) := by decide +kernel
theorem dX0_init_24 : decode cX0_init 24 = .ok (.invokespecial 18, 3) := by decide +kernel
theorem dX0_init_27 : decode cX0_init 27 = .ok (.putfield 21, 3) := by decide +kernel
theorem dX0_init_30 : decode cX0_init 30 = .ok (.aload_n 0, 1) := by decide +kernel
theorem dX0_init_31 : decode cX0_init 31 = .ok (.new 25, 3) := by decide +kernel
theorem dX0_init_34 : decode cX0_init 34 = .ok (.dup, 1) := by decide +kernel
theorem dX0_init_35 : decode cX0_init 35 = .ok (.invokespecial 27, 3) := by decide +kernel
theorem dX0_init_38 : decode cX0_init 38 = .ok (.putfield 28, 3) := by decide +kernel
theorem dX0_init_41 : decode cX0_init 41 = .ok (.aload_n 0, 1) := by decide +kernel
theorem dX0_init_42 : decode cX0_init 42 = .ok (.new 32, 3) := by decide +kernel
theorem dX0_init_45 : decode cX0_init 45 = .ok (.dup, 1) := by decide +kernel
theorem dX0_init_46 : decode cX0_init 46 = .ok (.aload_n 0, 1) := by decide +kernel
theorem dX0_init_47 : decode cX0_init 47 = .ok (.getfield 12, 3) := by decide +kernel
theorem dX0_init_50 : decode cX0_init 50 = .ok (.invokespecial 34, 3) := by decide +kernel
theorem dX0_init_53 : decode cX0_init 53 = .ok (.putfield 35, 3) := by decide +kernel
theorem dX0_init_56 : decode cX0_init 56 = .ok (.return_, 1) := by decide +kernel
theorem dJA_fillJ_0 : decode cJA_fillJ 0 = .ok (.iconst 0, 1) := by decide +kernel
theorem dJA_fillJ_1 : decode cJA_fillJ 1 = .ok (.istore_n 3, 1) := by decide +kernel
theorem dJA_fillJ_2 : decode cJA_fillJ 2 = .ok (.aload_n 0, 1) := by decide +kernel
theorem dJA_fillJ_3 : decode cJA_fillJ 3 = .ok (.arraylength, 1) := by decide +kernel
theorem dJA_fillJ_4 : decode cJA_fillJ 4 = .ok (.istore 4, 2) := by decide +kernel
theorem dJA_fillJ_6 : decode cJA_fillJ 6 = .ok (.iload_n 3, 1) := by decide +kernel
theorem dJA_fillJ_7 : decode cJA_fillJ 7 = .ok (.iload 4, 2) := by decide +kernel
theorem dJA_fillJ_9 : decode cJA_fillJ 9 = .ok (.if_icmp .ge 13, 3) := by decide +kernel
theorem dJA_fillJ_12 : decode cJA_fillJ 12 = .ok (.aload_n 0, 1) := by decide +kernel
theorem dJA_fillJ_13 : decode cJA_fillJ 13 = .ok (.iload_n 3, 1) := by decide +kernel
theorem dJA_fillJ_14 : decode cJA_fillJ 14 = .ok (.lload_n 1, 1) := by decide +kernel
theorem dJA_fillJ_15 : decode cJA_fillJ 15 = .ok (.lastore, 1) := by decide +kernel
theorem dJA_fillJ_16 : decode cJA_fillJ 16 = .ok (.iinc 3 1, 3) := by decide +kernel
theorem dJA_fillJ_19 : decode cJA_fillJ 19 = .ok (.goto (-13), 3) := by decide +kernel
theorem dJA_fillJ_22 : decode cJA_fillJ 22 = .ok (.return_, 1) := by decide +kernel
theorem dJA_fillI_0 : decode cJA_fillI 0 = .ok (.iconst 0, 1) := by decide +kernel
theorem dJA_fillI_1 : decode cJA_fillI 1 = .ok (.istore_n 2, 1) := by decide +kernel
theorem dJA_fillI_2 : decode cJA_fillI 2 = .ok (.aload_n 0, 1) := by decide +kernel
theorem dJA_fillI_3 : decode cJA_fillI 3 = .ok (.arraylength, 1) := by decide +kernel
theorem dJA_fillI_4 : decode cJA_fillI 4 = .ok (.istore_n 3, 1) := by decide +kernel
theorem dJA_fillI_5 : decode cJA_fillI 5 = .ok (.iload_n 2, 1) := by decide +kernel
theorem dJA_fillI_6 : decode cJA_fillI 6 = .ok (.iload_n 3, 1) := by decide +kernel
theorem dJA_fillI_7 : decode cJA_fillI 7 = .ok (.if_icmp .ge 13, 3) := by decide +kernel
theorem dJA_fillI_10 : decode cJA_fillI 10 = .ok (.aload_n 0, 1) := by decide +kernel
theorem dJA_fillI_11 : decode cJA_fillI 11 = .ok (.iload_n 2, 1) := by decide +kernel
theorem dJA_fillI_12 : decode cJA_fillI 12 = .ok (.iload_n 1, 1) := by decide +kernel
theorem dJA_fillI_13 : decode cJA_fillI 13 = .ok (.iastore, 1) := by decide +kernel
theorem dJA_fillI_14 : decode cJA_fillI 14 = .ok (.iinc 2 1, 3) := by decide +kernel
theorem dJA_fillI_17 : decode cJA_fillI 17 = .ok (.goto (-12), 3) := by decide +kernel
theorem dJA_fillI_20 : decode cJA_fillI 20 = .ok (.return_, 1) := by decide +kernel
theorem dX0_act_0 : decode cX0_act 0 = .ok (.iload_n 1, 1) := by decide +kernel
theorem dX0_act_1 : decode cX0_act 1 = .ok (.iconst (-1), 1) := by decide +kernel
theorem dX0_act_2 : decode cX0_act 2 = .ok (.if_icmp .eq 10, 3) := by decide +kernel
theorem dX0_act_5 : decode cX0_act 5 = .ok (.iload_n 1, 1) := by decide +kernel
theorem dX0_act_6 : decode cX0_act 6 = .ok (.invokestatic 39, 3) := by decide +kernel
theorem dX0_act_9 : decode cX0_act 9 = .ok (.ifCond .eq 7, 3) := by decide +kernel
theorem dX0_act_12 : decode cX0_act 12 = .ok (.iconst 1, 1) := by decide +kernel
theorem dX0_act_13 : decode cX0_act 13 = .ok (.goto 4, 3) := by decide +kernel
theorem dX0_act_16 : decode cX0_act 16 = .ok (.iconst 0, 1) := by decide +kernel
theorem dX0_act_17 : decode cX0_act 17 = .ok (.istore 6, 2) := by decide +kernel
theorem dX0_act_19 : decode cX0_act 19 = .ok (.aload_n 0, 1) := by decide +kernel
theorem dX0_act_20 : decode cX0_act 20 = .ok (.getfield 12, 3) := by decide +kernel
theorem dX0_act_23 : decode cX0_act 23 = .ok (.getfield 43, 3) := by decide +kernel
theorem dX0_act_26 : decode cX0_act 26 = .ok (.bipush 10, 2) := by decide +kernel
theorem dX0_act_28 : decode cX0_act 28 = .ok (.if_icmp .ge 30, 3) := by decide +kernel
theorem dX0_act_31 : decode cX0_act 31 = .ok (.iload 6, 2) := by decide +kernel
theorem dX0_act_33 : decode cX0_act 33 = .ok (.ifCond .eq 25, 3) := by decide +kernel
theorem dX0_act_36 : decode cX0_act 36 = .ok (.iload_n 2, 1) := by decide +kernel
theorem dX0_act_37 : decode cX0_act 37 = .ok (.invokestatic 47, 3) := by decide +kernel
theorem dX0_act_40 : decode cX0_act 40 = .ok (.ifCond .eq 18, 3) := by decide +kernel
theorem dX0_act_43 : decode cX0_act 43 = .ok (.iload_n 3, 1) := by decide +kernel
theorem dX0_act_44 : decode cX0_act 44 = .ok (.invokestatic 47, 3) := by decide +kernel
theorem dX0_act_47 : decode cX0_act 47 = .ok (.ifCond .eq 11, 3) := by decide +kernel
theorem dX0_act_50 : decode cX0_act 50 = .ok (.lload 4, 2) := by decide +kernel
theorem dX0_act_52 : decode cX0_act 52 = .ok (.invokestatic 50, 3) := by decide +kernel
theorem dX0_act_55 : decode cX0_act 55 = .ok (.ifCond .ne 5, 3) := by decide +kernel
theorem dX0_act_58 : decode cX0_act 58 = .ok (.iconst (-1), 1) := by decide +kernel
theorem dX0_act_59 : decode cX0_act 59 = .ok (.ireturn, 1) := by decide +kernel
theorem dX0_act_60 : decode cX0_act 60 = .ok (.aload_n 0, 1) := by decide +kernel
theorem dX0_act_61 : decode cX0_act 61 = .ok (.getfield 28, 3) := by decide +kernel
theorem dX0_act_64 : decode cX0_act 64 = .ok (.iconst 0, 1) := by decide +kernel
theorem dX0_act_65 : decode cX0_act 65 = .ok (.putfield 54, 3) := by decide +kernel
theorem dX0_act_68 : decode cX0_act 68 = .ok (.aload_n 0, 1) := by decide +kernel
theorem dX0_act_69 : decode cX0_act 69 = .ok (.getfield 12, 3) := by decide +kernel
theorem dX0_act_72 : decode cX0_act 72 = .ok (.iload_n 1, 1) := by decide +kernel
theorem dX0_act_73 : decode cX0_act 73 = .ok (.iload_n 2, 1) := by decide +kernel
theorem dX0_act_74 : decode cX0_act 74 = .ok (.iload_n 3, 1) := by decide +kernel
theorem dX0_act_75 : decode cX0_act 75 = .ok (.lload 4, 2) := by decide +kernel
theorem dX0_act_77 : decode cX0_act 77 = .ok (.invokevirtual 58, 3) := by decide +kernel
theorem dX0_act_80 : decode cX0_act 80 = .ok (.ireturn, 1) := by decide +kernel
theorem dX0_isPart_0 : decode cX0_isPart 0 = .ok (.iload_n 0, 1) := by decide +kernel
theorem dX0_isPart_1 : decode cX0_isPart 1 = .ok (.ifCond .lt 13, 3) := by decide +kernel
theorem dX0_isPart_4 : decode cX0_isPart 4 = .ok (.iload_n 0, 1) := by decide +kernel
theorem dX0_isPart_5 : decode cX0_isPart 5 = .ok (.bipush 12, 2) := by decide +kernel
theorem dX0_isPart_7 : decode cX0_isPart 7 = .ok (.if_icmp .ge 7, 3) := by decide +kernel
theorem dX0_isPart_10 : decode cX0_isPart 10 = .ok (.iconst 1, 1) := by decide +kernel
theorem dX0_isPart_11 : decode cX0_isPart 11 = .ok (.goto 4, 3) := by decide +kernel
theorem dX0_isPart_14 : decode cX0_isPart 14 = .ok (.iconst 0, 1) := by decide +kernel
theorem dX0_isPart_15 : decode cX0_isPart 15 = .ok (.ireturn, 1) := by decide +kernel
theorem dX0_isKind_0 : decode cX0_isKind 0 = .ok (.iload_n 0, 1) := by decide +kernel
theorem dX0_isKind_1 : decode cX0_isKind 1 = .ok (.ifCond .lt 13, 3) := by decide +kernel
theorem dX0_isKind_4 : decode cX0_isKind 4 = .ok (.iload_n 0, 1) := by decide +kernel
theorem dX0_isKind_5 : decode cX0_isKind 5 = .ok (.bipush 6, 2) := by decide +kernel
theorem dX0_isKind_7 : decode cX0_isKind 7 = .ok (.if_icmp .ge 7, 3) := by decide +kernel
theorem dX0_isKind_10 : decode cX0_isKind 10 = .ok (.iconst 1, 1) := by decide +kernel
theorem dX0_isKind_11 : decode cX0_isKind 11 = .ok (.goto 4, 3) := by decide +kernel
theorem dX0_isKind_14 : decode cX0_isKind 14 = .ok (.iconst 0, 1) := by decide +kernel
theorem dX0_isKind_15 : decode cX0_isKind 15 = .ok (.ireturn, 1) := by decide +kernel
theorem dX0_isPrice_0 : decode cX0_isPrice 0 = .ok (.lload_n 0, 1) := by decide +kernel
theorem dX0_isPrice_1 : decode cX0_isPrice 1 = .ok (.lconst 0, 1) := by decide +kernel
theorem dX0_isPrice_2 : decode cX0_isPrice 2 = .ok (.lcmp, 1) := by decide +kernel
theorem dX0_isPrice_3 : decode cX0_isPrice 3 = .ok (.ifCond .lt 15, 3) := by decide +kernel
theorem dX0_isPrice_6 : decode cX0_isPrice 6 = .ok (.lload_n 0, 1) := by decide +kernel
theorem dX0_isPrice_7 : decode cX0_isPrice 7 = .ok (.ldc2_w 180, 3) := by decide +kernel
theorem dX0_isPrice_10 : decode cX0_isPrice 10 = .ok (.lcmp, 1) := by decide +kernel
theorem dX0_isPrice_11 : decode cX0_isPrice 11 = .ok (.ifCond .gt 7, 3) := by decide +kernel
theorem dX0_isPrice_14 : decode cX0_isPrice 14 = .ok (.iconst 1, 1) := by decide +kernel
theorem dX0_isPrice_15 : decode cX0_isPrice 15 = .ok (.goto 4, 3) := by decide +kernel
theorem dX0_isPrice_18 : decode cX0_isPrice 18 = .ok (.iconst 0, 1) := by decide +kernel
theorem dX0_isPrice_19 : decode cX0_isPrice 19 = .ok (.ireturn, 1) := by decide +kernel
theorem dX0_before_0 : decode cX0_before 0 = .ok (.aload_n 0, 1) := by decide +kernel
theorem dX0_before_1 : decode cX0_before 1 = .ok (.getfield 12, 3) := by decide +kernel
theorem dX0_before_4 : decode cX0_before 4 = .ok (.iload_n 1, 1) := by decide +kernel
theorem dX0_before_5 : decode cX0_before 5 = .ok (.invokevirtual 62, 3) := by decide +kernel
theorem dX0_before_8 : decode cX0_before 8 = .ok (.ifCond .eq 35, 3) := by decide +kernel
theorem dX0_before_11 : decode cX0_before 11 = .ok (.aload_n 0, 1) := by decide +kernel
theorem dX0_before_12 : decode cX0_before 12 = .ok (.getfield 12, 3) := by decide +kernel
theorem dX0_before_15 : decode cX0_before 15 = .ok (.iload_n 2, 1) := by decide +kernel
theorem dX0_before_16 : decode cX0_before 16 = .ok (.invokevirtual 62, 3) := by decide +kernel
theorem dX0_before_19 : decode cX0_before 19 = .ok (.ifCond .eq 24, 3) := by decide +kernel
theorem dX0_before_22 : decode cX0_before 22 = .ok (.iload_n 1, 1) := by decide +kernel
theorem dX0_before_23 : decode cX0_before 23 = .ok (.iload_n 2, 1) := by decide +kernel
theorem dX0_before_24 : decode cX0_before 24 = .ok (.if_icmp .eq 19, 3) := by decide +kernel
theorem dX0_before_27 : decode cX0_before 27 = .ok (.aload_n 0, 1) := by decide +kernel
theorem dX0_before_28 : decode cX0_before 28 = .ok (.getfield 12, 3) := by decide +kernel
theorem dX0_before_31 : decode cX0_before 31 = .ok (.getfield 65, 3) := by decide +kernel
theorem dX0_before_34 : decode cX0_before 34 = .ok (.iload_n 1, 1) := by decide +kernel
theorem dX0_before_35 : decode cX0_before 35 = .ok (.iaload, 1) := by decide +kernel
theorem dX0_before_36 : decode cX0_before 36 = .ok (.iload_n 2, 1) := by decide +kernel
theorem dX0_before_37 : decode cX0_before 37 = .ok (.invokestatic 69, 3) := by decide +kernel
theorem dX0_before_40 : decode cX0_before 40 = .ok (.ifCond .eq 5, 3) := by decide +kernel
theorem dX0_before_43 : decode cX0_before 43 = .ok (.iconst 0, 1) := by decide +kernel
theorem dX0_before_44 : decode cX0_before 44 = .ok (.ireturn, 1) := by decide +kernel
theorem dX0_before_45 : decode cX0_before 45 = .ok (.aload_n 0, 1) := by decide +kernel
theorem dX0_before_46 : decode cX0_before 46 = .ok (.getfield 12, 3) := by decide +kernel
theorem dX0_before_49 : decode cX0_before 49 = .ok (.iload_n 1, 1) := by decide +kernel
theorem dX0_before_50 : decode cX0_before 50 = .ok (.iload_n 2, 1) := by decide +kernel
theorem dX0_before_51 : decode cX0_before 51 = .ok (.invokevirtual 73, 3) := by decide +kernel
theorem dX0_before_54 : decode cX0_before 54 = .ok (.aload_n 0, 1) := by decide +kernel
theorem dX0_before_55 : decode cX0_before 55 = .ok (.getfield 28, 3) := by decide +kernel
theorem dX0_before_58 : decode cX0_before 58 = .ok (.iconst 0, 1) := by decide +kernel
theorem dX0_before_59 : decode cX0_before 59 = .ok (.putfield 54, 3) := by decide +kernel
theorem dX0_before_62 : decode cX0_before 62 = .ok (.iconst 1, 1) := by decide +kernel
theorem dX0_before_63 : decode cX0_before 63 = .ok (.ireturn, 1) := by decide +kernel
theorem dX0_has_0 : decode cX0_has 0 = .ok (.iload_n 0, 1) := by decide +kernel
theorem dX0_has_1 : decode cX0_has 1 = .ok (.iload_n 1, 1) := by decide +kernel
theorem dX0_has_2 : decode cX0_has 2 = .ok (.ishr, 1) := by decide +kernel
theorem dX0_has_3 : decode cX0_has 3 = .ok (.iconst 1, 1) := by decide +kernel
theorem dX0_has_4 : decode cX0_has 4 = .ok (.iand, 1) := by decide +kernel
theorem dX0_has_5 : decode cX0_has 5 = .ok (.ifCond .eq 7, 3) := by decide +kernel
theorem dX0_has_8 : decode cX0_has 8 = .ok (.iconst 1, 1) := by decide +kernel
theorem dX0_has_9 : decode cX0_has 9 = .ok (.goto 4, 3) := by decide +kernel
theorem dX0_has_12 : decode cX0_has 12 = .ok (.iconst 0, 1) := by decide +kernel
theorem dX0_has_13 : decode cX0_has 13 = .ok (.ireturn, 1) := by decide +kernel
theorem dX0_change_0 : decode cX0_change 0 = .ok (.iload_n 1, 1) := by decide +kernel
theorem dX0_change_1 : decode cX0_change 1 = .ok (.iload_n 2, 1) := by decide +kernel
theorem dX0_change_2 : decode cX0_change 2 = .ok (.invokestatic 77, 3) := by decide +kernel
theorem dX0_change_5 : decode cX0_change 5 = .ok (.ifCond .eq 10, 3) := by decide +kernel
theorem dX0_change_8 : decode cX0_change 8 = .ok (.lload_n 3, 1) := by decide +kernel
theorem dX0_change_9 : decode cX0_change 9 = .ok (.invokestatic 50, 3) := by decide +kernel
theorem dX0_change_12 : decode cX0_change 12 = .ok (.ifCond .ne 5, 3) := by decide +kernel
theorem dX0_change_15 : decode cX0_change 15 = .ok (.iconst 0, 1) := by decide +kernel
theorem dX0_change_16 : decode cX0_change 16 = .ok (.ireturn, 1) := by decide +kernel
theorem dX0_change_17 : decode cX0_change 17 = .ok (.aload_n 0, 1) := by decide +kernel
theorem dX0_change_18 : decode cX0_change 18 = .ok (.getfield 12, 3) := by decide +kernel
theorem dX0_change_21 : decode cX0_change 21 = .ok (.getfield 80, 3) := by decide +kernel
theorem dX0_change_24 : decode cX0_change 24 = .ok (.iload_n 1, 1) := by decide +kernel
theorem dX0_change_25 : decode cX0_change 25 = .ok (.bipush 6, 2) := by decide +kernel
theorem dX0_change_27 : decode cX0_change 27 = .ok (.imul, 1) := by decide +kernel
theorem dX0_change_28 : decode cX0_change 28 = .ok (.iload_n 2, 1) := by decide +kernel
theorem dX0_change_29 : decode cX0_change 29 = .ok (.iadd, 1) := by decide +kernel
theorem dX0_change_30 : decode cX0_change 30 = .ok (.lload_n 3, 1) := by decide +kernel
theorem dX0_change_31 : decode cX0_change 31 = .ok (.lastore, 1) := by decide +kernel
theorem dX0_change_32 : decode cX0_change 32 = .ok (.aload_n 0, 1) := by decide +kernel
theorem dX0_change_33 : decode cX0_change 33 = .ok (.getfield 28, 3) := by decide +kernel
theorem dX0_change_36 : decode cX0_change 36 = .ok (.iconst 0, 1) := by decide +kernel
theorem dX0_change_37 : decode cX0_change 37 = .ok (.putfield 54, 3) := by decide +kernel
theorem dX0_change_40 : decode cX0_change 40 = .ok (.iconst 1, 1) := by decide +kernel
theorem dX0_change_41 : decode cX0_change 41 = .ok (.ireturn, 1) := by decide +kernel
theorem dX0_isMove_0 : decode cX0_isMove 0 = .ok (.iload_n 0, 1) := by decide +kernel
theorem dX0_isMove_1 : decode cX0_isMove 1 = .ok (.invokestatic 47, 3) := by decide +kernel
theorem dX0_isMove_4 : decode cX0_isMove 4 = .ok (.ifCond .eq 19, 3) := by decide +kernel
theorem dX0_isMove_7 : decode cX0_isMove 7 = .ok (.iload_n 1, 1) := by decide +kernel
theorem dX0_isMove_8 : decode cX0_isMove 8 = .ok (.invokestatic 47, 3) := by decide +kernel
theorem dX0_isMove_11 : decode cX0_isMove 11 = .ok (.ifCond .eq 12, 3) := by decide +kernel
theorem dX0_isMove_14 : decode cX0_isMove 14 = .ok (.iload_n 0, 1) := by decide +kernel
theorem dX0_isMove_15 : decode cX0_isMove 15 = .ok (.iload_n 1, 1) := by decide +kernel
theorem dX0_isMove_16 : decode cX0_isMove 16 = .ok (.if_icmp .eq 7, 3) := by decide +kernel
theorem dX0_isMove_19 : decode cX0_isMove 19 = .ok (.iconst 1, 1) := by decide +kernel
theorem dX0_isMove_20 : decode cX0_isMove 20 = .ok (.goto 4, 3) := by decide +kernel
theorem dX0_isMove_23 : decode cX0_isMove 23 = .ok (.iconst 0, 1) := by decide +kernel
theorem dX0_isMove_24 : decode cX0_isMove 24 = .ok (.ireturn, 1) := by decide +kernel
theorem dX0_turn_0 : decode cX0_turn 0 = .ok (.iload_n 1, 1) := by decide +kernel
theorem dX0_turn_1 : decode cX0_turn 1 = .ok (.iload_n 2, 1) := by decide +kernel
theorem dX0_turn_2 : decode cX0_turn 2 = .ok (.invokestatic 77, 3) := by decide +kernel
theorem dX0_turn_5 : decode cX0_turn 5 = .ok (.ifCond .eq 10, 3) := by decide +kernel
theorem dX0_turn_8 : decode cX0_turn 8 = .ok (.lload_n 3, 1) := by decide +kernel
theorem dX0_turn_9 : decode cX0_turn 9 = .ok (.invokestatic 50, 3) := by decide +kernel
theorem dX0_turn_12 : decode cX0_turn 12 = .ok (.ifCond .ne 5, 3) := by decide +kernel
theorem dX0_turn_15 : decode cX0_turn 15 = .ok (.iconst 0, 1) := by decide +kernel
theorem dX0_turn_16 : decode cX0_turn 16 = .ok (.ireturn, 1) := by decide +kernel
theorem dX0_turn_17 : decode cX0_turn 17 = .ok (.aload_n 0, 1) := by decide +kernel
theorem dX0_turn_18 : decode cX0_turn 18 = .ok (.getfield 12, 3) := by decide +kernel
theorem dX0_turn_21 : decode cX0_turn 21 = .ok (.getfield 84, 3) := by decide +kernel
theorem dX0_turn_24 : decode cX0_turn 24 = .ok (.iload_n 1, 1) := by decide +kernel
theorem dX0_turn_25 : decode cX0_turn 25 = .ok (.bipush 6, 2) := by decide +kernel
theorem dX0_turn_27 : decode cX0_turn 27 = .ok (.imul, 1) := by decide +kernel
theorem dX0_turn_28 : decode cX0_turn 28 = .ok (.iload_n 2, 1) := by decide +kernel
theorem dX0_turn_29 : decode cX0_turn 29 = .ok (.iadd, 1) := by decide +kernel
theorem dX0_turn_30 : decode cX0_turn 30 = .ok (.lload_n 3, 1) := by decide +kernel
theorem dX0_turn_31 : decode cX0_turn 31 = .ok (.lastore, 1) := by decide +kernel
theorem dX0_turn_32 : decode cX0_turn 32 = .ok (.aload_n 0, 1) := by decide +kernel
theorem dX0_turn_33 : decode cX0_turn 33 = .ok (.getfield 28, 3) := by decide +kernel
theorem dX0_turn_36 : decode cX0_turn 36 = .ok (.iconst 0, 1) := by decide +kernel
theorem dX0_turn_37 : decode cX0_turn 37 = .ok (.putfield 54, 3) := by decide +kernel
theorem dX0_turn_40 : decode cX0_turn 40 = .ok (.iconst 1, 1) := by decide +kernel
theorem dX0_turn_41 : decode cX0_turn 41 = .ok (.ireturn, 1) := by decide +kernel
theorem dX0_worth_0 : decode cX0_worth 0 = .ok (.iload_n 1, 1) := by decide +kernel
theorem dX0_worth_1 : decode cX0_worth 1 = .ok (.invokestatic 39, 3) := by decide +kernel
theorem dX0_worth_4 : decode cX0_worth 4 = .ok (.ifCond .eq 10, 3) := by decide +kernel
theorem dX0_worth_7 : decode cX0_worth 7 = .ok (.lload_n 2, 1) := by decide +kernel
theorem dX0_worth_8 : decode cX0_worth 8 = .ok (.invokestatic 87, 3) := by decide +kernel
theorem dX0_worth_11 : decode cX0_worth 11 = .ok (.ifCond .ne 5, 3) := by decide +kernel
theorem dX0_worth_14 : decode cX0_worth 14 = .ok (.iconst 0, 1) := by decide +kernel
theorem dX0_worth_15 : decode cX0_worth 15 = .ok (.ireturn, 1) := by decide +kernel
theorem dX0_worth_16 : decode cX0_worth 16 = .ok (.aload_n 0, 1) := by decide +kernel
theorem dX0_worth_17 : decode cX0_worth 17 = .ok (.getfield 12, 3) := by decide +kernel
theorem dX0_worth_20 : decode cX0_worth 20 = .ok (.getfield 90, 3) := by decide +kernel
theorem dX0_worth_23 : decode cX0_worth 23 = .ok (.iload_n 1, 1) := by decide +kernel
theorem dX0_worth_24 : decode cX0_worth 24 = .ok (.lload_n 2, 1) := by decide +kernel
theorem dX0_worth_25 : decode cX0_worth 25 = .ok (.lastore, 1) := by decide +kernel
theorem dX0_worth_26 : decode cX0_worth 26 = .ok (.aload_n 0, 1) := by decide +kernel
theorem dX0_worth_27 : decode cX0_worth 27 = .ok (.getfield 28, 3) := by decide +kernel
theorem dX0_worth_30 : decode cX0_worth 30 = .ok (.iconst 0, 1) := by decide +kernel
theorem dX0_worth_31 : decode cX0_worth 31 = .ok (.putfield 54, 3) := by decide +kernel
theorem dX0_worth_34 : decode cX0_worth 34 = .ok (.iconst 1, 1) := by decide +kernel
theorem dX0_worth_35 : decode cX0_worth 35 = .ok (.ireturn, 1) := by decide +kernel
theorem dX0_isWorth_0 : decode cX0_isWorth 0 = .ok (.lload_n 0, 1) := by decide +kernel
theorem dX0_isWorth_1 : decode cX0_isWorth 1 = .ok (.ldc2_w 182, 3) := by decide +kernel
theorem dX0_isWorth_4 : decode cX0_isWorth 4 = .ok (.lcmp, 1) := by decide +kernel
theorem dX0_isWorth_5 : decode cX0_isWorth 5 = .ok (.ifCond .lt 15, 3) := by decide +kernel
theorem dX0_isWorth_8 : decode cX0_isWorth 8 = .ok (.lload_n 0, 1) := by decide +kernel
theorem dX0_isWorth_9 : decode cX0_isWorth 9 = .ok (.ldc2_w 180, 3) := by decide +kernel
theorem dX0_isWorth_12 : decode cX0_isWorth 12 = .ok (.lcmp, 1) := by decide +kernel
theorem dX0_isWorth_13 : decode cX0_isWorth 13 = .ok (.ifCond .gt 7, 3) := by decide +kernel
theorem dX0_isWorth_16 : decode cX0_isWorth 16 = .ok (.iconst 1, 1) := by decide +kernel
theorem dX0_isWorth_17 : decode cX0_isWorth 17 = .ok (.goto 4, 3) := by decide +kernel
theorem dX0_isWorth_20 : decode cX0_isWorth 20 = .ok (.iconst 0, 1) := by decide +kernel
theorem dX0_isWorth_21 : decode cX0_isWorth 21 = .ok (.ireturn, 1) := by decide +kernel
theorem dX0_rest_0 : decode cX0_rest 0 = .ok (.lload_n 1, 1) := by decide +kernel
theorem dX0_rest_1 : decode cX0_rest 1 = .ok (.lconst 0, 1) := by decide +kernel
theorem dX0_rest_2 : decode cX0_rest 2 = .ok (.lcmp, 1) := by decide +kernel
theorem dX0_rest_3 : decode cX0_rest 3 = .ok (.ifCond .lt 31, 3) := by decide +kernel
theorem dX0_rest_6 : decode cX0_rest 6 = .ok (.lload_n 1, 1) := by decide +kernel
theorem dX0_rest_7 : decode cX0_rest 7 = .ok (.ldc2_w 93, 3) := by decide +kernel
theorem dX0_rest_10 : decode cX0_rest 10 = .ok (.lcmp, 1) := by decide +kernel
theorem dX0_rest_11 : decode cX0_rest 11 = .ok (.ifCond .gt 23, 3) := by decide +kernel
theorem dX0_rest_14 : decode cX0_rest 14 = .ok (.lload_n 3, 1) := by decide +kernel
theorem dX0_rest_15 : decode cX0_rest 15 = .ok (.invokestatic 87, 3) := by decide +kernel
theorem dX0_rest_18 : decode cX0_rest 18 = .ok (.ifCond .eq 16, 3) := by decide +kernel
theorem dX0_rest_21 : decode cX0_rest 21 = .ok (.aload_n 0, 1) := by decide +kernel
theorem dX0_rest_22 : decode cX0_rest 22 = .ok (.getfield 12, 3) := by decide +kernel
theorem dX0_rest_25 : decode cX0_rest 25 = .ok (.lload_n 1, 1) := by decide +kernel
theorem dX0_rest_26 : decode cX0_rest 26 = .ok (.l2i, 1) := by decide +kernel
theorem dX0_rest_27 : decode cX0_rest 27 = .ok (.lload_n 3, 1) := by decide +kernel
theorem dX0_rest_28 : decode cX0_rest 28 = .ok (.invokevirtual 95, 3) := by decide +kernel
theorem dX0_rest_31 : decode cX0_rest 31 = .ok (.ifCond .ne 5, 3) := by decide +kernel
theorem dX0_rest_34 : decode cX0_rest 34 = .ok (.iconst 0, 1) := by decide +kernel
theorem dX0_rest_35 : decode cX0_rest 35 = .ok (.ireturn, 1) := by decide +kernel
theorem dX0_rest_36 : decode cX0_rest 36 = .ok (.aload_n 0, 1) := by decide +kernel
theorem dX0_rest_37 : decode cX0_rest 37 = .ok (.getfield 28, 3) := by decide +kernel
theorem dX0_rest_40 : decode cX0_rest 40 = .ok (.iconst 0, 1) := by decide +kernel
theorem dX0_rest_41 : decode cX0_rest 41 = .ok (.putfield 54, 3) := by decide +kernel
theorem dX0_rest_44 : decode cX0_rest 44 = .ok (.iconst 1, 1) := by decide +kernel
theorem dX0_rest_45 : decode cX0_rest 45 = .ok (.ireturn, 1) := by decide +kernel
theorem dX0_breaks_0 : decode cX0_breaks 0 = .ok (.aload_n 0, 1) := by decide +kernel
theorem dX0_breaks_1 : decode cX0_breaks 1 = .ok (.getfield 12, 3) := by decide +kernel
theorem dX0_breaks_4 : decode cX0_breaks 4 = .ok (.iload_n 1, 1) := by decide +kernel
theorem dX0_breaks_5 : decode cX0_breaks 5 = .ok (.invokevirtual 62, 3) := by decide +kernel
theorem dX0_breaks_8 : decode cX0_breaks 8 = .ok (.ifCond .eq 17, 3) := by decide +kernel
theorem dX0_breaks_11 : decode cX0_breaks 11 = .ok (.aload_n 0, 1) := by decide +kernel
theorem dX0_breaks_12 : decode cX0_breaks 12 = .ok (.getfield 12, 3) := by decide +kernel
theorem dX0_breaks_15 : decode cX0_breaks 15 = .ok (.getfield 99, 3) := by decide +kernel
theorem dX0_breaks_18 : decode cX0_breaks 18 = .ok (.iload_n 1, 1) := by decide +kernel
theorem dX0_breaks_19 : decode cX0_breaks 19 = .ok (.invokestatic 69, 3) := by decide +kernel
theorem dX0_breaks_22 : decode cX0_breaks 22 = .ok (.ifCond .eq 5, 3) := by decide +kernel
theorem dX0_breaks_25 : decode cX0_breaks 25 = .ok (.iconst 0, 1) := by decide +kernel
theorem dX0_breaks_26 : decode cX0_breaks 26 = .ok (.ireturn, 1) := by decide +kernel
theorem dX0_breaks_27 : decode cX0_breaks 27 = .ok (.aload_n 0, 1) := by decide +kernel
theorem dX0_breaks_28 : decode cX0_breaks 28 = .ok (.getfield 12, 3) := by decide +kernel
theorem dX0_breaks_31 : decode cX0_breaks 31 = .ok (.dup, 1) := by decide +kernel
theorem dX0_breaks_32 : decode cX0_breaks 32 = .ok (.getfield 99, 3) := by decide +kernel
theorem dX0_breaks_35 : decode cX0_breaks 35 = .ok (.iconst 1, 1) := by decide +kernel
theorem dX0_breaks_36 : decode cX0_breaks 36 = .ok (.iload_n 1, 1) := by decide +kernel
theorem dX0_breaks_37 : decode cX0_breaks 37 = .ok (.ishl, 1) := by decide +kernel
theorem dX0_breaks_38 : decode cX0_breaks 38 = .ok (.ior, 1) := by decide +kernel
theorem dX0_breaks_39 : decode cX0_breaks 39 = .ok (.putfield 99, 3) := by decide +kernel
theorem dX0_breaks_42 : decode cX0_breaks 42 = .ok (.aload_n 0, 1) := by decide +kernel
theorem dX0_breaks_43 : decode cX0_breaks 43 = .ok (.getfield 28, 3) := by decide +kernel
theorem dX0_breaks_46 : decode cX0_breaks 46 = .ok (.iconst 0, 1) := by decide +kernel
theorem dX0_breaks_47 : decode cX0_breaks 47 = .ok (.putfield 54, 3) := by decide +kernel
theorem dX0_breaks_50 : decode cX0_breaks 50 = .ok (.iconst 1, 1) := by decide +kernel
theorem dX0_breaks_51 : decode cX0_breaks 51 = .ok (.ireturn, 1) := by decide +kernel
theorem dX0_sure_0 : decode cX0_sure 0 = .ok (.iload_n 1, 1) := by decide +kernel
theorem dX0_sure_1 : decode cX0_sure 1 = .ok (.invokestatic 39, 3) := by decide +kernel
theorem dX0_sure_4 : decode cX0_sure 4 = .ok (.ifCond .eq 32, 3) := by decide +kernel
theorem dX0_sure_7 : decode cX0_sure 7 = .ok (.lload 4, 2) := by decide +kernel
theorem dX0_sure_9 : decode cX0_sure 9 = .ok (.lconst 1, 1) := by decide +kernel
theorem dX0_sure_10 : decode cX0_sure 10 = .ok (.lcmp, 1) := by decide +kernel
theorem dX0_sure_11 : decode cX0_sure 11 = .ok (.ifCond .lt 25, 3) := by decide +kernel
theorem dX0_sure_14 : decode cX0_sure 14 = .ok (.lload 4, 2) := by decide +kernel
theorem dX0_sure_16 : decode cX0_sure 16 = .ok (.ldc2_w 102, 3) := by decide +kernel
theorem dX0_sure_19 : decode cX0_sure 19 = .ok (.lcmp, 1) := by decide +kernel
theorem dX0_sure_20 : decode cX0_sure 20 = .ok (.ifCond .gt 16, 3) := by decide +kernel
theorem dX0_sure_23 : decode cX0_sure 23 = .ok (.lload_n 2, 1) := by decide +kernel
theorem dX0_sure_24 : decode cX0_sure 24 = .ok (.lconst 0, 1) := by decide +kernel
theorem dX0_sure_25 : decode cX0_sure 25 = .ok (.lcmp, 1) := by decide +kernel
theorem dX0_sure_26 : decode cX0_sure 26 = .ok (.ifCond .lt 10, 3) := by decide +kernel
theorem dX0_sure_29 : decode cX0_sure 29 = .ok (.lload_n 2, 1) := by decide +kernel
theorem dX0_sure_30 : decode cX0_sure 30 = .ok (.lload 4, 2) := by decide +kernel
theorem dX0_sure_32 : decode cX0_sure 32 = .ok (.lcmp, 1) := by decide +kernel
theorem dX0_sure_33 : decode cX0_sure 33 = .ok (.ifCond .le 5, 3) := by decide +kernel
theorem dX0_sure_36 : decode cX0_sure 36 = .ok (.iconst 0, 1) := by decide +kernel
theorem dX0_sure_37 : decode cX0_sure 37 = .ok (.ireturn, 1) := by decide +kernel
theorem dX0_sure_38 : decode cX0_sure 38 = .ok (.aload_n 0, 1) := by decide +kernel
theorem dX0_sure_39 : decode cX0_sure 39 = .ok (.getfield 12, 3) := by decide +kernel
theorem dX0_sure_42 : decode cX0_sure 42 = .ok (.getfield 104, 3) := by decide +kernel
theorem dX0_sure_45 : decode cX0_sure 45 = .ok (.iload_n 1, 1) := by decide +kernel
theorem dX0_sure_46 : decode cX0_sure 46 = .ok (.ldc2_w 107, 3) := by decide +kernel
theorem dX0_sure_49 : decode cX0_sure 49 = .ok (.lload 4, 2) := by decide +kernel
theorem dX0_sure_51 : decode cX0_sure 51 = .ok (.ldiv, 1) := by decide +kernel
theorem dX0_sure_52 : decode cX0_sure 52 = .ok (.lload_n 2, 1) := by decide +kernel
theorem dX0_sure_53 : decode cX0_sure 53 = .ok (.lmul, 1) := by decide +kernel
theorem dX0_sure_54 : decode cX0_sure 54 = .ok (.lastore, 1) := by decide +kernel
theorem dX0_sure_55 : decode cX0_sure 55 = .ok (.aload_n 0, 1) := by decide +kernel
theorem dX0_sure_56 : decode cX0_sure 56 = .ok (.getfield 28, 3) := by decide +kernel
theorem dX0_sure_59 : decode cX0_sure 59 = .ok (.iconst 0, 1) := by decide +kernel
theorem dX0_sure_60 : decode cX0_sure 60 = .ok (.putfield 54, 3) := by decide +kernel
theorem dX0_sure_63 : decode cX0_sure 63 = .ok (.iconst 1, 1) := by decide +kernel
theorem dX0_sure_64 : decode cX0_sure 64 = .ok (.ireturn, 1) := by decide +kernel
theorem dX0_states_0 : decode cX0_states 0 = .ok (.aload_n 0, 1) := by decide +kernel
theorem dX0_states_1 : decode cX0_states 1 = .ok (.getfield 12, 3) := by decide +kernel
theorem dX0_states_4 : decode cX0_states 4 = .ok (.invokevirtual 109, 3) := by decide +kernel
theorem dX0_states_7 : decode cX0_states 7 = .ok (.lreturn, 1) := by decide +kernel
theorem dJI_bitCount_0 : decode cJI_bitCount 0 = .ok (.iload_n 0, 1) := by decide +kernel
theorem dJI_bitCount_1 : decode cJI_bitCount 1 = .ok (.iload_n 0, 1) := by decide +kernel
theorem dJI_bitCount_2 : decode cJI_bitCount 2 = .ok (.iconst 1, 1) := by decide +kernel
theorem dJI_bitCount_3 : decode cJI_bitCount 3 = .ok (.iushr, 1) := by decide +kernel
theorem dJI_bitCount_4 : decode cJI_bitCount 4 = .ok (.ldc_w 265, 3) := by decide +kernel
theorem dJI_bitCount_7 : decode cJI_bitCount 7 = .ok (.iand, 1) := by decide +kernel
theorem dJI_bitCount_8 : decode cJI_bitCount 8 = .ok (.isub, 1) := by decide +kernel
theorem dJI_bitCount_9 : decode cJI_bitCount 9 = .ok (.istore_n 0, 1) := by decide +kernel
theorem dJI_bitCount_10 : decode cJI_bitCount 10 = .ok (.iload_n 0, 1) := by decide +kernel
theorem dJI_bitCount_11 : decode cJI_bitCount 11 = .ok (.ldc_w 266, 3) := by decide +kernel
theorem dJI_bitCount_14 : decode cJI_bitCount 14 = .ok (.iand, 1) := by decide +kernel
theorem dJI_bitCount_15 : decode cJI_bitCount 15 = .ok (.iload_n 0, 1) := by decide +kernel
theorem dJI_bitCount_16 : decode cJI_bitCount 16 = .ok (.iconst 2, 1) := by decide +kernel
theorem dJI_bitCount_17 : decode cJI_bitCount 17 = .ok (.iushr, 1) := by decide +kernel
theorem dJI_bitCount_18 : decode cJI_bitCount 18 = .ok (.ldc_w 266, 3) := by decide +kernel
theorem dJI_bitCount_21 : decode cJI_bitCount 21 = .ok (.iand, 1) := by decide +kernel
theorem dJI_bitCount_22 : decode cJI_bitCount 22 = .ok (.iadd, 1) := by decide +kernel
theorem dJI_bitCount_23 : decode cJI_bitCount 23 = .ok (.istore_n 0, 1) := by decide +kernel
theorem dJI_bitCount_24 : decode cJI_bitCount 24 = .ok (.iload_n 0, 1) := by decide +kernel
theorem dJI_bitCount_25 : decode cJI_bitCount 25 = .ok (.iload_n 0, 1) := by decide +kernel
theorem dJI_bitCount_26 : decode cJI_bitCount 26 = .ok (.iconst 4, 1) := by decide +kernel
theorem dJI_bitCount_27 : decode cJI_bitCount 27 = .ok (.iushr, 1) := by decide +kernel
theorem dJI_bitCount_28 : decode cJI_bitCount 28 = .ok (.iadd, 1) := by decide +kernel
theorem dJI_bitCount_29 : decode cJI_bitCount 29 = .ok (.ldc_w 267, 3) := by decide +kernel
theorem dJI_bitCount_32 : decode cJI_bitCount 32 = .ok (.iand, 1) := by decide +kernel
theorem dJI_bitCount_33 : decode cJI_bitCount 33 = .ok (.istore_n 0, 1) := by decide +kernel
theorem dJI_bitCount_34 : decode cJI_bitCount 34 = .ok (.iload_n 0, 1) := by decide +kernel
theorem dJI_bitCount_35 : decode cJI_bitCount 35 = .ok (.iload_n 0, 1) := by decide +kernel
theorem dJI_bitCount_36 : decode cJI_bitCount 36 = .ok (.bipush 8, 2) := by decide +kernel
theorem dJI_bitCount_38 : decode cJI_bitCount 38 = .ok (.iushr, 1) := by decide +kernel
theorem dJI_bitCount_39 : decode cJI_bitCount 39 = .ok (.iadd, 1) := by decide +kernel
theorem dJI_bitCount_40 : decode cJI_bitCount 40 = .ok (.istore_n 0, 1) := by decide +kernel
theorem dJI_bitCount_41 : decode cJI_bitCount 41 = .ok (.iload_n 0, 1) := by decide +kernel
theorem dJI_bitCount_42 : decode cJI_bitCount 42 = .ok (.iload_n 0, 1) := by decide +kernel
theorem dJI_bitCount_43 : decode cJI_bitCount 43 = .ok (.bipush 16, 2) := by decide +kernel
theorem dJI_bitCount_45 : decode cJI_bitCount 45 = .ok (.iushr, 1) := by decide +kernel
theorem dJI_bitCount_46 : decode cJI_bitCount 46 = .ok (.iadd, 1) := by decide +kernel
theorem dJI_bitCount_47 : decode cJI_bitCount 47 = .ok (.istore_n 0, 1) := by decide +kernel
theorem dJI_bitCount_48 : decode cJI_bitCount 48 = .ok (.iload_n 0, 1) := by decide +kernel
theorem dJI_bitCount_49 : decode cJI_bitCount 49 = .ok (.bipush 63, 2) := by decide +kernel
theorem dJI_bitCount_51 : decode cJI_bitCount 51 = .ok (.iand, 1) := by decide +kernel
theorem dJI_bitCount_52 : decode cJI_bitCount 52 = .ok (.ireturn, 1) := by decide +kernel
theorem dX0_run_0 : decode cX0_run 0 = .ok (.aload_n 0, 1) := by decide +kernel
theorem dX0_run_1 : decode cX0_run 1 = .ok (.getfield 12, 3) := by decide +kernel
theorem dX0_run_4 : decode cX0_run 4 = .ok (.invokevirtual 109, 3) := by decide +kernel
theorem dX0_run_7 : decode cX0_run 7 = .ok (.lload_n 1, 1) := by decide +kernel
theorem dX0_run_8 : decode cX0_run 8 = .ok (.lcmp, 1) := by decide +kernel
theorem dX0_run_9 : decode cX0_run 9 = .ok (.ifCond .le 5, 3) := by decide +kernel
theorem dX0_run_12 : decode cX0_run 12 = .ok (.iconst (-1), 1) := by decide +kernel
theorem dX0_run_13 : decode cX0_run 13 = .ok (.ireturn, 1) := by decide +kernel
theorem dX0_run_14 : decode cX0_run 14 = .ok (.aload_n 0, 1) := by decide +kernel
theorem dX0_run_15 : decode cX0_run 15 = .ok (.getfield 21, 3) := by decide +kernel
theorem dX0_run_18 : decode cX0_run 18 = .ok (.invokevirtual 113, 3) := by decide +kernel
theorem dX0_run_21 : decode cX0_run 21 = .ok (.aload_n 0, 1) := by decide +kernel
theorem dX0_run_22 : decode cX0_run 22 = .ok (.getfield 28, 3) := by decide +kernel
theorem dX0_run_25 : decode cX0_run 25 = .ok (.aload_n 0, 1) := by decide +kernel
theorem dX0_run_26 : decode cX0_run 26 = .ok (.getfield 21, 3) := by decide +kernel
theorem dX0_run_29 : decode cX0_run 29 = .ok (.invokevirtual 116, 3) := by decide +kernel
theorem dX0_run_32 : decode cX0_run 32 = .ok (.putfield 119, 3) := by decide +kernel
theorem dX0_run_35 : decode cX0_run 35 = .ok (.aload_n 0, 1) := by decide +kernel
theorem dX0_run_36 : decode cX0_run 36 = .ok (.getfield 28, 3) := by decide +kernel
theorem dX0_run_39 : decode cX0_run 39 = .ok (.aload_n 0, 1) := by decide +kernel
theorem dX0_run_40 : decode cX0_run 40 = .ok (.getfield 21, 3) := by decide +kernel
theorem dX0_run_43 : decode cX0_run 43 = .ok (.invokevirtual 123, 3) := by decide +kernel
theorem dX0_run_46 : decode cX0_run 46 = .ok (.aload_n 0, 1) := by decide +kernel
theorem dX0_run_47 : decode cX0_run 47 = .ok (.getfield 28, 3) := by decide +kernel
theorem dX0_run_50 : decode cX0_run 50 = .ok (.getfield 127, 3) := by decide +kernel
theorem dX0_run_53 : decode cX0_run 53 = .ok (.ireturn, 1) := by decide +kernel
theorem dX0_step_0 : decode cX0_step 0 = .ok (.iload_n 1, 1) := by decide +kernel
theorem dX0_step_1 : decode cX0_step 1 = .ok (.ifCond .lt 26, 3) := by decide +kernel
theorem dX0_step_4 : decode cX0_step 4 = .ok (.iload_n 1, 1) := by decide +kernel
theorem dX0_step_5 : decode cX0_step 5 = .ok (.aload_n 0, 1) := by decide +kernel
theorem dX0_step_6 : decode cX0_step 6 = .ok (.getfield 28, 3) := by decide +kernel
theorem dX0_step_9 : decode cX0_step 9 = .ok (.getfield 127, 3) := by decide +kernel
theorem dX0_step_12 : decode cX0_step 12 = .ok (.if_icmp .ge 15, 3) := by decide +kernel
theorem dX0_step_15 : decode cX0_step 15 = .ok (.aload_n 0, 1) := by decide +kernel
theorem dX0_step_16 : decode cX0_step 16 = .ok (.getfield 28, 3) := by decide +kernel
theorem dX0_step_19 : decode cX0_step 19 = .ok (.getfield 130, 3) := by decide +kernel
theorem dX0_step_22 : decode cX0_step 22 = .ok (.iload_n 1, 1) := by decide +kernel
theorem dX0_step_23 : decode cX0_step 23 = .ok (.iaload, 1) := by decide +kernel
theorem dX0_step_24 : decode cX0_step 24 = .ok (.goto 4, 3) := by decide +kernel
theorem dX0_step_27 : decode cX0_step 27 = .ok (.iconst (-1), 1) := by decide +kernel
theorem dX0_step_28 : decode cX0_step 28 = .ok (.ireturn, 1) := by decide +kernel
theorem dX0_stops_0 : decode cX0_stops 0 = .ok (.aload_n 0, 1) := by decide +kernel
theorem dX0_stops_1 : decode cX0_stops 1 = .ok (.getfield 28, 3) := by decide +kernel
theorem dX0_stops_4 : decode cX0_stops 4 = .ok (.getfield 133, 3) := by decide +kernel
theorem dX0_stops_7 : decode cX0_stops 7 = .ok (.ifCond .eq 23, 3) := by decide +kernel
theorem dX0_stops_10 : decode cX0_stops 10 = .ok (.sipush 4095, 3) := by decide +kernel
theorem dX0_stops_13 : decode cX0_stops 13 = .ok (.aload_n 0, 1) := by decide +kernel
theorem dX0_stops_14 : decode cX0_stops 14 = .ok (.getfield 28, 3) := by decide +kernel
theorem dX0_stops_17 : decode cX0_stops 17 = .ok (.getfield 136, 3) := by decide +kernel
theorem dX0_stops_20 : decode cX0_stops 20 = .ok (.iconst (-1), 1) := by decide +kernel
theorem dX0_stops_21 : decode cX0_stops 21 = .ok (.ixor, 1) := by decide +kernel
theorem dX0_stops_22 : decode cX0_stops 22 = .ok (.iand, 1) := by decide +kernel
theorem dX0_stops_23 : decode cX0_stops 23 = .ok (.iload_n 1, 1) := by decide +kernel
theorem dX0_stops_24 : decode cX0_stops 24 = .ok (.invokestatic 139, 3) := by decide +kernel
theorem dX0_stops_27 : decode cX0_stops 27 = .ok (.goto 4, 3) := by decide +kernel
theorem dX0_stops_30 : decode cX0_stops 30 = .ok (.iconst (-1), 1) := by decide +kernel
theorem dX0_stops_31 : decode cX0_stops 31 = .ok (.ireturn, 1) := by decide +kernel
theorem dX0_member_0 : decode cX0_member 0 = .ok (.iconst 0, 1) := by decide +kernel
theorem dX0_member_1 : decode cX0_member 1 = .ok (.istore_n 2, 1) := by decide +kernel
theorem dX0_member_2 : decode cX0_member 2 = .ok (.iconst 0, 1) := by decide +kernel
theorem dX0_member_3 : decode cX0_member 3 = .ok (.istore_n 3, 1) := by decide +kernel
theorem dX0_member_4 : decode cX0_member 4 = .ok (.iload_n 3, 1) := by decide +kernel
theorem dX0_member_5 : decode cX0_member 5 = .ok (.bipush 12, 2) := by decide +kernel
theorem dX0_member_7 : decode cX0_member 7 = .ok (.if_icmp .ge 27, 3) := by decide +kernel
theorem dX0_member_10 : decode cX0_member 10 = .ok (.iload_n 0, 1) := by decide +kernel
theorem dX0_member_11 : decode cX0_member 11 = .ok (.iload_n 3, 1) := by decide +kernel
theorem dX0_member_12 : decode cX0_member 12 = .ok (.invokestatic 69, 3) := by decide +kernel
theorem dX0_member_15 : decode cX0_member 15 = .ok (.ifCond .eq 13, 3) := by decide +kernel
theorem dX0_member_18 : decode cX0_member 18 = .ok (.iload_n 2, 1) := by decide +kernel
theorem dX0_member_19 : decode cX0_member 19 = .ok (.iload_n 1, 1) := by decide +kernel
theorem dX0_member_20 : decode cX0_member 20 = .ok (.if_icmp .ne 5, 3) := by decide +kernel
theorem dX0_member_23 : decode cX0_member 23 = .ok (.iload_n 3, 1) := by decide +kernel
theorem dX0_member_24 : decode cX0_member 24 = .ok (.ireturn, 1) := by decide +kernel
theorem dX0_member_25 : decode cX0_member 25 = .ok (.iinc 2 1, 3) := by decide +kernel
theorem dX0_member_28 : decode cX0_member 28 = .ok (.iinc 3 1, 3) := by decide +kernel
theorem dX0_member_31 : decode cX0_member 31 = .ok (.goto (-27), 3) := by decide +kernel
theorem dX0_member_34 : decode cX0_member 34 = .ok (.iconst (-1), 1) := by decide +kernel
theorem dX0_member_35 : decode cX0_member 35 = .ok (.ireturn, 1) := by decide +kernel
theorem dX0_other_0 : decode cX0_other 0 = .ok (.aload_n 0, 1) := by decide +kernel
theorem dX0_other_1 : decode cX0_other 1 = .ok (.getfield 28, 3) := by decide +kernel
theorem dX0_other_4 : decode cX0_other 4 = .ok (.getfield 133, 3) := by decide +kernel
theorem dX0_other_7 : decode cX0_other 7 = .ok (.ifCond .eq 27, 3) := by decide +kernel
theorem dX0_other_10 : decode cX0_other 10 = .ok (.aload_n 0, 1) := by decide +kernel
theorem dX0_other_11 : decode cX0_other 11 = .ok (.getfield 12, 3) := by decide +kernel
theorem dX0_other_14 : decode cX0_other 14 = .ok (.invokevirtual 143, 3) := by decide +kernel
theorem dX0_other_17 : decode cX0_other 17 = .ok (.aload_n 0, 1) := by decide +kernel
theorem dX0_other_18 : decode cX0_other 18 = .ok (.getfield 28, 3) := by decide +kernel
theorem dX0_other_21 : decode cX0_other 21 = .ok (.getfield 147, 3) := by decide +kernel
theorem dX0_other_24 : decode cX0_other 24 = .ok (.iconst (-1), 1) := by decide +kernel
theorem dX0_other_25 : decode cX0_other 25 = .ok (.ixor, 1) := by decide +kernel
theorem dX0_other_26 : decode cX0_other 26 = .ok (.iand, 1) := by decide +kernel
theorem dX0_other_27 : decode cX0_other 27 = .ok (.iload_n 1, 1) := by decide +kernel
theorem dX0_other_28 : decode cX0_other 28 = .ok (.invokestatic 139, 3) := by decide +kernel
theorem dX0_other_31 : decode cX0_other 31 = .ok (.goto 4, 3) := by decide +kernel
theorem dX0_other_34 : decode cX0_other 34 = .ok (.iconst (-1), 1) := by decide +kernel
theorem dX0_other_35 : decode cX0_other 35 = .ok (.ireturn, 1) := by decide +kernel
theorem dX0_gain_0 : decode cX0_gain 0 = .ok (.iload_n 1, 1) := by decide +kernel
theorem dX0_gain_1 : decode cX0_gain 1 = .ok (.iconst (-1), 1) := by decide +kernel
theorem dX0_gain_2 : decode cX0_gain 2 = .ok (.if_icmp .ne 11, 3) := by decide +kernel
theorem dX0_gain_5 : decode cX0_gain 5 = .ok (.aload_n 0, 1) := by decide +kernel
theorem dX0_gain_6 : decode cX0_gain 6 = .ok (.getfield 28, 3) := by decide +kernel
theorem dX0_gain_9 : decode cX0_gain 9 = .ok (.getfield 119, 3) := by decide +kernel
theorem dX0_gain_12 : decode cX0_gain 12 = .ok (.lreturn, 1) := by decide +kernel
theorem dX0_gain_13 : decode cX0_gain 13 = .ok (.iload_n 1, 1) := by decide +kernel
theorem dX0_gain_14 : decode cX0_gain 14 = .ok (.invokestatic 39, 3) := by decide +kernel
theorem dX0_gain_17 : decode cX0_gain 17 = .ok (.ifCond .eq 15, 3) := by decide +kernel
theorem dX0_gain_20 : decode cX0_gain 20 = .ok (.aload_n 0, 1) := by decide +kernel
theorem dX0_gain_21 : decode cX0_gain 21 = .ok (.getfield 28, 3) := by decide +kernel
theorem dX0_gain_24 : decode cX0_gain 24 = .ok (.getfield 150, 3) := by decide +kernel
theorem dX0_gain_27 : decode cX0_gain 27 = .ok (.iload_n 1, 1) := by decide +kernel
theorem dX0_gain_28 : decode cX0_gain 28 = .ok (.laload, 1) := by decide +kernel
theorem dX0_gain_29 : decode cX0_gain 29 = .ok (.goto 4, 3) := by decide +kernel
theorem dX0_gain_32 : decode cX0_gain 32 = .ok (.lconst 0, 1) := by decide +kernel
theorem dX0_gain_33 : decode cX0_gain 33 = .ok (.lreturn, 1) := by decide +kernel
theorem dX0_proved_0 : decode cX0_proved 0 = .ok (.aload_n 0, 1) := by decide +kernel
theorem dX0_proved_1 : decode cX0_proved 1 = .ok (.getfield 28, 3) := by decide +kernel
theorem dX0_proved_4 : decode cX0_proved 4 = .ok (.getfield 133, 3) := by decide +kernel
theorem dX0_proved_7 : decode cX0_proved 7 = .ok (.ifCond .eq 17, 3) := by decide +kernel
theorem dX0_proved_10 : decode cX0_proved 10 = .ok (.aload_n 0, 1) := by decide +kernel
theorem dX0_proved_11 : decode cX0_proved 11 = .ok (.getfield 28, 3) := by decide +kernel
theorem dX0_proved_14 : decode cX0_proved 14 = .ok (.getfield 54, 3) := by decide +kernel
theorem dX0_proved_17 : decode cX0_proved 17 = .ok (.ifCond .eq 7, 3) := by decide +kernel
theorem dX0_proved_20 : decode cX0_proved 20 = .ok (.iconst 1, 1) := by decide +kernel
theorem dX0_proved_21 : decode cX0_proved 21 = .ok (.goto 4, 3) := by decide +kernel
theorem dX0_proved_24 : decode cX0_proved 24 = .ok (.iconst 0, 1) := by decide +kernel
theorem dX0_proved_25 : decode cX0_proved 25 = .ok (.ireturn, 1) := by decide +kernel
theorem dX0_bound_0 : decode cX0_bound 0 = .ok (.lconst 0, 1) := by decide +kernel
theorem dX0_bound_1 : decode cX0_bound 1 = .ok (.lstore_n 1, 1) := by decide +kernel
theorem dX0_bound_2 : decode cX0_bound 2 = .ok (.iconst 0, 1) := by decide +kernel
theorem dX0_bound_3 : decode cX0_bound 3 = .ok (.istore_n 3, 1) := by decide +kernel
theorem dX0_bound_4 : decode cX0_bound 4 = .ok (.iload_n 3, 1) := by decide +kernel
theorem dX0_bound_5 : decode cX0_bound 5 = .ok (.aload_n 0, 1) := by decide +kernel
theorem dX0_bound_6 : decode cX0_bound 6 = .ok (.getfield 12, 3) := by decide +kernel
theorem dX0_bound_9 : decode cX0_bound 9 = .ok (.getfield 153, 3) := by decide +kernel
theorem dX0_bound_12 : decode cX0_bound 12 = .ok (.if_icmp .ge 27, 3) := by decide +kernel
theorem dX0_bound_15 : decode cX0_bound 15 = .ok (.lload_n 1, 1) := by decide +kernel
theorem dX0_bound_16 : decode cX0_bound 16 = .ok (.aload_n 0, 1) := by decide +kernel
theorem dX0_bound_17 : decode cX0_bound 17 = .ok (.getfield 12, 3) := by decide +kernel
theorem dX0_bound_20 : decode cX0_bound 20 = .ok (.getfield 156, 3) := by decide +kernel
theorem dX0_bound_23 : decode cX0_bound 23 = .ok (.iload_n 3, 1) := by decide +kernel
theorem dX0_bound_24 : decode cX0_bound 24 = .ok (.laload, 1) := by decide +kernel
theorem dX0_bound_25 : decode cX0_bound 25 = .ok (.ldc2_w 107, 3) := by decide +kernel
theorem dX0_bound_28 : decode cX0_bound 28 = .ok (.lmul, 1) := by decide +kernel
theorem dX0_bound_29 : decode cX0_bound 29 = .ok (.invokestatic 159, 3) := by decide +kernel
theorem dX0_bound_32 : decode cX0_bound 32 = .ok (.lstore_n 1, 1) := by decide +kernel
theorem dX0_bound_33 : decode cX0_bound 33 = .ok (.iinc 3 1, 3) := by decide +kernel
theorem dX0_bound_36 : decode cX0_bound 36 = .ok (.goto (-32), 3) := by decide +kernel
theorem dX0_bound_39 : decode cX0_bound 39 = .ok (.iconst 0, 1) := by decide +kernel
theorem dX0_bound_40 : decode cX0_bound 40 = .ok (.istore_n 3, 1) := by decide +kernel
theorem dX0_bound_41 : decode cX0_bound 41 = .ok (.iload_n 3, 1) := by decide +kernel
theorem dX0_bound_42 : decode cX0_bound 42 = .ok (.bipush 12, 2) := by decide +kernel
theorem dX0_bound_44 : decode cX0_bound 44 = .ok (.if_icmp .ge 24, 3) := by decide +kernel
theorem dX0_bound_47 : decode cX0_bound 47 = .ok (.lload_n 1, 1) := by decide +kernel
theorem dX0_bound_48 : decode cX0_bound 48 = .ok (.lconst 0, 1) := by decide +kernel
theorem dX0_bound_49 : decode cX0_bound 49 = .ok (.aload_n 0, 1) := by decide +kernel
theorem dX0_bound_50 : decode cX0_bound 50 = .ok (.getfield 12, 3) := by decide +kernel
theorem dX0_bound_53 : decode cX0_bound 53 = .ok (.iload_n 3, 1) := by decide +kernel
theorem dX0_bound_54 : decode cX0_bound 54 = .ok (.invokevirtual 165, 3) := by decide +kernel
theorem dX0_bound_57 : decode cX0_bound 57 = .ok (.invokestatic 159, 3) := by decide +kernel
theorem dX0_bound_60 : decode cX0_bound 60 = .ok (.ladd, 1) := by decide +kernel
theorem dX0_bound_61 : decode cX0_bound 61 = .ok (.lstore_n 1, 1) := by decide +kernel
theorem dX0_bound_62 : decode cX0_bound 62 = .ok (.iinc 3 1, 3) := by decide +kernel
theorem dX0_bound_65 : decode cX0_bound 65 = .ok (.goto (-24), 3) := by decide +kernel
theorem dX0_bound_68 : decode cX0_bound 68 = .ok (.lload_n 1, 1) := by decide +kernel
theorem dX0_bound_69 : decode cX0_bound 69 = .ok (.lreturn, 1) := by decide +kernel
theorem dX0_test_0 : decode cX0_test 0 = .ok (.iload_n 1, 1) := by decide +kernel
theorem dX0_test_1 : decode cX0_test 1 = .ok (.invokestatic 39, 3) := by decide +kernel
theorem dX0_test_4 : decode cX0_test 4 = .ok (.ifCond .eq 10, 3) := by decide +kernel
theorem dX0_test_7 : decode cX0_test 7 = .ok (.lload_n 2, 1) := by decide +kernel
theorem dX0_test_8 : decode cX0_test 8 = .ok (.invokestatic 50, 3) := by decide +kernel
theorem dX0_test_11 : decode cX0_test 11 = .ok (.ifCond .ne 5, 3) := by decide +kernel
theorem dX0_test_14 : decode cX0_test 14 = .ok (.iconst (-1), 1) := by decide +kernel
theorem dX0_test_15 : decode cX0_test 15 = .ok (.ireturn, 1) := by decide +kernel
theorem dX0_test_16 : decode cX0_test 16 = .ok (.aload_n 0, 1) := by decide +kernel
theorem dX0_test_17 : decode cX0_test 17 = .ok (.getfield 21, 3) := by decide +kernel
theorem dX0_test_20 : decode cX0_test 20 = .ok (.invokevirtual 113, 3) := by decide +kernel
theorem dX0_test_23 : decode cX0_test 23 = .ok (.aload_n 0, 1) := by decide +kernel
theorem dX0_test_24 : decode cX0_test 24 = .ok (.getfield 21, 3) := by decide +kernel
theorem dX0_test_27 : decode cX0_test 27 = .ok (.invokevirtual 116, 3) := by decide +kernel
theorem dX0_test_30 : decode cX0_test 30 = .ok (.lstore 4, 2) := by decide +kernel
theorem dX0_test_32 : decode cX0_test 32 = .ok (.aload_n 0, 1) := by decide +kernel
theorem dX0_test_33 : decode cX0_test 33 = .ok (.getfield 21, 3) := by decide +kernel
theorem dX0_test_36 : decode cX0_test 36 = .ok (.iload_n 1, 1) := by decide +kernel
theorem dX0_test_37 : decode cX0_test 37 = .ok (.ldc2_w 107, 3) := by decide +kernel
theorem dX0_test_40 : decode cX0_test 40 = .ok (.invokevirtual 169, 3) := by decide +kernel
theorem dX0_test_43 : decode cX0_test 43 = .ok (.aload_n 0, 1) := by decide +kernel
theorem dX0_test_44 : decode cX0_test 44 = .ok (.getfield 21, 3) := by decide +kernel
theorem dX0_test_47 : decode cX0_test 47 = .ok (.invokevirtual 116, 3) := by decide +kernel
theorem dX0_test_50 : decode cX0_test 50 = .ok (.lstore 6, 2) := by decide +kernel
theorem dX0_test_52 : decode cX0_test 52 = .ok (.aload_n 0, 1) := by decide +kernel
theorem dX0_test_53 : decode cX0_test 53 = .ok (.getfield 21, 3) := by decide +kernel
theorem dX0_test_56 : decode cX0_test 56 = .ok (.iload_n 1, 1) := by decide +kernel
theorem dX0_test_57 : decode cX0_test 57 = .ok (.lconst 0, 1) := by decide +kernel
theorem dX0_test_58 : decode cX0_test 58 = .ok (.invokevirtual 169, 3) := by decide +kernel
theorem dX0_test_61 : decode cX0_test 61 = .ok (.aload_n 0, 1) := by decide +kernel
theorem dX0_test_62 : decode cX0_test 62 = .ok (.getfield 21, 3) := by decide +kernel
theorem dX0_test_65 : decode cX0_test 65 = .ok (.invokevirtual 116, 3) := by decide +kernel
theorem dX0_test_68 : decode cX0_test 68 = .ok (.lstore 8, 2) := by decide +kernel
theorem dX0_test_70 : decode cX0_test 70 = .ok (.aload_n 0, 1) := by decide +kernel
theorem dX0_test_71 : decode cX0_test 71 = .ok (.getfield 12, 3) := by decide +kernel
theorem dX0_test_74 : decode cX0_test 74 = .ok (.getfield 104, 3) := by decide +kernel
theorem dX0_test_77 : decode cX0_test 77 = .ok (.iload_n 1, 1) := by decide +kernel
theorem dX0_test_78 : decode cX0_test 78 = .ok (.laload, 1) := by decide +kernel
theorem dX0_test_79 : decode cX0_test 79 = .ok (.lstore 10, 2) := by decide +kernel
theorem dX0_test_81 : decode cX0_test 81 = .ok (.lload 10, 2) := by decide +kernel
theorem dX0_test_83 : decode cX0_test 83 = .ok (.lload 6, 2) := by decide +kernel
theorem dX0_test_85 : decode cX0_test 85 = .ok (.lmul, 1) := by decide +kernel
theorem dX0_test_86 : decode cX0_test 86 = .ok (.ldc2_w 107, 3) := by decide +kernel
theorem dX0_test_89 : decode cX0_test 89 = .ok (.lload 10, 2) := by decide +kernel
theorem dX0_test_91 : decode cX0_test 91 = .ok (.lsub, 1) := by decide +kernel
theorem dX0_test_92 : decode cX0_test 92 = .ok (.lload 8, 2) := by decide +kernel
theorem dX0_test_94 : decode cX0_test 94 = .ok (.lmul, 1) := by decide +kernel
theorem dX0_test_95 : decode cX0_test 95 = .ok (.ladd, 1) := by decide +kernel
theorem dX0_test_96 : decode cX0_test 96 = .ok (.lload_n 2, 1) := by decide +kernel
theorem dX0_test_97 : decode cX0_test 97 = .ok (.ldc2_w 107, 3) := by decide +kernel
theorem dX0_test_100 : decode cX0_test 100 = .ok (.lmul, 1) := by decide +kernel
theorem dX0_test_101 : decode cX0_test 101 = .ok (.ldc2_w 107, 3) := by decide +kernel
theorem dX0_test_104 : decode cX0_test 104 = .ok (.lmul, 1) := by decide +kernel
theorem dX0_test_105 : decode cX0_test 105 = .ok (.lsub, 1) := by decide +kernel
theorem dX0_test_106 : decode cX0_test 106 = .ok (.lstore 12, 2) := by decide +kernel
theorem dX0_test_108 : decode cX0_test 108 = .ok (.lload 12, 2) := by decide +kernel
theorem dX0_test_110 : decode cX0_test 110 = .ok (.lload 4, 2) := by decide +kernel
theorem dX0_test_112 : decode cX0_test 112 = .ok (.ldc2_w 107, 3) := by decide +kernel
theorem dX0_test_115 : decode cX0_test 115 = .ok (.lmul, 1) := by decide +kernel
theorem dX0_test_116 : decode cX0_test 116 = .ok (.lcmp, 1) := by decide +kernel
theorem dX0_test_117 : decode cX0_test 117 = .ok (.ifCond .le 7, 3) := by decide +kernel
theorem dX0_test_120 : decode cX0_test 120 = .ok (.iconst 1, 1) := by decide +kernel
theorem dX0_test_121 : decode cX0_test 121 = .ok (.goto 4, 3) := by decide +kernel
theorem dX0_test_124 : decode cX0_test 124 = .ok (.iconst 0, 1) := by decide +kernel
theorem dX0_test_125 : decode cX0_test 125 = .ok (.ireturn, 1) := by decide +kernel
theorem dX0_stations_0 : decode cX0_stations 0 = .ok (.aload_n 0, 1) := by decide +kernel
theorem dX0_stations_1 : decode cX0_stations 1 = .ok (.getfield 28, 3) := by decide +kernel
theorem dX0_stations_4 : decode cX0_stations 4 = .ok (.getfield 133, 3) := by decide +kernel
theorem dX0_stations_7 : decode cX0_stations 7 = .ok (.ifCond .eq 13, 3) := by decide +kernel
theorem dX0_stations_10 : decode cX0_stations 10 = .ok (.iload_n 1, 1) := by decide +kernel
theorem dX0_stations_11 : decode cX0_stations 11 = .ok (.iconst 1, 1) := by decide +kernel
theorem dX0_stations_12 : decode cX0_stations 12 = .ok (.if_icmp .lt 8, 3) := by decide +kernel
theorem dX0_stations_15 : decode cX0_stations 15 = .ok (.iload_n 1, 1) := by decide +kernel
theorem dX0_stations_16 : decode cX0_stations 16 = .ok (.iconst 4, 1) := by decide +kernel
theorem dX0_stations_17 : decode cX0_stations 17 = .ok (.if_icmp .le 5, 3) := by decide +kernel
theorem dX0_stations_20 : decode cX0_stations 20 = .ok (.iconst (-1), 1) := by decide +kernel
theorem dX0_stations_21 : decode cX0_stations 21 = .ok (.ireturn, 1) := by decide +kernel
theorem dX0_stations_22 : decode cX0_stations 22 = .ok (.aload_n 0, 1) := by decide +kernel
theorem dX0_stations_23 : decode cX0_stations 23 = .ok (.getfield 35, 3) := by decide +kernel
theorem dX0_stations_26 : decode cX0_stations 26 = .ok (.aload_n 0, 1) := by decide +kernel
theorem dX0_stations_27 : decode cX0_stations 27 = .ok (.getfield 28, 3) := by decide +kernel
theorem dX0_stations_30 : decode cX0_stations 30 = .ok (.getfield 147, 3) := by decide +kernel
theorem dX0_stations_33 : decode cX0_stations 33 = .ok (.iload_n 1, 1) := by decide +kernel
theorem dX0_stations_34 : decode cX0_stations 34 = .ok (.invokevirtual 173, 3) := by decide +kernel
theorem dX0_stations_37 : decode cX0_stations 37 = .ok (.l2i, 1) := by decide +kernel
theorem dX0_stations_38 : decode cX0_stations 38 = .ok (.ireturn, 1) := by decide +kernel
theorem dX0_station_0 : decode cX0_station 0 = .ok (.iload_n 1, 1) := by decide +kernel
theorem dX0_station_1 : decode cX0_station 1 = .ok (.ifCond .lt 21, 3) := by decide +kernel
theorem dX0_station_4 : decode cX0_station 4 = .ok (.iload_n 1, 1) := by decide +kernel
theorem dX0_station_5 : decode cX0_station 5 = .ok (.bipush 10, 2) := by decide +kernel
theorem dX0_station_7 : decode cX0_station 7 = .ok (.if_icmp .ge 15, 3) := by decide +kernel
theorem dX0_station_10 : decode cX0_station 10 = .ok (.aload_n 0, 1) := by decide +kernel
theorem dX0_station_11 : decode cX0_station 11 = .ok (.getfield 35, 3) := by decide +kernel
theorem dX0_station_14 : decode cX0_station 14 = .ok (.getfield 177, 3) := by decide +kernel
theorem dX0_station_17 : decode cX0_station 17 = .ok (.iload_n 1, 1) := by decide +kernel
theorem dX0_station_18 : decode cX0_station 18 = .ok (.iaload, 1) := by decide +kernel
theorem dX0_station_19 : decode cX0_station 19 = .ok (.goto 4, 3) := by decide +kernel
theorem dX0_station_22 : decode cX0_station 22 = .ok (.iconst (-1), 1) := by decide +kernel
theorem dX0_station_23 : decode cX0_station 23 = .ok (.ireturn, 1) := by decide +kernel
end
section
theorem dX1_init_0 : decode cX1_init 0 = .ok (.aload_n 0, 1) := by decide +kernel
theorem dX1_init_1 : decode cX1_init 1 = .ok (.invokespecial 3, 3) := by decide +kernel
theorem dX1_init_4 : decode cX1_init 4 = .ok (.aload_n 0, 1) := by decide +kernel
theorem dX1_init_5 : decode cX1_init 5 = .ok (.bipush 10, 2) := by decide +kernel
theorem dX1_init_7 : decode cX1_init 7 = .ok (.newarray .int, 2) := by decide +kernel
theorem dX1_init_9 : decode cX1_init 9 = .ok (.putfield 9, 3) := by decide +kernel
theorem dX1_init_12 : decode cX1_init 12 = .ok (.aload_n 0, 1) := by decide +kernel
theorem dX1_init_13 : decode cX1_init 13 = .ok (.bipush 10, 2) := by decide +kernel
theorem dX1_init_15 : decode cX1_init 15 = .ok (.newarray .int, 2) := by decide +kernel
theorem dX1_init_17 : decode cX1_init 17 = .ok (.putfield 15, 3) := by decide +kernel
theorem dX1_init_20 : decode cX1_init 20 = .ok (.aload_n 0, 1) := by decide +kernel
theorem dX1_init_21 : decode cX1_init 21 = .ok (.bipush 10, 2) := by decide +kernel
theorem dX1_init_23 : decode cX1_init 23 = .ok (.newarray .int, 2) := by decide +kernel
theorem dX1_init_25 : decode cX1_init 25 = .ok (.putfield 18, 3) := by decide +kernel
theorem dX1_init_28 : decode cX1_init 28 = .ok (.aload_n 0, 1) := by decide +kernel
theorem dX1_init_29 : decode cX1_init 29 = .ok (.bipush 10, 2) := by decide +kernel
theorem dX1_init_31 : decode cX1_init 31 = .ok (.newarray .long, 2) := by decide +kernel
theorem dX1_init_33 : decode cX1_init 33 = .ok (.putfield 21, 3) := by decide +kernel
theorem dX1_init_36 : decode cX1_init 36 = .ok (.aload_n 0, 1) := by decide +kernel
theorem dX1_init_37 : decode cX1_init 37 = .ok (.bipush 10, 2) := by decide +kernel
theorem dX1_init_39 : decode cX1_init 39 = .ok (.newarray .int, 2) := by decide +kernel
theorem dX1_init_41 : decode cX1_init 41 = .ok (.putfield 25, 3) := by decide +kernel
theorem dX1_init_44 : decode cX1_init 44 = .ok (.aload_n 0, 1) := by decide +kernel
theorem dX1_init_45 : decode cX1_init 45 = .ok (.bipush 36, 2) := by decide +kernel
theorem dX1_init_47 : decode cX1_init 47 = .ok (.newarray .long, 2) := by decide +kernel
theorem dX1_init_49 : decode cX1_init 49 = .ok (.putfield 28, 3) := by decide +kernel
theorem dX1_init_52 : decode cX1_init 52 = .ok (.aload_n 0, 1) := by decide +kernel
theorem dX1_init_53 : decode cX1_init 53 = .ok (.bipush 36, 2) := by decide +kernel
theorem dX1_init_55 : decode cX1_init 55 = .ok (.newarray .long, 2) := by decide +kernel
theorem dX1_init_57 : decode cX1_init 57 = .ok (.putfield 31, 3) := by decide +kernel
theorem dX1_init_60 : decode cX1_init 60 = .ok (.aload_n 0, 1) := by decide +kernel
theorem dX1_init_61 : decode cX1_init 61 = .ok (.bipush 12, 2) := by decide +kernel
theorem dX1_init_63 : decode cX1_init 63 = .ok (.newarray .long, 2) := by decide +kernel
theorem dX1_init_65 : decode cX1_init 65 = .ok (.putfield 34, 3) := by decide +kernel
theorem dX1_init_68 : decode cX1_init 68 = .ok (.aload_n 0, 1) := by decide +kernel
theorem dX1_init_69 : decode cX1_init 69 = .ok (.bipush 12, 2) := by decide +kernel
theorem dX1_init_71 : decode cX1_init 71 = .ok (.newarray .long, 2) := by decide +kernel
theorem dX1_init_73 : decode cX1_init 73 = .ok (.putfield 37, 3) := by decide +kernel
theorem dX1_init_76 : decode cX1_init 76 = .ok (.aload_n 0, 1) := by decide +kernel
theorem dX1_init_77 : decode cX1_init 77 = .ok (.bipush 16, 2) := by decide +kernel
theorem dX1_init_79 : decode cX1_init 79 = .ok (.newarray .int, 2) := by decide +kernel
theorem dX1_init_81 : decode cX1_init 81 = .ok (.putfield 40, 3) := by decide +kernel
theorem dX1_init_84 : decode cX1_init 84 = .ok (.aload_n 0, 1) := by decide +kernel
theorem dX1_init_85 : decode cX1_init 85 = .ok (.bipush 16, 2) := by decide +kernel
theorem dX1_init_87 : decode cX1_init 87 = .ok (.newarray .long, 2) := by decide +kernel
theorem dX1_init_89 : decode cX1_init 89 = .ok (.putfield 43, 3) := by decide +kernel
theorem dX1_init_92 : decode cX1_init 92 = .ok (.aload_n 0, 1) := by decide +kernel
theorem dX1_init_93 : decode cX1_init 93 = .ok (.getfield 37, 3) := by decide +kernel
theorem dX1_init_96 : decode cX1_init 96 = .ok (.ldc2_w 46, 3) := by decide +kernel
theorem dX1_init_99 : decode cX1_init 99 = .ok (.invokestatic 48, 3) := by decide +kernel
theorem dX1_init_102 : decode cX1_init 102 = .ok (.return_, 1) := by decide +kernel
theorem dX2_init_0 : decode cX2_init 0 = .ok (.aload_n 0, 1) := by decide +kernel
theorem dX2_init_1 : decode cX2_init 1 = .ok (.invokespecial 3, 3) := by decide +kernel
theorem dX2_init_4 : decode cX2_init 4 = .ok (.aload_n 0, 1) := by decide +kernel
theorem dX2_init_5 : decode cX2_init 5 = .ok (.bipush 12, 2) := by decide +kernel
theorem dX2_init_7 : decode cX2_init 7 = .ok (.newarray .long, 2) := by decide +kernel
theorem dX2_init_9 : decode cX2_init 9 = .ok (.putfield 9, 3) := by decide +kernel
theorem dX2_init_12 : decode cX2_init 12 = .ok (.aload_n 0, 1) := by decide +kernel
theorem dX2_init_13 : decode cX2_init 13 = .ok (.bipush 110, 2) := by decide +kernel
theorem dX2_init_15 : decode cX2_init 15 = .ok (.newarray .long, 2) := by decide +kernel
theorem dX2_init_17 : decode cX2_init 17 = .ok (.putfield 15, 3) := by decide +kernel
theorem dX2_init_20 : decode cX2_init 20 = .ok (.aload_n 0, 1) := by decide +kernel
theorem dX2_init_21 : decode cX2_init 21 = .ok (.sipush 10240, 3) := by decide +kernel
theorem dX2_init_24 : decode cX2_init 24 = .ok (.newarray .long, 2) := by decide +kernel
theorem dX2_init_26 : decode cX2_init 26 = .ok (.putfield 18, 3) := by decide +kernel
theorem dX2_init_29 : decode cX2_init 29 = .ok (.aload_n 0, 1) := by decide +kernel
theorem dX2_init_30 : decode cX2_init 30 = .ok (.aload_n 1, 1) := by decide +kernel
theorem dX2_init_31 : decode cX2_init 31 = .ok (.putfield 21, 3) := by decide +kernel
theorem dX2_init_34 : decode cX2_init 34 = .ok (.return_, 1) := by decide +kernel
theorem dX1_addAct_0 : decode cX1_addAct 0 = .ok (.aload_n 0, 1) := by decide +kernel
theorem dX1_addAct_1 : decode cX1_addAct 1 = .ok (.getfield 54, 3) := by decide +kernel
theorem dX1_addAct_4 : decode cX1_addAct 4 = .ok (.istore 6, 2) := by decide +kernel
theorem dX1_addAct_6 : decode cX1_addAct 6 = .ok (.aload_n 0, 1) := by decide +kernel
theorem dX1_addAct_7 : decode cX1_addAct 7 = .ok (.getfield 9, 3) := by decide +kernel
theorem dX1_addAct_10 : decode cX1_addAct 10 = .ok (.iload 6, 2) := by decide +kernel
theorem dX1_addAct_12 : decode cX1_addAct 12 = .ok (.iload_n 1, 1) := by decide +kernel
theorem dX1_addAct_13 : decode cX1_addAct 13 = .ok (.iastore, 1) := by decide +kernel
theorem dX1_addAct_14 : decode cX1_addAct 14 = .ok (.aload_n 0, 1) := by decide +kernel
theorem dX1_addAct_15 : decode cX1_addAct 15 = .ok (.getfield 15, 3) := by decide +kernel
theorem dX1_addAct_18 : decode cX1_addAct 18 = .ok (.iload 6, 2) := by decide +kernel
theorem dX1_addAct_20 : decode cX1_addAct 20 = .ok (.iload_n 2, 1) := by decide +kernel
theorem dX1_addAct_21 : decode cX1_addAct 21 = .ok (.iastore, 1) := by decide +kernel
theorem dX1_addAct_22 : decode cX1_addAct 22 = .ok (.aload_n 0, 1) := by decide +kernel
theorem dX1_addAct_23 : decode cX1_addAct 23 = .ok (.getfield 18, 3) := by decide +kernel
theorem dX1_addAct_26 : decode cX1_addAct 26 = .ok (.iload 6, 2) := by decide +kernel
theorem dX1_addAct_28 : decode cX1_addAct 28 = .ok (.iload_n 3, 1) := by decide +kernel
theorem dX1_addAct_29 : decode cX1_addAct 29 = .ok (.iastore, 1) := by decide +kernel
theorem dX1_addAct_30 : decode cX1_addAct 30 = .ok (.aload_n 0, 1) := by decide +kernel
theorem dX1_addAct_31 : decode cX1_addAct 31 = .ok (.getfield 21, 3) := by decide +kernel
theorem dX1_addAct_34 : decode cX1_addAct 34 = .ok (.iload 6, 2) := by decide +kernel
theorem dX1_addAct_36 : decode cX1_addAct 36 = .ok (.lload 4, 2) := by decide +kernel
theorem dX1_addAct_38 : decode cX1_addAct 38 = .ok (.lastore, 1) := by decide +kernel
theorem dX1_addAct_39 : decode cX1_addAct 39 = .ok (.aload_n 0, 1) := by decide +kernel
theorem dX1_addAct_40 : decode cX1_addAct 40 = .ok (.dup, 1) := by decide +kernel
theorem dX1_addAct_41 : decode cX1_addAct 41 = .ok (.getfield 54, 3) := by decide +kernel
theorem dX1_addAct_44 : decode cX1_addAct 44 = .ok (.iconst 1, 1) := by decide +kernel
theorem dX1_addAct_45 : decode cX1_addAct 45 = .ok (.iadd, 1) := by decide +kernel
theorem dX1_addAct_46 : decode cX1_addAct 46 = .ok (.putfield 54, 3) := by decide +kernel
theorem dX1_addAct_49 : decode cX1_addAct 49 = .ok (.iload 6, 2) := by decide +kernel
theorem dX1_addAct_51 : decode cX1_addAct 51 = .ok (.ireturn, 1) := by decide +kernel
theorem dX1_hasAct_0 : decode cX1_hasAct 0 = .ok (.iload_n 1, 1) := by decide +kernel
theorem dX1_hasAct_1 : decode cX1_hasAct 1 = .ok (.ifCond .lt 15, 3) := by decide +kernel
theorem dX1_hasAct_4 : decode cX1_hasAct 4 = .ok (.iload_n 1, 1) := by decide +kernel
theorem dX1_hasAct_5 : decode cX1_hasAct 5 = .ok (.aload_n 0, 1) := by decide +kernel
theorem dX1_hasAct_6 : decode cX1_hasAct 6 = .ok (.getfield 54, 3) := by decide +kernel
theorem dX1_hasAct_9 : decode cX1_hasAct 9 = .ok (.if_icmp .ge 7, 3) := by decide +kernel
theorem dX1_hasAct_12 : decode cX1_hasAct 12 = .ok (.iconst 1, 1) := by decide +kernel
theorem dX1_hasAct_13 : decode cX1_hasAct 13 = .ok (.goto 4, 3) := by decide +kernel
theorem dX1_hasAct_16 : decode cX1_hasAct 16 = .ok (.iconst 0, 1) := by decide +kernel
theorem dX1_hasAct_17 : decode cX1_hasAct 17 = .ok (.ireturn, 1) := by decide +kernel
theorem dX1_addNeed_0 : decode cX1_addNeed 0 = .ok (.aload_n 0, 1) := by decide +kernel
theorem dX1_addNeed_1 : decode cX1_addNeed 1 = .ok (.getfield 25, 3) := by decide +kernel
theorem dX1_addNeed_4 : decode cX1_addNeed 4 = .ok (.iload_n 1, 1) := by decide +kernel
theorem dX1_addNeed_5 : decode cX1_addNeed 5 = .ok (.iaload, 1) := by decide +kernel
theorem dX1_addNeed_6 : decode cX1_addNeed 6 = .ok (.iconst 1, 1) := by decide +kernel
theorem dX1_addNeed_7 : decode cX1_addNeed 7 = .ok (.iload_n 1, 1) := by decide +kernel
theorem dX1_addNeed_8 : decode cX1_addNeed 8 = .ok (.ishl, 1) := by decide +kernel
theorem dX1_addNeed_9 : decode cX1_addNeed 9 = .ok (.ior, 1) := by decide +kernel
theorem dX1_addNeed_10 : decode cX1_addNeed 10 = .ok (.istore_n 3, 1) := by decide +kernel
theorem dX1_addNeed_11 : decode cX1_addNeed 11 = .ok (.iconst 0, 1) := by decide +kernel
theorem dX1_addNeed_12 : decode cX1_addNeed 12 = .ok (.istore 4, 2) := by decide +kernel
theorem dX1_addNeed_14 : decode cX1_addNeed 14 = .ok (.iload 4, 2) := by decide +kernel
theorem dX1_addNeed_16 : decode cX1_addNeed 16 = .ok (.aload_n 0, 1) := by decide +kernel
theorem dX1_addNeed_17 : decode cX1_addNeed 17 = .ok (.getfield 54, 3) := by decide +kernel
theorem dX1_addNeed_20 : decode cX1_addNeed 20 = .ok (.if_icmp .ge 40, 3) := by decide +kernel
theorem dX1_addNeed_23 : decode cX1_addNeed 23 = .ok (.iload 4, 2) := by decide +kernel
theorem dX1_addNeed_25 : decode cX1_addNeed 25 = .ok (.iload_n 2, 1) := by decide +kernel
theorem dX1_addNeed_26 : decode cX1_addNeed 26 = .ok (.if_icmp .eq 17, 3) := by decide +kernel
theorem dX1_addNeed_29 : decode cX1_addNeed 29 = .ok (.aload_n 0, 1) := by decide +kernel
theorem dX1_addNeed_30 : decode cX1_addNeed 30 = .ok (.getfield 25, 3) := by decide +kernel
theorem dX1_addNeed_33 : decode cX1_addNeed 33 = .ok (.iload 4, 2) := by decide +kernel
theorem dX1_addNeed_35 : decode cX1_addNeed 35 = .ok (.iaload, 1) := by decide +kernel
theorem dX1_addNeed_36 : decode cX1_addNeed 36 = .ok (.iload_n 2, 1) := by decide +kernel
theorem dX1_addNeed_37 : decode cX1_addNeed 37 = .ok (.invokestatic 58, 3) := by decide +kernel
theorem dX1_addNeed_40 : decode cX1_addNeed 40 = .ok (.ifCond .eq 14, 3) := by decide +kernel
theorem dX1_addNeed_43 : decode cX1_addNeed 43 = .ok (.aload_n 0, 1) := by decide +kernel
theorem dX1_addNeed_44 : decode cX1_addNeed 44 = .ok (.getfield 25, 3) := by decide +kernel
theorem dX1_addNeed_47 : decode cX1_addNeed 47 = .ok (.iload 4, 2) := by decide +kernel
theorem dX1_addNeed_49 : decode cX1_addNeed 49 = .ok (.dup2, 1) := by decide +kernel
theorem dX1_addNeed_50 : decode cX1_addNeed 50 = .ok (.iaload, 1) := by decide +kernel
theorem dX1_addNeed_51 : decode cX1_addNeed 51 = .ok (.iload_n 3, 1) := by decide +kernel
theorem dX1_addNeed_52 : decode cX1_addNeed 52 = .ok (.ior, 1) := by decide +kernel
theorem dX1_addNeed_53 : decode cX1_addNeed 53 = .ok (.iastore, 1) := by decide +kernel
theorem dX1_addNeed_54 : decode cX1_addNeed 54 = .ok (.iinc 4 1, 3) := by decide +kernel
theorem dX1_addNeed_57 : decode cX1_addNeed 57 = .ok (.goto (-43), 3) := by decide +kernel
theorem dX1_addNeed_60 : decode cX1_addNeed 60 = .ok (.return_, 1) := by decide +kernel
theorem dX1_tellRest_0 : decode cX1_tellRest 0 = .ok (.aload_n 0, 1) := by decide +kernel
theorem dX1_tellRest_1 : decode cX1_tellRest 1 = .ok (.iload_n 1, 1) := by decide +kernel
theorem dX1_tellRest_2 : decode cX1_tellRest 2 = .ok (.invokevirtual 62, 3) := by decide +kernel
theorem dX1_tellRest_5 : decode cX1_tellRest 5 = .ok (.istore 4, 2) := by decide +kernel
theorem dX1_tellRest_7 : decode cX1_tellRest 7 = .ok (.iload 4, 2) := by decide +kernel
theorem dX1_tellRest_9 : decode cX1_tellRest 9 = .ok (.bipush 16, 2) := by decide +kernel
theorem dX1_tellRest_11 : decode cX1_tellRest 11 = .ok (.if_icmp .lt 5, 3) := by decide +kernel
theorem dX1_tellRest_14 : decode cX1_tellRest 14 = .ok (.iconst 0, 1) := by decide +kernel
theorem dX1_tellRest_15 : decode cX1_tellRest 15 = .ok (.ireturn, 1) := by decide +kernel
theorem dX1_tellRest_16 : decode cX1_tellRest 16 = .ok (.iload 4, 2) := by decide +kernel
theorem dX1_tellRest_18 : decode cX1_tellRest 18 = .ok (.aload_n 0, 1) := by decide +kernel
theorem dX1_tellRest_19 : decode cX1_tellRest 19 = .ok (.getfield 66, 3) := by decide +kernel
theorem dX1_tellRest_22 : decode cX1_tellRest 22 = .ok (.if_icmp .ne 13, 3) := by decide +kernel
theorem dX1_tellRest_25 : decode cX1_tellRest 25 = .ok (.aload_n 0, 1) := by decide +kernel
theorem dX1_tellRest_26 : decode cX1_tellRest 26 = .ok (.dup, 1) := by decide +kernel
theorem dX1_tellRest_27 : decode cX1_tellRest 27 = .ok (.getfield 66, 3) := by decide +kernel
theorem dX1_tellRest_30 : decode cX1_tellRest 30 = .ok (.iconst 1, 1) := by decide +kernel
theorem dX1_tellRest_31 : decode cX1_tellRest 31 = .ok (.iadd, 1) := by decide +kernel
theorem dX1_tellRest_32 : decode cX1_tellRest 32 = .ok (.putfield 66, 3) := by decide +kernel
theorem dX1_tellRest_35 : decode cX1_tellRest 35 = .ok (.aload_n 0, 1) := by decide +kernel
theorem dX1_tellRest_36 : decode cX1_tellRest 36 = .ok (.getfield 40, 3) := by decide +kernel
theorem dX1_tellRest_39 : decode cX1_tellRest 39 = .ok (.iload 4, 2) := by decide +kernel
theorem dX1_tellRest_41 : decode cX1_tellRest 41 = .ok (.iload_n 1, 1) := by decide +kernel
theorem dX1_tellRest_42 : decode cX1_tellRest 42 = .ok (.iastore, 1) := by decide +kernel
theorem dX1_tellRest_43 : decode cX1_tellRest 43 = .ok (.aload_n 0, 1) := by decide +kernel
theorem dX1_tellRest_44 : decode cX1_tellRest 44 = .ok (.getfield 43, 3) := by decide +kernel
theorem dX1_tellRest_47 : decode cX1_tellRest 47 = .ok (.iload 4, 2) := by decide +kernel
theorem dX1_tellRest_49 : decode cX1_tellRest 49 = .ok (.lload_n 2, 1) := by decide +kernel
theorem dX1_tellRest_50 : decode cX1_tellRest 50 = .ok (.lastore, 1) := by decide +kernel
theorem dX1_tellRest_51 : decode cX1_tellRest 51 = .ok (.iconst 1, 1) := by decide +kernel
theorem dX1_tellRest_52 : decode cX1_tellRest 52 = .ok (.ireturn, 1) := by decide +kernel
theorem dX1_placeOfRest_0 : decode cX1_placeOfRest 0 = .ok (.iconst 0, 1) := by decide +kernel
theorem dX1_placeOfRest_1 : decode cX1_placeOfRest 1 = .ok (.istore_n 2, 1) := by decide +kernel
theorem dX1_placeOfRest_2 : decode cX1_placeOfRest 2 = .ok (.iload_n 2, 1) := by decide +kernel
theorem dX1_placeOfRest_3 : decode cX1_placeOfRest 3 = .ok (.aload_n 0, 1) := by decide +kernel
theorem dX1_placeOfRest_4 : decode cX1_placeOfRest 4 = .ok (.getfield 66, 3) := by decide +kernel
theorem dX1_placeOfRest_7 : decode cX1_placeOfRest 7 = .ok (.if_icmp .ge 21, 3) := by decide +kernel
theorem dX1_placeOfRest_10 : decode cX1_placeOfRest 10 = .ok (.aload_n 0, 1) := by decide +kernel
theorem dX1_placeOfRest_11 : decode cX1_placeOfRest 11 = .ok (.getfield 40, 3) := by decide +kernel
theorem dX1_placeOfRest_14 : decode cX1_placeOfRest 14 = .ok (.iload_n 2, 1) := by decide +kernel
theorem dX1_placeOfRest_15 : decode cX1_placeOfRest 15 = .ok (.iaload, 1) := by decide +kernel
theorem dX1_placeOfRest_16 : decode cX1_placeOfRest 16 = .ok (.iload_n 1, 1) := by decide +kernel
theorem dX1_placeOfRest_17 : decode cX1_placeOfRest 17 = .ok (.if_icmp .ne 5, 3) := by decide +kernel
theorem dX1_placeOfRest_20 : decode cX1_placeOfRest 20 = .ok (.iload_n 2, 1) := by decide +kernel
theorem dX1_placeOfRest_21 : decode cX1_placeOfRest 21 = .ok (.ireturn, 1) := by decide +kernel
theorem dX1_placeOfRest_22 : decode cX1_placeOfRest 22 = .ok (.iinc 2 1, 3) := by decide +kernel
theorem dX1_placeOfRest_25 : decode cX1_placeOfRest 25 = .ok (.goto (-23), 3) := by decide +kernel
theorem dX1_placeOfRest_28 : decode cX1_placeOfRest 28 = .ok (.aload_n 0, 1) := by decide +kernel
theorem dX1_placeOfRest_29 : decode cX1_placeOfRest 29 = .ok (.getfield 66, 3) := by decide +kernel
theorem dX1_placeOfRest_32 : decode cX1_placeOfRest 32 = .ok (.ireturn, 1) := by decide +kernel
theorem dX1_countStates_0 : decode cX1_countStates 0 = .ok (.lconst 1, 1) := by decide +kernel
theorem dX1_countStates_1 : decode cX1_countStates 1 = .ok (.lstore_n 1, 1) := by decide +kernel
theorem dX1_countStates_2 : decode cX1_countStates 2 = .ok (.iconst 1, 1) := by decide +kernel
theorem dX1_countStates_3 : decode cX1_countStates 3 = .ok (.istore_n 3, 1) := by decide +kernel
theorem dX1_countStates_4 : decode cX1_countStates 4 = .ok (.iload_n 3, 1) := by decide +kernel
theorem dX1_countStates_5 : decode cX1_countStates 5 = .ok (.aload_n 0, 1) := by decide +kernel
theorem dX1_countStates_6 : decode cX1_countStates 6 = .ok (.invokevirtual 78, 3) := by decide +kernel
theorem dX1_countStates_9 : decode cX1_countStates 9 = .ok (.if_icmp .gt 21, 3) := by decide +kernel
theorem dX1_countStates_12 : decode cX1_countStates 12 = .ok (.lload_n 1, 1) := by decide +kernel
theorem dX1_countStates_13 : decode cX1_countStates 13 = .ok (.aload_n 0, 1) := by decide +kernel
theorem dX1_countStates_14 : decode cX1_countStates 14 = .ok (.iload_n 3, 1) := by decide +kernel
theorem dX1_countStates_15 : decode cX1_countStates 15 = .ok (.invokevirtual 82, 3) := by decide +kernel
theorem dX1_countStates_18 : decode cX1_countStates 18 = .ok (.invokestatic 85, 3) := by decide +kernel
theorem dX1_countStates_21 : decode cX1_countStates 21 = .ok (.i2l, 1) := by decide +kernel
theorem dX1_countStates_22 : decode cX1_countStates 22 = .ok (.ladd, 1) := by decide +kernel
theorem dX1_countStates_23 : decode cX1_countStates 23 = .ok (.lstore_n 1, 1) := by decide +kernel
theorem dX1_countStates_24 : decode cX1_countStates 24 = .ok (.iinc 3 1, 3) := by decide +kernel
theorem dX1_countStates_27 : decode cX1_countStates 27 = .ok (.goto (-23), 3) := by decide +kernel
theorem dX1_countStates_30 : decode cX1_countStates 30 = .ok (.lload_n 1, 1) := by decide +kernel
theorem dX1_countStates_31 : decode cX1_countStates 31 = .ok (.lreturn, 1) := by decide +kernel
theorem dX1_allActs_0 : decode cX1_allActs 0 = .ok (.iconst 1, 1) := by decide +kernel
theorem dX1_allActs_1 : decode cX1_allActs 1 = .ok (.aload_n 0, 1) := by decide +kernel
theorem dX1_allActs_2 : decode cX1_allActs 2 = .ok (.getfield 54, 3) := by decide +kernel
theorem dX1_allActs_5 : decode cX1_allActs 5 = .ok (.ishl, 1) := by decide +kernel
theorem dX1_allActs_6 : decode cX1_allActs 6 = .ok (.iconst 1, 1) := by decide +kernel
theorem dX1_allActs_7 : decode cX1_allActs 7 = .ok (.isub, 1) := by decide +kernel
theorem dX1_allActs_8 : decode cX1_allActs 8 = .ok (.ireturn, 1) := by decide +kernel
theorem dX1_lastsOf_0 : decode cX1_lastsOf 0 = .ok (.aload_n 0, 1) := by decide +kernel
theorem dX1_lastsOf_1 : decode cX1_lastsOf 1 = .ok (.iload_n 1, 1) := by decide +kernel
theorem dX1_lastsOf_2 : decode cX1_lastsOf 2 = .ok (.invokevirtual 75, 3) := by decide +kernel
theorem dX1_lastsOf_5 : decode cX1_lastsOf 5 = .ok (.istore_n 2, 1) := by decide +kernel
theorem dX1_lastsOf_6 : decode cX1_lastsOf 6 = .ok (.iload_n 2, 1) := by decide +kernel
theorem dX1_lastsOf_7 : decode cX1_lastsOf 7 = .ok (.iload_n 1, 1) := by decide +kernel
theorem dX1_lastsOf_8 : decode cX1_lastsOf 8 = .ok (.iconst (-1), 1) := by decide +kernel
theorem dX1_lastsOf_9 : decode cX1_lastsOf 9 = .ok (.ixor, 1) := by decide +kernel
theorem dX1_lastsOf_10 : decode cX1_lastsOf 10 = .ok (.iand, 1) := by decide +kernel
theorem dX1_lastsOf_11 : decode cX1_lastsOf 11 = .ok (.ifCond .ne 11, 3) := by decide +kernel
theorem dX1_lastsOf_14 : decode cX1_lastsOf 14 = .ok (.iload_n 1, 1) := by decide +kernel
theorem dX1_lastsOf_15 : decode cX1_lastsOf 15 = .ok (.iload_n 2, 1) := by decide +kernel
theorem dX1_lastsOf_16 : decode cX1_lastsOf 16 = .ok (.iconst (-1), 1) := by decide +kernel
theorem dX1_lastsOf_17 : decode cX1_lastsOf 17 = .ok (.ixor, 1) := by decide +kernel
theorem dX1_lastsOf_18 : decode cX1_lastsOf 18 = .ok (.iand, 1) := by decide +kernel
theorem dX1_lastsOf_19 : decode cX1_lastsOf 19 = .ok (.goto 4, 3) := by decide +kernel
theorem dX1_lastsOf_22 : decode cX1_lastsOf 22 = .ok (.iconst 0, 1) := by decide +kernel
theorem dX1_lastsOf_23 : decode cX1_lastsOf 23 = .ok (.ireturn, 1) := by decide +kernel
theorem dX1_neededBy_0 : decode cX1_neededBy 0 = .ok (.iconst 0, 1) := by decide +kernel
theorem dX1_neededBy_1 : decode cX1_neededBy 1 = .ok (.istore_n 2, 1) := by decide +kernel
theorem dX1_neededBy_2 : decode cX1_neededBy 2 = .ok (.iconst 0, 1) := by decide +kernel
theorem dX1_neededBy_3 : decode cX1_neededBy 3 = .ok (.istore_n 3, 1) := by decide +kernel
theorem dX1_neededBy_4 : decode cX1_neededBy 4 = .ok (.iload_n 3, 1) := by decide +kernel
theorem dX1_neededBy_5 : decode cX1_neededBy 5 = .ok (.aload_n 0, 1) := by decide +kernel
theorem dX1_neededBy_6 : decode cX1_neededBy 6 = .ok (.getfield 54, 3) := by decide +kernel
theorem dX1_neededBy_9 : decode cX1_neededBy 9 = .ok (.if_icmp .ge 26, 3) := by decide +kernel
theorem dX1_neededBy_12 : decode cX1_neededBy 12 = .ok (.iload_n 1, 1) := by decide +kernel
theorem dX1_neededBy_13 : decode cX1_neededBy 13 = .ok (.iload_n 3, 1) := by decide +kernel
theorem dX1_neededBy_14 : decode cX1_neededBy 14 = .ok (.invokestatic 58, 3) := by decide +kernel
theorem dX1_neededBy_17 : decode cX1_neededBy 17 = .ok (.ifCond .eq 12, 3) := by decide +kernel
theorem dX1_neededBy_20 : decode cX1_neededBy 20 = .ok (.iload_n 2, 1) := by decide +kernel
theorem dX1_neededBy_21 : decode cX1_neededBy 21 = .ok (.aload_n 0, 1) := by decide +kernel
theorem dX1_neededBy_22 : decode cX1_neededBy 22 = .ok (.getfield 25, 3) := by decide +kernel
theorem dX1_neededBy_25 : decode cX1_neededBy 25 = .ok (.iload_n 3, 1) := by decide +kernel
theorem dX1_neededBy_26 : decode cX1_neededBy 26 = .ok (.iaload, 1) := by decide +kernel
theorem dX1_neededBy_27 : decode cX1_neededBy 27 = .ok (.ior, 1) := by decide +kernel
theorem dX1_neededBy_28 : decode cX1_neededBy 28 = .ok (.istore_n 2, 1) := by decide +kernel
theorem dX1_neededBy_29 : decode cX1_neededBy 29 = .ok (.iinc 3 1, 3) := by decide +kernel
theorem dX1_neededBy_32 : decode cX1_neededBy 32 = .ok (.goto (-28), 3) := by decide +kernel
theorem dX1_neededBy_35 : decode cX1_neededBy 35 = .ok (.iload_n 2, 1) := by decide +kernel
theorem dX1_neededBy_36 : decode cX1_neededBy 36 = .ok (.ireturn, 1) := by decide +kernel
theorem dX2_valueAsTold_0 : decode cX2_valueAsTold 0 = .ok (.iconst 0, 1) := by decide +kernel
theorem dX2_valueAsTold_1 : decode cX2_valueAsTold 1 = .ok (.istore_n 1, 1) := by decide +kernel
theorem dX2_valueAsTold_2 : decode cX2_valueAsTold 2 = .ok (.iload_n 1, 1) := by decide +kernel
theorem dX2_valueAsTold_3 : decode cX2_valueAsTold 3 = .ok (.bipush 12, 2) := by decide +kernel
theorem dX2_valueAsTold_5 : decode cX2_valueAsTold 5 = .ok (.if_icmp .ge 23, 3) := by decide +kernel
theorem dX2_valueAsTold_8 : decode cX2_valueAsTold 8 = .ok (.aload_n 0, 1) := by decide +kernel
theorem dX2_valueAsTold_9 : decode cX2_valueAsTold 9 = .ok (.getfield 9, 3) := by decide +kernel
theorem dX2_valueAsTold_12 : decode cX2_valueAsTold 12 = .ok (.iload_n 1, 1) := by decide +kernel
theorem dX2_valueAsTold_13 : decode cX2_valueAsTold 13 = .ok (.aload_n 0, 1) := by decide +kernel
theorem dX2_valueAsTold_14 : decode cX2_valueAsTold 14 = .ok (.getfield 21, 3) := by decide +kernel
theorem dX2_valueAsTold_17 : decode cX2_valueAsTold 17 = .ok (.iload_n 1, 1) := by decide +kernel
theorem dX2_valueAsTold_18 : decode cX2_valueAsTold 18 = .ok (.invokevirtual 25, 3) := by decide +kernel
theorem dX2_valueAsTold_21 : decode cX2_valueAsTold 21 = .ok (.lastore, 1) := by decide +kernel
theorem dX2_valueAsTold_22 : decode cX2_valueAsTold 22 = .ok (.iinc 1 1, 3) := by decide +kernel
theorem dX2_valueAsTold_25 : decode cX2_valueAsTold 25 = .ok (.goto (-23), 3) := by decide +kernel
theorem dX2_valueAsTold_28 : decode cX2_valueAsTold 28 = .ok (.return_, 1) := by decide +kernel
theorem dX1_valueOf_0 : decode cX1_valueOf 0 = .ok (.aload_n 0, 1) := by decide +kernel
theorem dX1_valueOf_1 : decode cX1_valueOf 1 = .ok (.getfield 34, 3) := by decide +kernel
theorem dX1_valueOf_4 : decode cX1_valueOf 4 = .ok (.iload_n 1, 1) := by decide +kernel
theorem dX1_valueOf_5 : decode cX1_valueOf 5 = .ok (.laload, 1) := by decide +kernel
theorem dX1_valueOf_6 : decode cX1_valueOf 6 = .ok (.aload_n 0, 1) := by decide +kernel
theorem dX1_valueOf_7 : decode cX1_valueOf 7 = .ok (.getfield 37, 3) := by decide +kernel
theorem dX1_valueOf_10 : decode cX1_valueOf 10 = .ok (.iload_n 1, 1) := by decide +kernel
theorem dX1_valueOf_11 : decode cX1_valueOf 11 = .ok (.laload, 1) := by decide +kernel
theorem dX1_valueOf_12 : decode cX1_valueOf 12 = .ok (.lmul, 1) := by decide +kernel
theorem dX1_valueOf_13 : decode cX1_valueOf 13 = .ok (.lreturn, 1) := by decide +kernel
theorem dX2_greatestGain_0 : decode cX2_greatestGain 0 = .ok (.aload_n 0, 1) := by decide +kernel
theorem dX2_greatestGain_1 : decode cX2_greatestGain 1 = .ok (.invokevirtual 34, 3) := by decide +kernel
theorem dX2_greatestGain_4 : decode cX2_greatestGain 4 = .ok (.aload_n 0, 1) := by decide +kernel
theorem dX2_greatestGain_5 : decode cX2_greatestGain 5 = .ok (.getfield 21, 3) := by decide +kernel
theorem dX2_greatestGain_8 : decode cX2_greatestGain 8 = .ok (.invokevirtual 37, 3) := by decide +kernel
theorem dX2_greatestGain_11 : decode cX2_greatestGain 11 = .ok (.istore_n 1, 1) := by decide +kernel
theorem dX2_greatestGain_12 : decode cX2_greatestGain 12 = .ok (.iload_n 1, 1) := by decide +kernel
theorem dX2_greatestGain_13 : decode cX2_greatestGain 13 = .ok (.ifCond .le 14, 3) := by decide +kernel
theorem dX2_greatestGain_16 : decode cX2_greatestGain 16 = .ok (.aload_n 0, 1) := by decide +kernel
theorem dX2_greatestGain_17 : decode cX2_greatestGain 17 = .ok (.iload_n 1, 1) := by decide +kernel
theorem dX2_greatestGain_18 : decode cX2_greatestGain 18 = .ok (.invokevirtual 41, 3) := by decide +kernel
theorem dX2_greatestGain_21 : decode cX2_greatestGain 21 = .ok (.iinc 1 (-1), 3) := by decide +kernel
theorem dX2_greatestGain_24 : decode cX2_greatestGain 24 = .ok (.goto (-12), 3) := by decide +kernel
theorem dX2_greatestGain_27 : decode cX2_greatestGain 27 = .ok (.aload_n 0, 1) := by decide +kernel
theorem dX2_greatestGain_28 : decode cX2_greatestGain 28 = .ok (.iconst (-1), 1) := by decide +kernel
theorem dX2_greatestGain_29 : decode cX2_greatestGain 29 = .ok (.iconst 0, 1) := by decide +kernel
theorem dX2_greatestGain_30 : decode cX2_greatestGain 30 = .ok (.aload_n 0, 1) := by decide +kernel
theorem dX2_greatestGain_31 : decode cX2_greatestGain 31 = .ok (.getfield 21, 3) := by decide +kernel
theorem dX2_greatestGain_34 : decode cX2_greatestGain 34 = .ok (.iconst 0, 1) := by decide +kernel
theorem dX2_greatestGain_35 : decode cX2_greatestGain 35 = .ok (.invokevirtual 45, 3) := by decide +kernel
theorem dX2_greatestGain_38 : decode cX2_greatestGain 38 = .ok (.aload_n 0, 1) := by decide +kernel
theorem dX2_greatestGain_39 : decode cX2_greatestGain 39 = .ok (.iconst 0, 1) := by decide +kernel
theorem dX2_greatestGain_40 : decode cX2_greatestGain 40 = .ok (.invokevirtual 49, 3) := by decide +kernel
theorem dX2_greatestGain_43 : decode cX2_greatestGain 43 = .ok (.invokevirtual 52, 3) := by decide +kernel
theorem dX2_greatestGain_46 : decode cX2_greatestGain 46 = .ok (.lreturn, 1) := by decide +kernel
theorem dX2_setSteps_0 : decode cX2_setSteps 0 = .ok (.iconst 0, 1) := by decide +kernel
theorem dX2_setSteps_1 : decode cX2_setSteps 1 = .ok (.istore_n 1, 1) := by decide +kernel
theorem dX2_setSteps_2 : decode cX2_setSteps 2 = .ok (.iload_n 1, 1) := by decide +kernel
theorem dX2_setSteps_3 : decode cX2_setSteps 3 = .ok (.aload_n 0, 1) := by decide +kernel
theorem dX2_setSteps_4 : decode cX2_setSteps 4 = .ok (.getfield 21, 3) := by decide +kernel
theorem dX2_setSteps_7 : decode cX2_setSteps 7 = .ok (.getfield 56, 3) := by decide +kernel
theorem dX2_setSteps_10 : decode cX2_setSteps 10 = .ok (.if_icmp .ge 51, 3) := by decide +kernel
theorem dX2_setSteps_13 : decode cX2_setSteps 13 = .ok (.iconst (-1), 1) := by decide +kernel
theorem dX2_setSteps_14 : decode cX2_setSteps 14 = .ok (.istore_n 2, 1) := by decide +kernel
theorem dX2_setSteps_15 : decode cX2_setSteps 15 = .ok (.iload_n 2, 1) := by decide +kernel
theorem dX2_setSteps_16 : decode cX2_setSteps 16 = .ok (.aload_n 0, 1) := by decide +kernel
theorem dX2_setSteps_17 : decode cX2_setSteps 17 = .ok (.getfield 21, 3) := by decide +kernel
theorem dX2_setSteps_20 : decode cX2_setSteps 20 = .ok (.getfield 56, 3) := by decide +kernel
theorem dX2_setSteps_23 : decode cX2_setSteps 23 = .ok (.if_icmp .ge 32, 3) := by decide +kernel
theorem dX2_setSteps_26 : decode cX2_setSteps 26 = .ok (.aload_n 0, 1) := by decide +kernel
theorem dX2_setSteps_27 : decode cX2_setSteps 27 = .ok (.getfield 15, 3) := by decide +kernel
theorem dX2_setSteps_30 : decode cX2_setSteps 30 = .ok (.iload_n 2, 1) := by decide +kernel
theorem dX2_setSteps_31 : decode cX2_setSteps 31 = .ok (.iload_n 1, 1) := by decide +kernel
theorem dX2_setSteps_32 : decode cX2_setSteps 32 = .ok (.invokestatic 68, 3) := by decide +kernel
theorem dX2_setSteps_35 : decode cX2_setSteps 35 = .ok (.aload_n 0, 1) := by decide +kernel
theorem dX2_setSteps_36 : decode cX2_setSteps 36 = .ok (.getfield 21, 3) := by decide +kernel
theorem dX2_setSteps_39 : decode cX2_setSteps 39 = .ok (.iload_n 2, 1) := by decide +kernel
theorem dX2_setSteps_40 : decode cX2_setSteps 40 = .ok (.iload_n 1, 1) := by decide +kernel
theorem dX2_setSteps_41 : decode cX2_setSteps 41 = .ok (.invokevirtual 72, 3) := by decide +kernel
theorem dX2_setSteps_44 : decode cX2_setSteps 44 = .ok (.ldc2_w 76, 3) := by decide +kernel
theorem dX2_setSteps_47 : decode cX2_setSteps 47 = .ok (.lmul, 1) := by decide +kernel
theorem dX2_setSteps_48 : decode cX2_setSteps 48 = .ok (.lastore, 1) := by decide +kernel
theorem dX2_setSteps_49 : decode cX2_setSteps 49 = .ok (.iinc 2 1, 3) := by decide +kernel
theorem dX2_setSteps_52 : decode cX2_setSteps 52 = .ok (.goto (-37), 3) := by decide +kernel
theorem dX2_setSteps_55 : decode cX2_setSteps 55 = .ok (.iinc 1 1, 3) := by decide +kernel
theorem dX2_setSteps_58 : decode cX2_setSteps 58 = .ok (.goto (-56), 3) := by decide +kernel
theorem dX2_setSteps_61 : decode cX2_setSteps 61 = .ok (.return_, 1) := by decide +kernel
theorem dX2_stepPlace_0 : decode cX2_stepPlace 0 = .ok (.iload_n 0, 1) := by decide +kernel
theorem dX2_stepPlace_1 : decode cX2_stepPlace 1 = .ok (.iconst (-1), 1) := by decide +kernel
theorem dX2_stepPlace_2 : decode cX2_stepPlace 2 = .ok (.if_icmp .ne 8, 3) := by decide +kernel
theorem dX2_stepPlace_5 : decode cX2_stepPlace 5 = .ok (.bipush 10, 2) := by decide +kernel
theorem dX2_stepPlace_7 : decode cX2_stepPlace 7 = .ok (.goto 4, 3) := by decide +kernel
theorem dX2_stepPlace_10 : decode cX2_stepPlace 10 = .ok (.iload_n 0, 1) := by decide +kernel
theorem dX2_stepPlace_11 : decode cX2_stepPlace 11 = .ok (.bipush 10, 2) := by decide +kernel
theorem dX2_stepPlace_13 : decode cX2_stepPlace 13 = .ok (.imul, 1) := by decide +kernel
theorem dX2_stepPlace_14 : decode cX2_stepPlace 14 = .ok (.iload_n 1, 1) := by decide +kernel
theorem dX2_stepPlace_15 : decode cX2_stepPlace 15 = .ok (.iadd, 1) := by decide +kernel
theorem dX2_stepPlace_16 : decode cX2_stepPlace 16 = .ok (.ireturn, 1) := by decide +kernel
theorem dX1_centsOfStep_0 : decode cX1_centsOfStep 0 = .ok (.iload_n 1, 1) := by decide +kernel
theorem dX1_centsOfStep_1 : decode cX1_centsOfStep 1 = .ok (.iconst (-1), 1) := by decide +kernel
theorem dX1_centsOfStep_2 : decode cX1_centsOfStep 2 = .ok (.if_icmp .ne 10, 3) := by decide +kernel
theorem dX1_centsOfStep_5 : decode cX1_centsOfStep 5 = .ok (.aload_n 0, 1) := by decide +kernel
theorem dX1_centsOfStep_6 : decode cX1_centsOfStep 6 = .ok (.getfield 21, 3) := by decide +kernel
theorem dX1_centsOfStep_9 : decode cX1_centsOfStep 9 = .ok (.iload_n 2, 1) := by decide +kernel
theorem dX1_centsOfStep_10 : decode cX1_centsOfStep 10 = .ok (.laload, 1) := by decide +kernel
theorem dX1_centsOfStep_11 : decode cX1_centsOfStep 11 = .ok (.lreturn, 1) := by decide +kernel
theorem dX1_centsOfStep_12 : decode cX1_centsOfStep 12 = .ok (.aload_n 0, 1) := by decide +kernel
theorem dX1_centsOfStep_13 : decode cX1_centsOfStep 13 = .ok (.getfield 28, 3) := by decide +kernel
theorem dX1_centsOfStep_16 : decode cX1_centsOfStep 16 = .ok (.aload_n 0, 1) := by decide +kernel
theorem dX1_centsOfStep_17 : decode cX1_centsOfStep 17 = .ok (.getfield 15, 3) := by decide +kernel
theorem dX1_centsOfStep_20 : decode cX1_centsOfStep 20 = .ok (.iload_n 1, 1) := by decide +kernel
theorem dX1_centsOfStep_21 : decode cX1_centsOfStep 21 = .ok (.iaload, 1) := by decide +kernel
theorem dX1_centsOfStep_22 : decode cX1_centsOfStep 22 = .ok (.bipush 6, 2) := by decide +kernel
theorem dX1_centsOfStep_24 : decode cX1_centsOfStep 24 = .ok (.imul, 1) := by decide +kernel
theorem dX1_centsOfStep_25 : decode cX1_centsOfStep 25 = .ok (.aload_n 0, 1) := by decide +kernel
theorem dX1_centsOfStep_26 : decode cX1_centsOfStep 26 = .ok (.getfield 15, 3) := by decide +kernel
theorem dX1_centsOfStep_29 : decode cX1_centsOfStep 29 = .ok (.iload_n 2, 1) := by decide +kernel
theorem dX1_centsOfStep_30 : decode cX1_centsOfStep 30 = .ok (.iaload, 1) := by decide +kernel
theorem dX1_centsOfStep_31 : decode cX1_centsOfStep 31 = .ok (.iadd, 1) := by decide +kernel
theorem dX1_centsOfStep_32 : decode cX1_centsOfStep 32 = .ok (.laload, 1) := by decide +kernel
theorem dX1_centsOfStep_33 : decode cX1_centsOfStep 33 = .ok (.lstore_n 3, 1) := by decide +kernel
theorem dX1_centsOfStep_34 : decode cX1_centsOfStep 34 = .ok (.aload_n 0, 1) := by decide +kernel
theorem dX1_centsOfStep_35 : decode cX1_centsOfStep 35 = .ok (.getfield 31, 3) := by decide +kernel
theorem dX1_centsOfStep_38 : decode cX1_centsOfStep 38 = .ok (.aload_n 0, 1) := by decide +kernel
theorem dX1_centsOfStep_39 : decode cX1_centsOfStep 39 = .ok (.getfield 18, 3) := by decide +kernel
theorem dX1_centsOfStep_42 : decode cX1_centsOfStep 42 = .ok (.iload_n 1, 1) := by decide +kernel
theorem dX1_centsOfStep_43 : decode cX1_centsOfStep 43 = .ok (.iaload, 1) := by decide +kernel
theorem dX1_centsOfStep_44 : decode cX1_centsOfStep 44 = .ok (.bipush 6, 2) := by decide +kernel
theorem dX1_centsOfStep_46 : decode cX1_centsOfStep 46 = .ok (.imul, 1) := by decide +kernel
theorem dX1_centsOfStep_47 : decode cX1_centsOfStep 47 = .ok (.aload_n 0, 1) := by decide +kernel
theorem dX1_centsOfStep_48 : decode cX1_centsOfStep 48 = .ok (.getfield 18, 3) := by decide +kernel
theorem dX1_centsOfStep_51 : decode cX1_centsOfStep 51 = .ok (.iload_n 2, 1) := by decide +kernel
theorem dX1_centsOfStep_52 : decode cX1_centsOfStep 52 = .ok (.iaload, 1) := by decide +kernel
theorem dX1_centsOfStep_53 : decode cX1_centsOfStep 53 = .ok (.iadd, 1) := by decide +kernel
theorem dX1_centsOfStep_54 : decode cX1_centsOfStep 54 = .ok (.laload, 1) := by decide +kernel
theorem dX1_centsOfStep_55 : decode cX1_centsOfStep 55 = .ok (.lstore 5, 2) := by decide +kernel
theorem dX1_centsOfStep_57 : decode cX1_centsOfStep 57 = .ok (.aload_n 0, 1) := by decide +kernel
theorem dX1_centsOfStep_58 : decode cX1_centsOfStep 58 = .ok (.getfield 21, 3) := by decide +kernel
theorem dX1_centsOfStep_61 : decode cX1_centsOfStep 61 = .ok (.iload_n 2, 1) := by decide +kernel
theorem dX1_centsOfStep_62 : decode cX1_centsOfStep 62 = .ok (.laload, 1) := by decide +kernel
theorem dX1_centsOfStep_63 : decode cX1_centsOfStep 63 = .ok (.lload_n 3, 1) := by decide +kernel
theorem dX1_centsOfStep_64 : decode cX1_centsOfStep 64 = .ok (.ladd, 1) := by decide +kernel
theorem dX1_centsOfStep_65 : decode cX1_centsOfStep 65 = .ok (.lload 5, 2) := by decide +kernel
theorem dX1_centsOfStep_67 : decode cX1_centsOfStep 67 = .ok (.ladd, 1) := by decide +kernel
theorem dX1_centsOfStep_68 : decode cX1_centsOfStep 68 = .ok (.lreturn, 1) := by decide +kernel
theorem dX2_setMost_0 : decode cX2_setMost 0 = .ok (.aload_n 0, 1) := by decide +kernel
theorem dX2_setMost_1 : decode cX2_setMost 1 = .ok (.getfield 21, 3) := by decide +kernel
theorem dX2_setMost_4 : decode cX2_setMost 4 = .ok (.iload_n 1, 1) := by decide +kernel
theorem dX2_setMost_5 : decode cX2_setMost 5 = .ok (.invokevirtual 78, 3) := by decide +kernel
theorem dX2_setMost_8 : decode cX2_setMost 8 = .ok (.istore_n 2, 1) := by decide +kernel
theorem dX2_setMost_9 : decode cX2_setMost 9 = .ok (.iload_n 2, 1) := by decide +kernel
theorem dX2_setMost_10 : decode cX2_setMost 10 = .ok (.ifCond .ne 4, 3) := by decide +kernel
theorem dX2_setMost_13 : decode cX2_setMost 13 = .ok (.return_, 1) := by decide +kernel
theorem dX2_setMost_14 : decode cX2_setMost 14 = .ok (.aload_n 0, 1) := by decide +kernel
theorem dX2_setMost_15 : decode cX2_setMost 15 = .ok (.getfield 21, 3) := by decide +kernel
theorem dX2_setMost_18 : decode cX2_setMost 18 = .ok (.iload_n 1, 1) := by decide +kernel
theorem dX2_setMost_19 : decode cX2_setMost 19 = .ok (.invokevirtual 45, 3) := by decide +kernel
theorem dX2_setMost_22 : decode cX2_setMost 22 = .ok (.istore_n 3, 1) := by decide +kernel
theorem dX2_setMost_23 : decode cX2_setMost 23 = .ok (.aload_n 0, 1) := by decide +kernel
theorem dX2_setMost_24 : decode cX2_setMost 24 = .ok (.iload_n 1, 1) := by decide +kernel
theorem dX2_setMost_25 : decode cX2_setMost 25 = .ok (.invokevirtual 49, 3) := by decide +kernel
theorem dX2_setMost_28 : decode cX2_setMost 28 = .ok (.lstore 4, 2) := by decide +kernel
theorem dX2_setMost_30 : decode cX2_setMost 30 = .ok (.iconst 0, 1) := by decide +kernel
theorem dX2_setMost_31 : decode cX2_setMost 31 = .ok (.istore 6, 2) := by decide +kernel
theorem dX2_setMost_33 : decode cX2_setMost 33 = .ok (.iload 6, 2) := by decide +kernel
theorem dX2_setMost_35 : decode cX2_setMost 35 = .ok (.aload_n 0, 1) := by decide +kernel
theorem dX2_setMost_36 : decode cX2_setMost 36 = .ok (.getfield 21, 3) := by decide +kernel
theorem dX2_setMost_39 : decode cX2_setMost 39 = .ok (.getfield 56, 3) := by decide +kernel
theorem dX2_setMost_42 : decode cX2_setMost 42 = .ok (.if_icmp .ge 40, 3) := by decide +kernel
theorem dX2_setMost_45 : decode cX2_setMost 45 = .ok (.iload_n 2, 1) := by decide +kernel
theorem dX2_setMost_46 : decode cX2_setMost 46 = .ok (.iload 6, 2) := by decide +kernel
theorem dX2_setMost_48 : decode cX2_setMost 48 = .ok (.invokestatic 60, 3) := by decide +kernel
theorem dX2_setMost_51 : decode cX2_setMost 51 = .ok (.ifCond .eq 25, 3) := by decide +kernel
theorem dX2_setMost_54 : decode cX2_setMost 54 = .ok (.aload_n 0, 1) := by decide +kernel
theorem dX2_setMost_55 : decode cX2_setMost 55 = .ok (.getfield 18, 3) := by decide +kernel
theorem dX2_setMost_58 : decode cX2_setMost 58 = .ok (.iload_n 1, 1) := by decide +kernel
theorem dX2_setMost_59 : decode cX2_setMost 59 = .ok (.bipush 10, 2) := by decide +kernel
theorem dX2_setMost_61 : decode cX2_setMost 61 = .ok (.imul, 1) := by decide +kernel
theorem dX2_setMost_62 : decode cX2_setMost 62 = .ok (.iload 6, 2) := by decide +kernel
theorem dX2_setMost_64 : decode cX2_setMost 64 = .ok (.iadd, 1) := by decide +kernel
theorem dX2_setMost_65 : decode cX2_setMost 65 = .ok (.aload_n 0, 1) := by decide +kernel
theorem dX2_setMost_66 : decode cX2_setMost 66 = .ok (.iload 6, 2) := by decide +kernel
theorem dX2_setMost_68 : decode cX2_setMost 68 = .ok (.iload_n 1, 1) := by decide +kernel
theorem dX2_setMost_69 : decode cX2_setMost 69 = .ok (.iload_n 3, 1) := by decide +kernel
theorem dX2_setMost_70 : decode cX2_setMost 70 = .ok (.lload 4, 2) := by decide +kernel
theorem dX2_setMost_72 : decode cX2_setMost 72 = .ok (.invokevirtual 52, 3) := by decide +kernel
theorem dX2_setMost_75 : decode cX2_setMost 75 = .ok (.lastore, 1) := by decide +kernel
theorem dX2_setMost_76 : decode cX2_setMost 76 = .ok (.iinc 6 1, 3) := by decide +kernel
theorem dX2_setMost_79 : decode cX2_setMost 79 = .ok (.goto (-46), 3) := by decide +kernel
theorem dX2_setMost_82 : decode cX2_setMost 82 = .ok (.return_, 1) := by decide +kernel
theorem dX1_nextsOf_0 : decode cX1_nextsOf 0 = .ok (.iconst 0, 1) := by decide +kernel
theorem dX1_nextsOf_1 : decode cX1_nextsOf 1 = .ok (.istore_n 2, 1) := by decide +kernel
theorem dX1_nextsOf_2 : decode cX1_nextsOf 2 = .ok (.iconst 0, 1) := by decide +kernel
theorem dX1_nextsOf_3 : decode cX1_nextsOf 3 = .ok (.istore_n 3, 1) := by decide +kernel
theorem dX1_nextsOf_4 : decode cX1_nextsOf 4 = .ok (.iload_n 3, 1) := by decide +kernel
theorem dX1_nextsOf_5 : decode cX1_nextsOf 5 = .ok (.aload_n 0, 1) := by decide +kernel
theorem dX1_nextsOf_6 : decode cX1_nextsOf 6 = .ok (.getfield 54, 3) := by decide +kernel
theorem dX1_nextsOf_9 : decode cX1_nextsOf 9 = .ok (.if_icmp .ge 36, 3) := by decide +kernel
theorem dX1_nextsOf_12 : decode cX1_nextsOf 12 = .ok (.iload_n 1, 1) := by decide +kernel
theorem dX1_nextsOf_13 : decode cX1_nextsOf 13 = .ok (.iload_n 3, 1) := by decide +kernel
theorem dX1_nextsOf_14 : decode cX1_nextsOf 14 = .ok (.invokestatic 58, 3) := by decide +kernel
theorem dX1_nextsOf_17 : decode cX1_nextsOf 17 = .ok (.ifCond .ne 22, 3) := by decide +kernel
theorem dX1_nextsOf_20 : decode cX1_nextsOf 20 = .ok (.aload_n 0, 1) := by decide +kernel
theorem dX1_nextsOf_21 : decode cX1_nextsOf 21 = .ok (.getfield 25, 3) := by decide +kernel
theorem dX1_nextsOf_24 : decode cX1_nextsOf 24 = .ok (.iload_n 3, 1) := by decide +kernel
theorem dX1_nextsOf_25 : decode cX1_nextsOf 25 = .ok (.iaload, 1) := by decide +kernel
theorem dX1_nextsOf_26 : decode cX1_nextsOf 26 = .ok (.iload_n 1, 1) := by decide +kernel
theorem dX1_nextsOf_27 : decode cX1_nextsOf 27 = .ok (.iconst (-1), 1) := by decide +kernel
theorem dX1_nextsOf_28 : decode cX1_nextsOf 28 = .ok (.ixor, 1) := by decide +kernel
theorem dX1_nextsOf_29 : decode cX1_nextsOf 29 = .ok (.iand, 1) := by decide +kernel
theorem dX1_nextsOf_30 : decode cX1_nextsOf 30 = .ok (.ifCond .ne 9, 3) := by decide +kernel
theorem dX1_nextsOf_33 : decode cX1_nextsOf 33 = .ok (.iload_n 2, 1) := by decide +kernel
theorem dX1_nextsOf_34 : decode cX1_nextsOf 34 = .ok (.iconst 1, 1) := by decide +kernel
theorem dX1_nextsOf_35 : decode cX1_nextsOf 35 = .ok (.iload_n 3, 1) := by decide +kernel
theorem dX1_nextsOf_36 : decode cX1_nextsOf 36 = .ok (.ishl, 1) := by decide +kernel
theorem dX1_nextsOf_37 : decode cX1_nextsOf 37 = .ok (.ior, 1) := by decide +kernel
theorem dX1_nextsOf_38 : decode cX1_nextsOf 38 = .ok (.istore_n 2, 1) := by decide +kernel
theorem dX1_nextsOf_39 : decode cX1_nextsOf 39 = .ok (.iinc 3 1, 3) := by decide +kernel
theorem dX1_nextsOf_42 : decode cX1_nextsOf 42 = .ok (.goto (-38), 3) := by decide +kernel
theorem dX1_nextsOf_45 : decode cX1_nextsOf 45 = .ok (.iload_n 2, 1) := by decide +kernel
theorem dX1_nextsOf_46 : decode cX1_nextsOf 46 = .ok (.ireturn, 1) := by decide +kernel
theorem dX2_endOf_0 : decode cX2_endOf 0 = .ok (.aload_n 0, 1) := by decide +kernel
theorem dX2_endOf_1 : decode cX2_endOf 1 = .ok (.getfield 21, 3) := by decide +kernel
theorem dX2_endOf_4 : decode cX2_endOf 4 = .ok (.iload_n 1, 1) := by decide +kernel
theorem dX2_endOf_5 : decode cX2_endOf 5 = .ok (.invokevirtual 87, 3) := by decide +kernel
theorem dX2_endOf_8 : decode cX2_endOf 8 = .ok (.istore_n 2, 1) := by decide +kernel
theorem dX2_endOf_9 : decode cX2_endOf 9 = .ok (.aload_n 0, 1) := by decide +kernel
theorem dX2_endOf_10 : decode cX2_endOf 10 = .ok (.getfield 21, 3) := by decide +kernel
theorem dX2_endOf_13 : decode cX2_endOf 13 = .ok (.sipush 4095, 3) := by decide +kernel
theorem dX2_endOf_16 : decode cX2_endOf 16 = .ok (.aload_n 0, 1) := by decide +kernel
theorem dX2_endOf_17 : decode cX2_endOf 17 = .ok (.getfield 21, 3) := by decide +kernel
theorem dX2_endOf_20 : decode cX2_endOf 20 = .ok (.iload_n 1, 1) := by decide +kernel
theorem dX2_endOf_21 : decode cX2_endOf 21 = .ok (.invokevirtual 90, 3) := by decide +kernel
theorem dX2_endOf_24 : decode cX2_endOf 24 = .ok (.iconst (-1), 1) := by decide +kernel
theorem dX2_endOf_25 : decode cX2_endOf 25 = .ok (.ixor, 1) := by decide +kernel
theorem dX2_endOf_26 : decode cX2_endOf 26 = .ok (.iand, 1) := by decide +kernel
theorem dX2_endOf_27 : decode cX2_endOf 27 = .ok (.invokevirtual 93, 3) := by decide +kernel
theorem dX2_endOf_30 : decode cX2_endOf 30 = .ok (.ldc2_w 76, 3) := by decide +kernel
theorem dX2_endOf_33 : decode cX2_endOf 33 = .ok (.lmul, 1) := by decide +kernel
theorem dX2_endOf_34 : decode cX2_endOf 34 = .ok (.lstore_n 3, 1) := by decide +kernel
theorem dX2_endOf_35 : decode cX2_endOf 35 = .ok (.iconst 0, 1) := by decide +kernel
theorem dX2_endOf_36 : decode cX2_endOf 36 = .ok (.istore 5, 2) := by decide +kernel
theorem dX2_endOf_38 : decode cX2_endOf 38 = .ok (.iload 5, 2) := by decide +kernel
theorem dX2_endOf_40 : decode cX2_endOf 40 = .ok (.bipush 12, 2) := by decide +kernel
theorem dX2_endOf_42 : decode cX2_endOf 42 = .ok (.if_icmp .ge 28, 3) := by decide +kernel
theorem dX2_endOf_45 : decode cX2_endOf 45 = .ok (.iload_n 2, 1) := by decide +kernel
theorem dX2_endOf_46 : decode cX2_endOf 46 = .ok (.iload 5, 2) := by decide +kernel
theorem dX2_endOf_48 : decode cX2_endOf 48 = .ok (.invokestatic 60, 3) := by decide +kernel
theorem dX2_endOf_51 : decode cX2_endOf 51 = .ok (.ifCond .eq 13, 3) := by decide +kernel
theorem dX2_endOf_54 : decode cX2_endOf 54 = .ok (.lload_n 3, 1) := by decide +kernel
theorem dX2_endOf_55 : decode cX2_endOf 55 = .ok (.aload_n 0, 1) := by decide +kernel
theorem dX2_endOf_56 : decode cX2_endOf 56 = .ok (.getfield 9, 3) := by decide +kernel
theorem dX2_endOf_59 : decode cX2_endOf 59 = .ok (.iload 5, 2) := by decide +kernel
theorem dX2_endOf_61 : decode cX2_endOf 61 = .ok (.laload, 1) := by decide +kernel
theorem dX2_endOf_62 : decode cX2_endOf 62 = .ok (.ladd, 1) := by decide +kernel
theorem dX2_endOf_63 : decode cX2_endOf 63 = .ok (.lstore_n 3, 1) := by decide +kernel
theorem dX2_endOf_64 : decode cX2_endOf 64 = .ok (.iinc 5 1, 3) := by decide +kernel
theorem dX2_endOf_67 : decode cX2_endOf 67 = .ok (.goto (-29), 3) := by decide +kernel
theorem dX2_endOf_70 : decode cX2_endOf 70 = .ok (.lload_n 3, 1) := by decide +kernel
theorem dX2_endOf_71 : decode cX2_endOf 71 = .ok (.lreturn, 1) := by decide +kernel
theorem dX1_wholeBy_0 : decode cX1_wholeBy 0 = .ok (.aload_n 0, 1) := by decide +kernel
theorem dX1_wholeBy_1 : decode cX1_wholeBy 1 = .ok (.iload_n 1, 1) := by decide +kernel
theorem dX1_wholeBy_2 : decode cX1_wholeBy 2 = .ok (.invokevirtual 69, 3) := by decide +kernel
theorem dX1_wholeBy_5 : decode cX1_wholeBy 5 = .ok (.aload_n 0, 1) := by decide +kernel
theorem dX1_wholeBy_6 : decode cX1_wholeBy 6 = .ok (.iload_n 1, 1) := by decide +kernel
theorem dX1_wholeBy_7 : decode cX1_wholeBy 7 = .ok (.aload_n 0, 1) := by decide +kernel
theorem dX1_wholeBy_8 : decode cX1_wholeBy 8 = .ok (.getfield 72, 3) := by decide +kernel
theorem dX1_wholeBy_11 : decode cX1_wholeBy 11 = .ok (.iand, 1) := by decide +kernel
theorem dX1_wholeBy_12 : decode cX1_wholeBy 12 = .ok (.invokevirtual 69, 3) := by decide +kernel
theorem dX1_wholeBy_15 : decode cX1_wholeBy 15 = .ok (.iconst (-1), 1) := by decide +kernel
theorem dX1_wholeBy_16 : decode cX1_wholeBy 16 = .ok (.ixor, 1) := by decide +kernel
theorem dX1_wholeBy_17 : decode cX1_wholeBy 17 = .ok (.iand, 1) := by decide +kernel
theorem dX1_wholeBy_18 : decode cX1_wholeBy 18 = .ok (.ireturn, 1) := by decide +kernel
theorem dX1_freedBy_0 : decode cX1_freedBy 0 = .ok (.iconst 0, 1) := by decide +kernel
theorem dX1_freedBy_1 : decode cX1_freedBy 1 = .ok (.istore_n 2, 1) := by decide +kernel
theorem dX1_freedBy_2 : decode cX1_freedBy 2 = .ok (.iconst 0, 1) := by decide +kernel
theorem dX1_freedBy_3 : decode cX1_freedBy 3 = .ok (.istore_n 3, 1) := by decide +kernel
theorem dX1_freedBy_4 : decode cX1_freedBy 4 = .ok (.iload_n 3, 1) := by decide +kernel
theorem dX1_freedBy_5 : decode cX1_freedBy 5 = .ok (.aload_n 0, 1) := by decide +kernel
theorem dX1_freedBy_6 : decode cX1_freedBy 6 = .ok (.getfield 54, 3) := by decide +kernel
theorem dX1_freedBy_9 : decode cX1_freedBy 9 = .ok (.if_icmp .ge 38, 3) := by decide +kernel
theorem dX1_freedBy_12 : decode cX1_freedBy 12 = .ok (.iload_n 1, 1) := by decide +kernel
theorem dX1_freedBy_13 : decode cX1_freedBy 13 = .ok (.iload_n 3, 1) := by decide +kernel
theorem dX1_freedBy_14 : decode cX1_freedBy 14 = .ok (.invokestatic 58, 3) := by decide +kernel
theorem dX1_freedBy_17 : decode cX1_freedBy 17 = .ok (.ifCond .eq 24, 3) := by decide +kernel
theorem dX1_freedBy_20 : decode cX1_freedBy 20 = .ok (.aload_n 0, 1) := by decide +kernel
theorem dX1_freedBy_21 : decode cX1_freedBy 21 = .ok (.getfield 9, 3) := by decide +kernel
theorem dX1_freedBy_24 : decode cX1_freedBy 24 = .ok (.iload_n 3, 1) := by decide +kernel
theorem dX1_freedBy_25 : decode cX1_freedBy 25 = .ok (.iaload, 1) := by decide +kernel
theorem dX1_freedBy_26 : decode cX1_freedBy 26 = .ok (.iconst (-1), 1) := by decide +kernel
theorem dX1_freedBy_27 : decode cX1_freedBy 27 = .ok (.if_icmp .eq 14, 3) := by decide +kernel
theorem dX1_freedBy_30 : decode cX1_freedBy 30 = .ok (.iload_n 2, 1) := by decide +kernel
theorem dX1_freedBy_31 : decode cX1_freedBy 31 = .ok (.iconst 1, 1) := by decide +kernel
theorem dX1_freedBy_32 : decode cX1_freedBy 32 = .ok (.aload_n 0, 1) := by decide +kernel
theorem dX1_freedBy_33 : decode cX1_freedBy 33 = .ok (.getfield 9, 3) := by decide +kernel
theorem dX1_freedBy_36 : decode cX1_freedBy 36 = .ok (.iload_n 3, 1) := by decide +kernel
theorem dX1_freedBy_37 : decode cX1_freedBy 37 = .ok (.iaload, 1) := by decide +kernel
theorem dX1_freedBy_38 : decode cX1_freedBy 38 = .ok (.ishl, 1) := by decide +kernel
theorem dX1_freedBy_39 : decode cX1_freedBy 39 = .ok (.ior, 1) := by decide +kernel
theorem dX1_freedBy_40 : decode cX1_freedBy 40 = .ok (.istore_n 2, 1) := by decide +kernel
theorem dX1_freedBy_41 : decode cX1_freedBy 41 = .ok (.iinc 3 1, 3) := by decide +kernel
theorem dX1_freedBy_44 : decode cX1_freedBy 44 = .ok (.goto (-40), 3) := by decide +kernel
theorem dX1_freedBy_47 : decode cX1_freedBy 47 = .ok (.iload_n 2, 1) := by decide +kernel
theorem dX1_freedBy_48 : decode cX1_freedBy 48 = .ok (.ireturn, 1) := by decide +kernel
theorem dX1_restWorth_0 : decode cX1_restWorth 0 = .ok (.aload_n 0, 1) := by decide +kernel
theorem dX1_restWorth_1 : decode cX1_restWorth 1 = .ok (.iload_n 1, 1) := by decide +kernel
theorem dX1_restWorth_2 : decode cX1_restWorth 2 = .ok (.invokevirtual 62, 3) := by decide +kernel
theorem dX1_restWorth_5 : decode cX1_restWorth 5 = .ok (.istore_n 2, 1) := by decide +kernel
theorem dX1_restWorth_6 : decode cX1_restWorth 6 = .ok (.iload_n 2, 1) := by decide +kernel
theorem dX1_restWorth_7 : decode cX1_restWorth 7 = .ok (.aload_n 0, 1) := by decide +kernel
theorem dX1_restWorth_8 : decode cX1_restWorth 8 = .ok (.getfield 66, 3) := by decide +kernel
theorem dX1_restWorth_11 : decode cX1_restWorth 11 = .ok (.if_icmp .ge 12, 3) := by decide +kernel
theorem dX1_restWorth_14 : decode cX1_restWorth 14 = .ok (.aload_n 0, 1) := by decide +kernel
theorem dX1_restWorth_15 : decode cX1_restWorth 15 = .ok (.getfield 43, 3) := by decide +kernel
theorem dX1_restWorth_18 : decode cX1_restWorth 18 = .ok (.iload_n 2, 1) := by decide +kernel
theorem dX1_restWorth_19 : decode cX1_restWorth 19 = .ok (.laload, 1) := by decide +kernel
theorem dX1_restWorth_20 : decode cX1_restWorth 20 = .ok (.goto 4, 3) := by decide +kernel
theorem dX1_restWorth_23 : decode cX1_restWorth 23 = .ok (.lconst 0, 1) := by decide +kernel
theorem dX1_restWorth_24 : decode cX1_restWorth 24 = .ok (.lreturn, 1) := by decide +kernel
theorem dX2_mostFrom_0 : decode cX2_mostFrom 0 = .ok (.lload 4, 2) := by decide +kernel
theorem dX2_mostFrom_2 : decode cX2_mostFrom 2 = .ok (.lstore 6, 2) := by decide +kernel
theorem dX2_mostFrom_4 : decode cX2_mostFrom 4 = .ok (.iconst 0, 1) := by decide +kernel
theorem dX2_mostFrom_5 : decode cX2_mostFrom 5 = .ok (.istore 8, 2) := by decide +kernel
theorem dX2_mostFrom_7 : decode cX2_mostFrom 7 = .ok (.iload 8, 2) := by decide +kernel
theorem dX2_mostFrom_9 : decode cX2_mostFrom 9 = .ok (.aload_n 0, 1) := by decide +kernel
theorem dX2_mostFrom_10 : decode cX2_mostFrom 10 = .ok (.getfield 21, 3) := by decide +kernel
theorem dX2_mostFrom_13 : decode cX2_mostFrom 13 = .ok (.getfield 56, 3) := by decide +kernel
theorem dX2_mostFrom_16 : decode cX2_mostFrom 16 = .ok (.if_icmp .ge 33, 3) := by decide +kernel
theorem dX2_mostFrom_19 : decode cX2_mostFrom 19 = .ok (.iload_n 3, 1) := by decide +kernel
theorem dX2_mostFrom_20 : decode cX2_mostFrom 20 = .ok (.iload 8, 2) := by decide +kernel
theorem dX2_mostFrom_22 : decode cX2_mostFrom 22 = .ok (.invokestatic 60, 3) := by decide +kernel
theorem dX2_mostFrom_25 : decode cX2_mostFrom 25 = .ok (.ifCond .eq 18, 3) := by decide +kernel
theorem dX2_mostFrom_28 : decode cX2_mostFrom 28 = .ok (.lload 6, 2) := by decide +kernel
theorem dX2_mostFrom_30 : decode cX2_mostFrom 30 = .ok (.aload_n 0, 1) := by decide +kernel
theorem dX2_mostFrom_31 : decode cX2_mostFrom 31 = .ok (.iload_n 1, 1) := by decide +kernel
theorem dX2_mostFrom_32 : decode cX2_mostFrom 32 = .ok (.iload_n 2, 1) := by decide +kernel
theorem dX2_mostFrom_33 : decode cX2_mostFrom 33 = .ok (.iload 8, 2) := by decide +kernel
theorem dX2_mostFrom_35 : decode cX2_mostFrom 35 = .ok (.invokevirtual 64, 3) := by decide +kernel
theorem dX2_mostFrom_38 : decode cX2_mostFrom 38 = .ok (.invokestatic 81, 3) := by decide +kernel
theorem dX2_mostFrom_41 : decode cX2_mostFrom 41 = .ok (.lstore 6, 2) := by decide +kernel
theorem dX2_mostFrom_43 : decode cX2_mostFrom 43 = .ok (.iinc 8 1, 3) := by decide +kernel
theorem dX2_mostFrom_46 : decode cX2_mostFrom 46 = .ok (.goto (-39), 3) := by decide +kernel
theorem dX2_mostFrom_49 : decode cX2_mostFrom 49 = .ok (.lload 6, 2) := by decide +kernel
theorem dX2_mostFrom_51 : decode cX2_mostFrom 51 = .ok (.lreturn, 1) := by decide +kernel
theorem dX2_mostBy_0 : decode cX2_mostBy 0 = .ok (.aload_n 0, 1) := by decide +kernel
theorem dX2_mostBy_1 : decode cX2_mostBy 1 = .ok (.getfield 18, 3) := by decide +kernel
theorem dX2_mostBy_4 : decode cX2_mostBy 4 = .ok (.iload_n 2, 1) := by decide +kernel
theorem dX2_mostBy_5 : decode cX2_mostBy 5 = .ok (.iconst 1, 1) := by decide +kernel
theorem dX2_mostBy_6 : decode cX2_mostBy 6 = .ok (.iload_n 3, 1) := by decide +kernel
theorem dX2_mostBy_7 : decode cX2_mostBy 7 = .ok (.ishl, 1) := by decide +kernel
theorem dX2_mostBy_8 : decode cX2_mostBy 8 = .ok (.ior, 1) := by decide +kernel
theorem dX2_mostBy_9 : decode cX2_mostBy 9 = .ok (.bipush 10, 2) := by decide +kernel
theorem dX2_mostBy_11 : decode cX2_mostBy 11 = .ok (.imul, 1) := by decide +kernel
theorem dX2_mostBy_12 : decode cX2_mostBy 12 = .ok (.iload_n 3, 1) := by decide +kernel
theorem dX2_mostBy_13 : decode cX2_mostBy 13 = .ok (.iadd, 1) := by decide +kernel
theorem dX2_mostBy_14 : decode cX2_mostBy 14 = .ok (.laload, 1) := by decide +kernel
theorem dX2_mostBy_15 : decode cX2_mostBy 15 = .ok (.aload_n 0, 1) := by decide +kernel
theorem dX2_mostBy_16 : decode cX2_mostBy 16 = .ok (.getfield 15, 3) := by decide +kernel
theorem dX2_mostBy_19 : decode cX2_mostBy 19 = .ok (.iload_n 1, 1) := by decide +kernel
theorem dX2_mostBy_20 : decode cX2_mostBy 20 = .ok (.iload_n 3, 1) := by decide +kernel
theorem dX2_mostBy_21 : decode cX2_mostBy 21 = .ok (.invokestatic 68, 3) := by decide +kernel
theorem dX2_mostBy_24 : decode cX2_mostBy 24 = .ok (.laload, 1) := by decide +kernel
theorem dX2_mostBy_25 : decode cX2_mostBy 25 = .ok (.lsub, 1) := by decide +kernel
theorem dX2_mostBy_26 : decode cX2_mostBy 26 = .ok (.lreturn, 1) := by decide +kernel
theorem dX2_bestNext_0 : decode cX2_bestNext 0 = .ok (.aload_n 0, 1) := by decide +kernel
theorem dX2_bestNext_1 : decode cX2_bestNext 1 = .ok (.getfield 21, 3) := by decide +kernel
theorem dX2_bestNext_4 : decode cX2_bestNext 4 = .ok (.iload_n 1, 1) := by decide +kernel
theorem dX2_bestNext_5 : decode cX2_bestNext 5 = .ok (.invokevirtual 45, 3) := by decide +kernel
theorem dX2_bestNext_8 : decode cX2_bestNext 8 = .ok (.istore_n 3, 1) := by decide +kernel
theorem dX2_bestNext_9 : decode cX2_bestNext 9 = .ok (.aload_n 0, 1) := by decide +kernel
theorem dX2_bestNext_10 : decode cX2_bestNext 10 = .ok (.iload_n 1, 1) := by decide +kernel
theorem dX2_bestNext_11 : decode cX2_bestNext 11 = .ok (.invokevirtual 49, 3) := by decide +kernel
theorem dX2_bestNext_14 : decode cX2_bestNext 14 = .ok (.lstore 4, 2) := by decide +kernel
theorem dX2_bestNext_16 : decode cX2_bestNext 16 = .ok (.aload_n 0, 1) := by decide +kernel
theorem dX2_bestNext_17 : decode cX2_bestNext 17 = .ok (.iload_n 2, 1) := by decide +kernel
theorem dX2_bestNext_18 : decode cX2_bestNext 18 = .ok (.iload_n 1, 1) := by decide +kernel
theorem dX2_bestNext_19 : decode cX2_bestNext 19 = .ok (.iload_n 3, 1) := by decide +kernel
theorem dX2_bestNext_20 : decode cX2_bestNext 20 = .ok (.lload 4, 2) := by decide +kernel
theorem dX2_bestNext_22 : decode cX2_bestNext 22 = .ok (.invokevirtual 52, 3) := by decide +kernel
theorem dX2_bestNext_25 : decode cX2_bestNext 25 = .ok (.lstore 6, 2) := by decide +kernel
theorem dX2_bestNext_27 : decode cX2_bestNext 27 = .ok (.lload 6, 2) := by decide +kernel
theorem dX2_bestNext_29 : decode cX2_bestNext 29 = .ok (.lload 4, 2) := by decide +kernel
theorem dX2_bestNext_31 : decode cX2_bestNext 31 = .ok (.lcmp, 1) := by decide +kernel
theorem dX2_bestNext_32 : decode cX2_bestNext 32 = .ok (.ifCond .ne 5, 3) := by decide +kernel
theorem dX2_bestNext_35 : decode cX2_bestNext 35 = .ok (.iconst (-1), 1) := by decide +kernel
theorem dX2_bestNext_36 : decode cX2_bestNext 36 = .ok (.ireturn, 1) := by decide +kernel
theorem dX2_bestNext_37 : decode cX2_bestNext 37 = .ok (.iconst 0, 1) := by decide +kernel
theorem dX2_bestNext_38 : decode cX2_bestNext 38 = .ok (.istore 8, 2) := by decide +kernel
theorem dX2_bestNext_40 : decode cX2_bestNext 40 = .ok (.iload 8, 2) := by decide +kernel
theorem dX2_bestNext_42 : decode cX2_bestNext 42 = .ok (.aload_n 0, 1) := by decide +kernel
theorem dX2_bestNext_43 : decode cX2_bestNext 43 = .ok (.getfield 21, 3) := by decide +kernel
theorem dX2_bestNext_46 : decode cX2_bestNext 46 = .ok (.getfield 56, 3) := by decide +kernel
theorem dX2_bestNext_49 : decode cX2_bestNext 49 = .ok (.if_icmp .ge 35, 3) := by decide +kernel
theorem dX2_bestNext_52 : decode cX2_bestNext 52 = .ok (.iload_n 3, 1) := by decide +kernel
theorem dX2_bestNext_53 : decode cX2_bestNext 53 = .ok (.iload 8, 2) := by decide +kernel
theorem dX2_bestNext_55 : decode cX2_bestNext 55 = .ok (.invokestatic 60, 3) := by decide +kernel
theorem dX2_bestNext_58 : decode cX2_bestNext 58 = .ok (.ifCond .eq 20, 3) := by decide +kernel
theorem dX2_bestNext_61 : decode cX2_bestNext 61 = .ok (.aload_n 0, 1) := by decide +kernel
theorem dX2_bestNext_62 : decode cX2_bestNext 62 = .ok (.iload_n 2, 1) := by decide +kernel
theorem dX2_bestNext_63 : decode cX2_bestNext 63 = .ok (.iload_n 1, 1) := by decide +kernel
theorem dX2_bestNext_64 : decode cX2_bestNext 64 = .ok (.iload 8, 2) := by decide +kernel
theorem dX2_bestNext_66 : decode cX2_bestNext 66 = .ok (.invokevirtual 64, 3) := by decide +kernel
theorem dX2_bestNext_69 : decode cX2_bestNext 69 = .ok (.lload 6, 2) := by decide +kernel
theorem dX2_bestNext_71 : decode cX2_bestNext 71 = .ok (.lcmp, 1) := by decide +kernel
theorem dX2_bestNext_72 : decode cX2_bestNext 72 = .ok (.ifCond .ne 6, 3) := by decide +kernel
theorem dX2_bestNext_75 : decode cX2_bestNext 75 = .ok (.iload 8, 2) := by decide +kernel
theorem dX2_bestNext_77 : decode cX2_bestNext 77 = .ok (.ireturn, 1) := by decide +kernel
theorem dX2_bestNext_78 : decode cX2_bestNext 78 = .ok (.iinc 8 1, 3) := by decide +kernel
theorem dX2_bestNext_81 : decode cX2_bestNext 81 = .ok (.goto (-41), 3) := by decide +kernel
theorem dX2_bestNext_84 : decode cX2_bestNext 84 = .ok (.iconst (-1), 1) := by decide +kernel
theorem dX2_bestNext_85 : decode cX2_bestNext 85 = .ok (.ireturn, 1) := by decide +kernel
theorem dX2_valueByShare_0 : decode cX2_valueByShare 0 = .ok (.aload_n 0, 1) := by decide +kernel
theorem dX2_valueByShare_1 : decode cX2_valueByShare 1 = .ok (.getfield 9, 3) := by decide +kernel
theorem dX2_valueByShare_4 : decode cX2_valueByShare 4 = .ok (.iload_n 1, 1) := by decide +kernel
theorem dX2_valueByShare_5 : decode cX2_valueByShare 5 = .ok (.aload_n 0, 1) := by decide +kernel
theorem dX2_valueByShare_6 : decode cX2_valueByShare 6 = .ok (.getfield 21, 3) := by decide +kernel
theorem dX2_valueByShare_9 : decode cX2_valueByShare 9 = .ok (.getfield 31, 3) := by decide +kernel
theorem dX2_valueByShare_12 : decode cX2_valueByShare 12 = .ok (.iload_n 1, 1) := by decide +kernel
theorem dX2_valueByShare_13 : decode cX2_valueByShare 13 = .ok (.laload, 1) := by decide +kernel
theorem dX2_valueByShare_14 : decode cX2_valueByShare 14 = .ok (.lload_n 2, 1) := by decide +kernel
theorem dX2_valueByShare_15 : decode cX2_valueByShare 15 = .ok (.lmul, 1) := by decide +kernel
theorem dX2_valueByShare_16 : decode cX2_valueByShare 16 = .ok (.lastore, 1) := by decide +kernel
theorem dX2_valueByShare_17 : decode cX2_valueByShare 17 = .ok (.return_, 1) := by decide +kernel
end
section
theorem dX3_init_0 : decode cX3_init 0 = .ok (.aload_n 0, 1) := by decide +kernel
theorem dX3_init_1 : decode cX3_init 1 = .ok (.invokespecial 3, 3) := by decide +kernel
theorem dX3_init_4 : decode cX3_init 4 = .ok (.aload_n 0, 1) := by decide +kernel
theorem dX3_init_5 : decode cX3_init 5 = .ok (.bipush 10, 2) := by decide +kernel
theorem dX3_init_7 : decode cX3_init 7 = .ok (.newarray .int, 2) := by decide +kernel
theorem dX3_init_9 : decode cX3_init 9 = .ok (.putfield 9, 3) := by decide +kernel
theorem dX3_init_12 : decode cX3_init 12 = .ok (.aload_n 0, 1) := by decide +kernel
theorem dX3_init_13 : decode cX3_init 13 = .ok (.bipush 12, 2) := by decide +kernel
theorem dX3_init_15 : decode cX3_init 15 = .ok (.newarray .long, 2) := by decide +kernel
theorem dX3_init_17 : decode cX3_init 17 = .ok (.putfield 15, 3) := by decide +kernel
theorem dX3_init_20 : decode cX3_init 20 = .ok (.return_, 1) := by decide +kernel
theorem dX4_init_0 : decode cX4_init 0 = .ok (.aload_n 0, 1) := by decide +kernel
theorem dX4_init_1 : decode cX4_init 1 = .ok (.invokespecial 3, 3) := by decide +kernel
theorem dX4_init_4 : decode cX4_init 4 = .ok (.aload_n 0, 1) := by decide +kernel
theorem dX4_init_5 : decode cX4_init 5 = .ok (.bipush 10, 2) := by decide +kernel
theorem dX4_init_7 : decode cX4_init 7 = .ok (.newarray .int, 2) := by decide +kernel
theorem dX4_init_9 : decode cX4_init 9 = .ok (.putfield 9, 3) := by decide +kernel
theorem dX4_init_12 : decode cX4_init 12 = .ok (.aload_n 0, 1) := by decide +kernel
theorem dX4_init_13 : decode cX4_init 13 = .ok (.bipush 10, 2) := by decide +kernel
theorem dX4_init_15 : decode cX4_init 15 = .ok (.newarray .int, 2) := by decide +kernel
theorem dX4_init_17 : decode cX4_init 17 = .ok (.putfield 15, 3) := by decide +kernel
theorem dX4_init_20 : decode cX4_init 20 = .ok (.aload_n 0, 1) := by decide +kernel
theorem dX4_init_21 : decode cX4_init 21 = .ok (.iconst 4, 1) := by decide +kernel
theorem dX4_init_22 : decode cX4_init 22 = .ok (.newarray .long, 2) := by decide +kernel
theorem dX4_init_24 : decode cX4_init 24 = .ok (.putfield 18, 3) := by decide +kernel
theorem dX4_init_27 : decode cX4_init 27 = .ok (.aload_n 0, 1) := by decide +kernel
theorem dX4_init_28 : decode cX4_init 28 = .ok (.aload_n 1, 1) := by decide +kernel
theorem dX4_init_29 : decode cX4_init 29 = .ok (.putfield 22, 3) := by decide +kernel
theorem dX4_init_32 : decode cX4_init 32 = .ok (.aload_n 0, 1) := by decide +kernel
theorem dX4_init_33 : decode cX4_init 33 = .ok (.getfield 9, 3) := by decide +kernel
theorem dX4_init_36 : decode cX4_init 36 = .ok (.iconst (-1), 1) := by decide +kernel
theorem dX4_init_37 : decode cX4_init 37 = .ok (.invokestatic 26, 3) := by decide +kernel
theorem dX4_init_40 : decode cX4_init 40 = .ok (.return_, 1) := by decide +kernel
theorem dX3_keepRow_0 : decode cX3_keepRow 0 = .ok (.aload_n 0, 1) := by decide +kernel
theorem dX3_keepRow_1 : decode cX3_keepRow 1 = .ok (.iconst 0, 1) := by decide +kernel
theorem dX3_keepRow_2 : decode cX3_keepRow 2 = .ok (.putfield 19, 3) := by decide +kernel
theorem dX3_keepRow_5 : decode cX3_keepRow 5 = .ok (.aload_n 0, 1) := by decide +kernel
theorem dX3_keepRow_6 : decode cX3_keepRow 6 = .ok (.iconst 0, 1) := by decide +kernel
theorem dX3_keepRow_7 : decode cX3_keepRow 7 = .ok (.putfield 23, 3) := by decide +kernel
theorem dX3_keepRow_10 : decode cX3_keepRow 10 = .ok (.aload_n 1, 1) := by decide +kernel
theorem dX3_keepRow_11 : decode cX3_keepRow 11 = .ok (.iconst 0, 1) := by decide +kernel
theorem dX3_keepRow_12 : decode cX3_keepRow 12 = .ok (.iconst (-1), 1) := by decide +kernel
theorem dX3_keepRow_13 : decode cX3_keepRow 13 = .ok (.invokevirtual 26, 3) := by decide +kernel
theorem dX3_keepRow_16 : decode cX3_keepRow 16 = .ok (.istore_n 2, 1) := by decide +kernel
theorem dX3_keepRow_17 : decode cX3_keepRow 17 = .ok (.iload_n 2, 1) := by decide +kernel
theorem dX3_keepRow_18 : decode cX3_keepRow 18 = .ok (.iconst (-1), 1) := by decide +kernel
theorem dX3_keepRow_19 : decode cX3_keepRow 19 = .ok (.if_icmp .eq 57, 3) := by decide +kernel
theorem dX3_keepRow_22 : decode cX3_keepRow 22 = .ok (.aload_n 0, 1) := by decide +kernel
theorem dX3_keepRow_23 : decode cX3_keepRow 23 = .ok (.getfield 19, 3) := by decide +kernel
theorem dX3_keepRow_26 : decode cX3_keepRow 26 = .ok (.bipush 10, 2) := by decide +kernel
theorem dX3_keepRow_28 : decode cX3_keepRow 28 = .ok (.if_icmp .ge 48, 3) := by decide +kernel
theorem dX3_keepRow_31 : decode cX3_keepRow 31 = .ok (.aload_n 0, 1) := by decide +kernel
theorem dX3_keepRow_32 : decode cX3_keepRow 32 = .ok (.getfield 9, 3) := by decide +kernel
theorem dX3_keepRow_35 : decode cX3_keepRow 35 = .ok (.aload_n 0, 1) := by decide +kernel
theorem dX3_keepRow_36 : decode cX3_keepRow 36 = .ok (.getfield 19, 3) := by decide +kernel
theorem dX3_keepRow_39 : decode cX3_keepRow 39 = .ok (.iload_n 2, 1) := by decide +kernel
theorem dX3_keepRow_40 : decode cX3_keepRow 40 = .ok (.iastore, 1) := by decide +kernel
theorem dX3_keepRow_41 : decode cX3_keepRow 41 = .ok (.aload_n 0, 1) := by decide +kernel
theorem dX3_keepRow_42 : decode cX3_keepRow 42 = .ok (.dup, 1) := by decide +kernel
theorem dX3_keepRow_43 : decode cX3_keepRow 43 = .ok (.getfield 19, 3) := by decide +kernel
theorem dX3_keepRow_46 : decode cX3_keepRow 46 = .ok (.iconst 1, 1) := by decide +kernel
theorem dX3_keepRow_47 : decode cX3_keepRow 47 = .ok (.iadd, 1) := by decide +kernel
theorem dX3_keepRow_48 : decode cX3_keepRow 48 = .ok (.putfield 19, 3) := by decide +kernel
theorem dX3_keepRow_51 : decode cX3_keepRow 51 = .ok (.aload_n 0, 1) := by decide +kernel
theorem dX3_keepRow_52 : decode cX3_keepRow 52 = .ok (.dup, 1) := by decide +kernel
theorem dX3_keepRow_53 : decode cX3_keepRow 53 = .ok (.getfield 23, 3) := by decide +kernel
theorem dX3_keepRow_56 : decode cX3_keepRow 56 = .ok (.iconst 1, 1) := by decide +kernel
theorem dX3_keepRow_57 : decode cX3_keepRow 57 = .ok (.iload_n 2, 1) := by decide +kernel
theorem dX3_keepRow_58 : decode cX3_keepRow 58 = .ok (.ishl, 1) := by decide +kernel
theorem dX3_keepRow_59 : decode cX3_keepRow 59 = .ok (.ior, 1) := by decide +kernel
theorem dX3_keepRow_60 : decode cX3_keepRow 60 = .ok (.putfield 23, 3) := by decide +kernel
theorem dX3_keepRow_63 : decode cX3_keepRow 63 = .ok (.aload_n 1, 1) := by decide +kernel
theorem dX3_keepRow_64 : decode cX3_keepRow 64 = .ok (.aload_n 0, 1) := by decide +kernel
theorem dX3_keepRow_65 : decode cX3_keepRow 65 = .ok (.getfield 23, 3) := by decide +kernel
theorem dX3_keepRow_68 : decode cX3_keepRow 68 = .ok (.iload_n 2, 1) := by decide +kernel
theorem dX3_keepRow_69 : decode cX3_keepRow 69 = .ok (.invokevirtual 26, 3) := by decide +kernel
theorem dX3_keepRow_72 : decode cX3_keepRow 72 = .ok (.istore_n 2, 1) := by decide +kernel
theorem dX3_keepRow_73 : decode cX3_keepRow 73 = .ok (.goto (-56), 3) := by decide +kernel
theorem dX3_keepRow_76 : decode cX3_keepRow 76 = .ok (.aload_n 0, 1) := by decide +kernel
theorem dX3_keepRow_77 : decode cX3_keepRow 77 = .ok (.aload_n 1, 1) := by decide +kernel
theorem dX3_keepRow_78 : decode cX3_keepRow 78 = .ok (.invokevirtual 32, 3) := by decide +kernel
theorem dX3_keepRow_81 : decode cX3_keepRow 81 = .ok (.aload_n 0, 1) := by decide +kernel
theorem dX3_keepRow_82 : decode cX3_keepRow 82 = .ok (.iconst 1, 1) := by decide +kernel
theorem dX3_keepRow_83 : decode cX3_keepRow 83 = .ok (.putfield 36, 3) := by decide +kernel
theorem dX3_keepRow_86 : decode cX3_keepRow 86 = .ok (.aload_n 0, 1) := by decide +kernel
theorem dX3_keepRow_87 : decode cX3_keepRow 87 = .ok (.iconst 1, 1) := by decide +kernel
theorem dX3_keepRow_88 : decode cX3_keepRow 88 = .ok (.putfield 40, 3) := by decide +kernel
theorem dX3_keepRow_91 : decode cX3_keepRow 91 = .ok (.return_, 1) := by decide +kernel
theorem dX3_keepParts_0 : decode cX3_keepParts 0 = .ok (.aload_n 0, 1) := by decide +kernel
theorem dX3_keepParts_1 : decode cX3_keepParts 1 = .ok (.aload_n 1, 1) := by decide +kernel
theorem dX3_keepParts_2 : decode cX3_keepParts 2 = .ok (.getfield 43, 3) := by decide +kernel
theorem dX3_keepParts_5 : decode cX3_keepParts 5 = .ok (.aload_n 0, 1) := by decide +kernel
theorem dX3_keepParts_6 : decode cX3_keepParts 6 = .ok (.getfield 23, 3) := by decide +kernel
theorem dX3_keepParts_9 : decode cX3_keepParts 9 = .ok (.invokevirtual 47, 3) := by decide +kernel
theorem dX3_keepParts_12 : decode cX3_keepParts 12 = .ok (.putfield 53, 3) := by decide +kernel
theorem dX3_keepParts_15 : decode cX3_keepParts 15 = .ok (.aload_n 1, 1) := by decide +kernel
theorem dX3_keepParts_16 : decode cX3_keepParts 16 = .ok (.getfield 43, 3) := by decide +kernel
theorem dX3_keepParts_19 : decode cX3_keepParts 19 = .ok (.aload_n 0, 1) := by decide +kernel
theorem dX3_keepParts_20 : decode cX3_keepParts 20 = .ok (.getfield 23, 3) := by decide +kernel
theorem dX3_keepParts_23 : decode cX3_keepParts 23 = .ok (.invokevirtual 56, 3) := by decide +kernel
theorem dX3_keepParts_26 : decode cX3_keepParts 26 = .ok (.istore_n 2, 1) := by decide +kernel
theorem dX3_keepParts_27 : decode cX3_keepParts 27 = .ok (.iconst 0, 1) := by decide +kernel
theorem dX3_keepParts_28 : decode cX3_keepParts 28 = .ok (.istore_n 3, 1) := by decide +kernel
theorem dX3_keepParts_29 : decode cX3_keepParts 29 = .ok (.iload_n 3, 1) := by decide +kernel
theorem dX3_keepParts_30 : decode cX3_keepParts 30 = .ok (.bipush 12, 2) := by decide +kernel
theorem dX3_keepParts_32 : decode cX3_keepParts 32 = .ok (.if_icmp .ge 33, 3) := by decide +kernel
theorem dX3_keepParts_35 : decode cX3_keepParts 35 = .ok (.aload_n 0, 1) := by decide +kernel
theorem dX3_keepParts_36 : decode cX3_keepParts 36 = .ok (.getfield 15, 3) := by decide +kernel
theorem dX3_keepParts_39 : decode cX3_keepParts 39 = .ok (.iload_n 3, 1) := by decide +kernel
theorem dX3_keepParts_40 : decode cX3_keepParts 40 = .ok (.iload_n 2, 1) := by decide +kernel
theorem dX3_keepParts_41 : decode cX3_keepParts 41 = .ok (.iload_n 3, 1) := by decide +kernel
theorem dX3_keepParts_42 : decode cX3_keepParts 42 = .ok (.invokestatic 59, 3) := by decide +kernel
theorem dX3_keepParts_45 : decode cX3_keepParts 45 = .ok (.ifCond .eq 12, 3) := by decide +kernel
theorem dX3_keepParts_48 : decode cX3_keepParts 48 = .ok (.aload_n 1, 1) := by decide +kernel
theorem dX3_keepParts_49 : decode cX3_keepParts 49 = .ok (.getfield 63, 3) := by decide +kernel
theorem dX3_keepParts_52 : decode cX3_keepParts 52 = .ok (.iload_n 3, 1) := by decide +kernel
theorem dX3_keepParts_53 : decode cX3_keepParts 53 = .ok (.laload, 1) := by decide +kernel
theorem dX3_keepParts_54 : decode cX3_keepParts 54 = .ok (.goto 4, 3) := by decide +kernel
theorem dX3_keepParts_57 : decode cX3_keepParts 57 = .ok (.lconst 0, 1) := by decide +kernel
theorem dX3_keepParts_58 : decode cX3_keepParts 58 = .ok (.lastore, 1) := by decide +kernel
theorem dX3_keepParts_59 : decode cX3_keepParts 59 = .ok (.iinc 3 1, 3) := by decide +kernel
theorem dX3_keepParts_62 : decode cX3_keepParts 62 = .ok (.goto (-33), 3) := by decide +kernel
theorem dX3_keepParts_65 : decode cX3_keepParts 65 = .ok (.return_, 1) := by decide +kernel
theorem dX4_shareOut_0 : decode cX4_shareOut 0 = .ok (.aload_n 0, 1) := by decide +kernel
theorem dX4_shareOut_1 : decode cX4_shareOut 1 = .ok (.iload_n 1, 1) := by decide +kernel
theorem dX4_shareOut_2 : decode cX4_shareOut 2 = .ok (.putfield 32, 3) := by decide +kernel
theorem dX4_shareOut_5 : decode cX4_shareOut 5 = .ok (.aload_n 0, 1) := by decide +kernel
theorem dX4_shareOut_6 : decode cX4_shareOut 6 = .ok (.iload_n 2, 1) := by decide +kernel
theorem dX4_shareOut_7 : decode cX4_shareOut 7 = .ok (.putfield 36, 3) := by decide +kernel
theorem dX4_shareOut_10 : decode cX4_shareOut 10 = .ok (.aload_n 0, 1) := by decide +kernel
theorem dX4_shareOut_11 : decode cX4_shareOut 11 = .ok (.invokevirtual 39, 3) := by decide +kernel
theorem dX4_shareOut_14 : decode cX4_shareOut 14 = .ok (.aload_n 0, 1) := by decide +kernel
theorem dX4_shareOut_15 : decode cX4_shareOut 15 = .ok (.getfield 18, 3) := by decide +kernel
theorem dX4_shareOut_18 : decode cX4_shareOut 18 = .ok (.lconst 0, 1) := by decide +kernel
theorem dX4_shareOut_19 : decode cX4_shareOut 19 = .ok (.invokestatic 42, 3) := by decide +kernel
theorem dX4_shareOut_22 : decode cX4_shareOut 22 = .ok (.aload_n 0, 1) := by decide +kernel
theorem dX4_shareOut_23 : decode cX4_shareOut 23 = .ok (.iconst 0, 1) := by decide +kernel
theorem dX4_shareOut_24 : decode cX4_shareOut 24 = .ok (.lconst 0, 1) := by decide +kernel
theorem dX4_shareOut_25 : decode cX4_shareOut 25 = .ok (.invokestatic 45, 3) := by decide +kernel
theorem dX4_shareOut_28 : decode cX4_shareOut 28 = .ok (.aload_n 0, 1) := by decide +kernel
theorem dX4_shareOut_29 : decode cX4_shareOut 29 = .ok (.getfield 49, 3) := by decide +kernel
theorem dX4_shareOut_32 : decode cX4_shareOut 32 = .ok (.lreturn, 1) := by decide +kernel
theorem dX4_setLimits_0 : decode cX4_setLimits 0 = .ok (.lconst 0, 1) := by decide +kernel
theorem dX4_setLimits_1 : decode cX4_setLimits 1 = .ok (.lstore_n 1, 1) := by decide +kernel
theorem dX4_setLimits_2 : decode cX4_setLimits 2 = .ok (.lconst 0, 1) := by decide +kernel
theorem dX4_setLimits_3 : decode cX4_setLimits 3 = .ok (.lstore_n 3, 1) := by decide +kernel
theorem dX4_setLimits_4 : decode cX4_setLimits 4 = .ok (.iconst 0, 1) := by decide +kernel
theorem dX4_setLimits_5 : decode cX4_setLimits 5 = .ok (.istore 5, 2) := by decide +kernel
theorem dX4_setLimits_7 : decode cX4_setLimits 7 = .ok (.iload 5, 2) := by decide +kernel
theorem dX4_setLimits_9 : decode cX4_setLimits 9 = .ok (.aload_n 0, 1) := by decide +kernel
theorem dX4_setLimits_10 : decode cX4_setLimits 10 = .ok (.getfield 22, 3) := by decide +kernel
theorem dX4_setLimits_13 : decode cX4_setLimits 13 = .ok (.getfield 53, 3) := by decide +kernel
theorem dX4_setLimits_16 : decode cX4_setLimits 16 = .ok (.if_icmp .ge 49, 3) := by decide +kernel
theorem dX4_setLimits_19 : decode cX4_setLimits 19 = .ok (.aload_n 0, 1) := by decide +kernel
theorem dX4_setLimits_20 : decode cX4_setLimits 20 = .ok (.getfield 32, 3) := by decide +kernel
theorem dX4_setLimits_23 : decode cX4_setLimits 23 = .ok (.iload 5, 2) := by decide +kernel
theorem dX4_setLimits_25 : decode cX4_setLimits 25 = .ok (.invokestatic 58, 3) := by decide +kernel
theorem dX4_setLimits_28 : decode cX4_setLimits 28 = .ok (.ifCond .eq 31, 3) := by decide +kernel
theorem dX4_setLimits_31 : decode cX4_setLimits 31 = .ok (.lload_n 1, 1) := by decide +kernel
theorem dX4_setLimits_32 : decode cX4_setLimits 32 = .ok (.aload_n 0, 1) := by decide +kernel
theorem dX4_setLimits_33 : decode cX4_setLimits 33 = .ok (.getfield 22, 3) := by decide +kernel
theorem dX4_setLimits_36 : decode cX4_setLimits 36 = .ok (.getfield 62, 3) := by decide +kernel
theorem dX4_setLimits_39 : decode cX4_setLimits 39 = .ok (.iload 5, 2) := by decide +kernel
theorem dX4_setLimits_41 : decode cX4_setLimits 41 = .ok (.laload, 1) := by decide +kernel
theorem dX4_setLimits_42 : decode cX4_setLimits 42 = .ok (.ladd, 1) := by decide +kernel
theorem dX4_setLimits_43 : decode cX4_setLimits 43 = .ok (.lstore_n 1, 1) := by decide +kernel
theorem dX4_setLimits_44 : decode cX4_setLimits 44 = .ok (.lload_n 3, 1) := by decide +kernel
theorem dX4_setLimits_45 : decode cX4_setLimits 45 = .ok (.aload_n 0, 1) := by decide +kernel
theorem dX4_setLimits_46 : decode cX4_setLimits 46 = .ok (.getfield 22, 3) := by decide +kernel
theorem dX4_setLimits_49 : decode cX4_setLimits 49 = .ok (.getfield 62, 3) := by decide +kernel
theorem dX4_setLimits_52 : decode cX4_setLimits 52 = .ok (.iload 5, 2) := by decide +kernel
theorem dX4_setLimits_54 : decode cX4_setLimits 54 = .ok (.laload, 1) := by decide +kernel
theorem dX4_setLimits_55 : decode cX4_setLimits 55 = .ok (.invokestatic 65, 3) := by decide +kernel
theorem dX4_setLimits_58 : decode cX4_setLimits 58 = .ok (.lstore_n 3, 1) := by decide +kernel
theorem dX4_setLimits_59 : decode cX4_setLimits 59 = .ok (.iinc 5 1, 3) := by decide +kernel
theorem dX4_setLimits_62 : decode cX4_setLimits 62 = .ok (.goto (-55), 3) := by decide +kernel
theorem dX4_setLimits_65 : decode cX4_setLimits 65 = .ok (.aload_n 0, 1) := by decide +kernel
theorem dX4_setLimits_66 : decode cX4_setLimits 66 = .ok (.lload_n 1, 1) := by decide +kernel
theorem dX4_setLimits_67 : decode cX4_setLimits 67 = .ok (.lconst 1, 1) := by decide +kernel
theorem dX4_setLimits_68 : decode cX4_setLimits 68 = .ok (.ladd, 1) := by decide +kernel
theorem dX4_setLimits_69 : decode cX4_setLimits 69 = .ok (.putfield 49, 3) := by decide +kernel
theorem dX4_setLimits_72 : decode cX4_setLimits 72 = .ok (.aload_n 0, 1) := by decide +kernel
theorem dX4_setLimits_73 : decode cX4_setLimits 73 = .ok (.aload_n 0, 1) := by decide +kernel
theorem dX4_setLimits_74 : decode cX4_setLimits 74 = .ok (.getfield 36, 3) := by decide +kernel
theorem dX4_setLimits_77 : decode cX4_setLimits 77 = .ok (.ifCond .le 25, 3) := by decide +kernel
theorem dX4_setLimits_80 : decode cX4_setLimits 80 = .ok (.lload_n 3, 1) := by decide +kernel
theorem dX4_setLimits_81 : decode cX4_setLimits 81 = .ok (.lload_n 1, 1) := by decide +kernel
theorem dX4_setLimits_82 : decode cX4_setLimits 82 = .ok (.aload_n 0, 1) := by decide +kernel
theorem dX4_setLimits_83 : decode cX4_setLimits 83 = .ok (.getfield 36, 3) := by decide +kernel
theorem dX4_setLimits_86 : decode cX4_setLimits 86 = .ok (.i2l, 1) := by decide +kernel
theorem dX4_setLimits_87 : decode cX4_setLimits 87 = .ok (.ladd, 1) := by decide +kernel
theorem dX4_setLimits_88 : decode cX4_setLimits 88 = .ok (.lconst 1, 1) := by decide +kernel
theorem dX4_setLimits_89 : decode cX4_setLimits 89 = .ok (.lsub, 1) := by decide +kernel
theorem dX4_setLimits_90 : decode cX4_setLimits 90 = .ok (.aload_n 0, 1) := by decide +kernel
theorem dX4_setLimits_91 : decode cX4_setLimits 91 = .ok (.getfield 36, 3) := by decide +kernel
theorem dX4_setLimits_94 : decode cX4_setLimits 94 = .ok (.i2l, 1) := by decide +kernel
theorem dX4_setLimits_95 : decode cX4_setLimits 95 = .ok (.ldiv, 1) := by decide +kernel
theorem dX4_setLimits_96 : decode cX4_setLimits 96 = .ok (.invokestatic 65, 3) := by decide +kernel
theorem dX4_setLimits_99 : decode cX4_setLimits 99 = .ok (.goto 4, 3) := by decide +kernel
theorem dX4_setLimits_102 : decode cX4_setLimits 102 = .ok (.lload_n 1, 1) := by decide +kernel
theorem dX4_setLimits_103 : decode cX4_setLimits 103 = .ok (.putfield 71, 3) := by decide +kernel
theorem dX4_setLimits_106 : decode cX4_setLimits 106 = .ok (.return_, 1) := by decide +kernel
theorem dX4_tryFrom_0 : decode cX4_tryFrom 0 = .ok (.iload_n 1, 1) := by decide +kernel
theorem dX4_tryFrom_1 : decode cX4_tryFrom 1 = .ok (.aload_n 0, 1) := by decide +kernel
theorem dX4_tryFrom_2 : decode cX4_tryFrom 2 = .ok (.getfield 22, 3) := by decide +kernel
theorem dX4_tryFrom_5 : decode cX4_tryFrom 5 = .ok (.getfield 53, 3) := by decide +kernel
theorem dX4_tryFrom_8 : decode cX4_tryFrom 8 = .ok (.if_icmp .lt 9, 3) := by decide +kernel
theorem dX4_tryFrom_11 : decode cX4_tryFrom 11 = .ok (.aload_n 0, 1) := by decide +kernel
theorem dX4_tryFrom_12 : decode cX4_tryFrom 12 = .ok (.lload_n 2, 1) := by decide +kernel
theorem dX4_tryFrom_13 : decode cX4_tryFrom 13 = .ok (.invokevirtual 74, 3) := by decide +kernel
theorem dX4_tryFrom_16 : decode cX4_tryFrom 16 = .ok (.return_, 1) := by decide +kernel
theorem dX4_tryFrom_17 : decode cX4_tryFrom 17 = .ok (.aload_n 0, 1) := by decide +kernel
theorem dX4_tryFrom_18 : decode cX4_tryFrom 18 = .ok (.getfield 32, 3) := by decide +kernel
theorem dX4_tryFrom_21 : decode cX4_tryFrom 21 = .ok (.iload_n 1, 1) := by decide +kernel
theorem dX4_tryFrom_22 : decode cX4_tryFrom 22 = .ok (.invokestatic 58, 3) := by decide +kernel
theorem dX4_tryFrom_25 : decode cX4_tryFrom 25 = .ok (.ifCond .ne 12, 3) := by decide +kernel
theorem dX4_tryFrom_28 : decode cX4_tryFrom 28 = .ok (.aload_n 0, 1) := by decide +kernel
theorem dX4_tryFrom_29 : decode cX4_tryFrom 29 = .ok (.iload_n 1, 1) := by decide +kernel
theorem dX4_tryFrom_30 : decode cX4_tryFrom 30 = .ok (.iconst 1, 1) := by decide +kernel
theorem dX4_tryFrom_31 : decode cX4_tryFrom 31 = .ok (.iadd, 1) := by decide +kernel
theorem dX4_tryFrom_32 : decode cX4_tryFrom 32 = .ok (.lload_n 2, 1) := by decide +kernel
theorem dX4_tryFrom_33 : decode cX4_tryFrom 33 = .ok (.invokestatic 45, 3) := by decide +kernel
theorem dX4_tryFrom_36 : decode cX4_tryFrom 36 = .ok (.return_, 1) := by decide +kernel
theorem dX4_tryFrom_37 : decode cX4_tryFrom 37 = .ok (.aload_n 0, 1) := by decide +kernel
theorem dX4_tryFrom_38 : decode cX4_tryFrom 38 = .ok (.getfield 22, 3) := by decide +kernel
theorem dX4_tryFrom_41 : decode cX4_tryFrom 41 = .ok (.getfield 62, 3) := by decide +kernel
theorem dX4_tryFrom_44 : decode cX4_tryFrom 44 = .ok (.iload_n 1, 1) := by decide +kernel
theorem dX4_tryFrom_45 : decode cX4_tryFrom 45 = .ok (.laload, 1) := by decide +kernel
theorem dX4_tryFrom_46 : decode cX4_tryFrom 46 = .ok (.lstore 4, 2) := by decide +kernel
theorem dX4_tryFrom_48 : decode cX4_tryFrom 48 = .ok (.aload_n 0, 1) := by decide +kernel
theorem dX4_tryFrom_49 : decode cX4_tryFrom 49 = .ok (.iload_n 1, 1) := by decide +kernel
theorem dX4_tryFrom_50 : decode cX4_tryFrom 50 = .ok (.invokevirtual 78, 3) := by decide +kernel
theorem dX4_tryFrom_53 : decode cX4_tryFrom 53 = .ok (.istore 6, 2) := by decide +kernel
theorem dX4_tryFrom_55 : decode cX4_tryFrom 55 = .ok (.aload_n 0, 1) := by decide +kernel
theorem dX4_tryFrom_56 : decode cX4_tryFrom 56 = .ok (.iload_n 1, 1) := by decide +kernel
theorem dX4_tryFrom_57 : decode cX4_tryFrom 57 = .ok (.invokevirtual 82, 3) := by decide +kernel
theorem dX4_tryFrom_60 : decode cX4_tryFrom 60 = .ok (.istore 7, 2) := by decide +kernel
theorem dX4_tryFrom_62 : decode cX4_tryFrom 62 = .ok (.iload 7, 2) := by decide +kernel
theorem dX4_tryFrom_64 : decode cX4_tryFrom 64 = .ok (.iload 6, 2) := by decide +kernel
theorem dX4_tryFrom_66 : decode cX4_tryFrom 66 = .ok (.if_icmp .gt 88, 3) := by decide +kernel
theorem dX4_tryFrom_69 : decode cX4_tryFrom 69 = .ok (.aload_n 0, 1) := by decide +kernel
theorem dX4_tryFrom_70 : decode cX4_tryFrom 70 = .ok (.getfield 49, 3) := by decide +kernel
theorem dX4_tryFrom_73 : decode cX4_tryFrom 73 = .ok (.aload_n 0, 1) := by decide +kernel
theorem dX4_tryFrom_74 : decode cX4_tryFrom 74 = .ok (.getfield 71, 3) := by decide +kernel
theorem dX4_tryFrom_77 : decode cX4_tryFrom 77 = .ok (.lcmp, 1) := by decide +kernel
theorem dX4_tryFrom_78 : decode cX4_tryFrom 78 = .ok (.ifCond .le 76, 3) := by decide +kernel
theorem dX4_tryFrom_81 : decode cX4_tryFrom 81 = .ok (.lload_n 2, 1) := by decide +kernel
theorem dX4_tryFrom_82 : decode cX4_tryFrom 82 = .ok (.aload_n 0, 1) := by decide +kernel
theorem dX4_tryFrom_83 : decode cX4_tryFrom 83 = .ok (.getfield 18, 3) := by decide +kernel
theorem dX4_tryFrom_86 : decode cX4_tryFrom 86 = .ok (.iload 7, 2) := by decide +kernel
theorem dX4_tryFrom_88 : decode cX4_tryFrom 88 = .ok (.laload, 1) := by decide +kernel
theorem dX4_tryFrom_89 : decode cX4_tryFrom 89 = .ok (.lload 4, 2) := by decide +kernel
theorem dX4_tryFrom_91 : decode cX4_tryFrom 91 = .ok (.ladd, 1) := by decide +kernel
theorem dX4_tryFrom_92 : decode cX4_tryFrom 92 = .ok (.invokestatic 65, 3) := by decide +kernel
theorem dX4_tryFrom_95 : decode cX4_tryFrom 95 = .ok (.lstore 8, 2) := by decide +kernel
theorem dX4_tryFrom_97 : decode cX4_tryFrom 97 = .ok (.lload 8, 2) := by decide +kernel
theorem dX4_tryFrom_99 : decode cX4_tryFrom 99 = .ok (.aload_n 0, 1) := by decide +kernel
theorem dX4_tryFrom_100 : decode cX4_tryFrom 100 = .ok (.getfield 49, 3) := by decide +kernel
theorem dX4_tryFrom_103 : decode cX4_tryFrom 103 = .ok (.lcmp, 1) := by decide +kernel
theorem dX4_tryFrom_104 : decode cX4_tryFrom 104 = .ok (.ifCond .ge 44, 3) := by decide +kernel
theorem dX4_tryFrom_107 : decode cX4_tryFrom 107 = .ok (.aload_n 0, 1) := by decide +kernel
theorem dX4_tryFrom_108 : decode cX4_tryFrom 108 = .ok (.getfield 15, 3) := by decide +kernel
theorem dX4_tryFrom_111 : decode cX4_tryFrom 111 = .ok (.iload_n 1, 1) := by decide +kernel
theorem dX4_tryFrom_112 : decode cX4_tryFrom 112 = .ok (.iload 7, 2) := by decide +kernel
theorem dX4_tryFrom_114 : decode cX4_tryFrom 114 = .ok (.iastore, 1) := by decide +kernel
theorem dX4_tryFrom_115 : decode cX4_tryFrom 115 = .ok (.aload_n 0, 1) := by decide +kernel
theorem dX4_tryFrom_116 : decode cX4_tryFrom 116 = .ok (.getfield 18, 3) := by decide +kernel
theorem dX4_tryFrom_119 : decode cX4_tryFrom 119 = .ok (.iload 7, 2) := by decide +kernel
theorem dX4_tryFrom_121 : decode cX4_tryFrom 121 = .ok (.dup2, 1) := by decide +kernel
theorem dX4_tryFrom_122 : decode cX4_tryFrom 122 = .ok (.laload, 1) := by decide +kernel
theorem dX4_tryFrom_123 : decode cX4_tryFrom 123 = .ok (.lload 4, 2) := by decide +kernel
theorem dX4_tryFrom_125 : decode cX4_tryFrom 125 = .ok (.ladd, 1) := by decide +kernel
theorem dX4_tryFrom_126 : decode cX4_tryFrom 126 = .ok (.lastore, 1) := by decide +kernel
theorem dX4_tryFrom_127 : decode cX4_tryFrom 127 = .ok (.aload_n 0, 1) := by decide +kernel
theorem dX4_tryFrom_128 : decode cX4_tryFrom 128 = .ok (.iload_n 1, 1) := by decide +kernel
theorem dX4_tryFrom_129 : decode cX4_tryFrom 129 = .ok (.iconst 1, 1) := by decide +kernel
theorem dX4_tryFrom_130 : decode cX4_tryFrom 130 = .ok (.iadd, 1) := by decide +kernel
theorem dX4_tryFrom_131 : decode cX4_tryFrom 131 = .ok (.lload 8, 2) := by decide +kernel
theorem dX4_tryFrom_133 : decode cX4_tryFrom 133 = .ok (.invokestatic 45, 3) := by decide +kernel
theorem dX4_tryFrom_136 : decode cX4_tryFrom 136 = .ok (.aload_n 0, 1) := by decide +kernel
theorem dX4_tryFrom_137 : decode cX4_tryFrom 137 = .ok (.getfield 18, 3) := by decide +kernel
theorem dX4_tryFrom_140 : decode cX4_tryFrom 140 = .ok (.iload 7, 2) := by decide +kernel
theorem dX4_tryFrom_142 : decode cX4_tryFrom 142 = .ok (.dup2, 1) := by decide +kernel
theorem dX4_tryFrom_143 : decode cX4_tryFrom 143 = .ok (.laload, 1) := by decide +kernel
theorem dX4_tryFrom_144 : decode cX4_tryFrom 144 = .ok (.lload 4, 2) := by decide +kernel
theorem dX4_tryFrom_146 : decode cX4_tryFrom 146 = .ok (.lsub, 1) := by decide +kernel
theorem dX4_tryFrom_147 : decode cX4_tryFrom 147 = .ok (.lastore, 1) := by decide +kernel
theorem dX4_tryFrom_148 : decode cX4_tryFrom 148 = .ok (.iinc 7 1, 3) := by decide +kernel
theorem dX4_tryFrom_151 : decode cX4_tryFrom 151 = .ok (.goto (-89), 3) := by decide +kernel
theorem dX4_tryFrom_154 : decode cX4_tryFrom 154 = .ok (.return_, 1) := by decide +kernel
theorem dX4_keepTrial_0 : decode cX4_keepTrial 0 = .ok (.aload_n 0, 1) := by decide +kernel
theorem dX4_keepTrial_1 : decode cX4_keepTrial 1 = .ok (.lload_n 1, 1) := by decide +kernel
theorem dX4_keepTrial_2 : decode cX4_keepTrial 2 = .ok (.putfield 49, 3) := by decide +kernel
theorem dX4_keepTrial_5 : decode cX4_keepTrial 5 = .ok (.iconst 0, 1) := by decide +kernel
theorem dX4_keepTrial_6 : decode cX4_keepTrial 6 = .ok (.istore_n 3, 1) := by decide +kernel
theorem dX4_keepTrial_7 : decode cX4_keepTrial 7 = .ok (.iload_n 3, 1) := by decide +kernel
theorem dX4_keepTrial_8 : decode cX4_keepTrial 8 = .ok (.aload_n 0, 1) := by decide +kernel
theorem dX4_keepTrial_9 : decode cX4_keepTrial 9 = .ok (.getfield 22, 3) := by decide +kernel
theorem dX4_keepTrial_12 : decode cX4_keepTrial 12 = .ok (.getfield 53, 3) := by decide +kernel
theorem dX4_keepTrial_15 : decode cX4_keepTrial 15 = .ok (.if_icmp .ge 36, 3) := by decide +kernel
theorem dX4_keepTrial_18 : decode cX4_keepTrial 18 = .ok (.aload_n 0, 1) := by decide +kernel
theorem dX4_keepTrial_19 : decode cX4_keepTrial 19 = .ok (.getfield 9, 3) := by decide +kernel
theorem dX4_keepTrial_22 : decode cX4_keepTrial 22 = .ok (.iload_n 3, 1) := by decide +kernel
theorem dX4_keepTrial_23 : decode cX4_keepTrial 23 = .ok (.aload_n 0, 1) := by decide +kernel
theorem dX4_keepTrial_24 : decode cX4_keepTrial 24 = .ok (.getfield 32, 3) := by decide +kernel
theorem dX4_keepTrial_27 : decode cX4_keepTrial 27 = .ok (.iload_n 3, 1) := by decide +kernel
theorem dX4_keepTrial_28 : decode cX4_keepTrial 28 = .ok (.invokestatic 58, 3) := by decide +kernel
theorem dX4_keepTrial_31 : decode cX4_keepTrial 31 = .ok (.ifCond .eq 12, 3) := by decide +kernel
theorem dX4_keepTrial_34 : decode cX4_keepTrial 34 = .ok (.aload_n 0, 1) := by decide +kernel
theorem dX4_keepTrial_35 : decode cX4_keepTrial 35 = .ok (.getfield 15, 3) := by decide +kernel
theorem dX4_keepTrial_38 : decode cX4_keepTrial 38 = .ok (.iload_n 3, 1) := by decide +kernel
theorem dX4_keepTrial_39 : decode cX4_keepTrial 39 = .ok (.iaload, 1) := by decide +kernel
theorem dX4_keepTrial_40 : decode cX4_keepTrial 40 = .ok (.goto 4, 3) := by decide +kernel
theorem dX4_keepTrial_43 : decode cX4_keepTrial 43 = .ok (.iconst (-1), 1) := by decide +kernel
theorem dX4_keepTrial_44 : decode cX4_keepTrial 44 = .ok (.iastore, 1) := by decide +kernel
theorem dX4_keepTrial_45 : decode cX4_keepTrial 45 = .ok (.iinc 3 1, 3) := by decide +kernel
theorem dX4_keepTrial_48 : decode cX4_keepTrial 48 = .ok (.goto (-41), 3) := by decide +kernel
theorem dX4_keepTrial_51 : decode cX4_keepTrial 51 = .ok (.return_, 1) := by decide +kernel
theorem dX4_latestFor_0 : decode cX4_latestFor 0 = .ok (.aload_n 0, 1) := by decide +kernel
theorem dX4_latestFor_1 : decode cX4_latestFor 1 = .ok (.getfield 36, 3) := by decide +kernel
theorem dX4_latestFor_4 : decode cX4_latestFor 4 = .ok (.iconst 1, 1) := by decide +kernel
theorem dX4_latestFor_5 : decode cX4_latestFor 5 = .ok (.isub, 1) := by decide +kernel
theorem dX4_latestFor_6 : decode cX4_latestFor 6 = .ok (.istore_n 2, 1) := by decide +kernel
theorem dX4_latestFor_7 : decode cX4_latestFor 7 = .ok (.iconst 0, 1) := by decide +kernel
theorem dX4_latestFor_8 : decode cX4_latestFor 8 = .ok (.istore_n 3, 1) := by decide +kernel
theorem dX4_latestFor_9 : decode cX4_latestFor 9 = .ok (.iload_n 3, 1) := by decide +kernel
theorem dX4_latestFor_10 : decode cX4_latestFor 10 = .ok (.iload_n 1, 1) := by decide +kernel
theorem dX4_latestFor_11 : decode cX4_latestFor 11 = .ok (.if_icmp .ge 47, 3) := by decide +kernel
theorem dX4_latestFor_14 : decode cX4_latestFor 14 = .ok (.aload_n 0, 1) := by decide +kernel
theorem dX4_latestFor_15 : decode cX4_latestFor 15 = .ok (.getfield 32, 3) := by decide +kernel
theorem dX4_latestFor_18 : decode cX4_latestFor 18 = .ok (.iload_n 3, 1) := by decide +kernel
theorem dX4_latestFor_19 : decode cX4_latestFor 19 = .ok (.invokestatic 58, 3) := by decide +kernel
theorem dX4_latestFor_22 : decode cX4_latestFor 22 = .ok (.ifCond .eq 30, 3) := by decide +kernel
theorem dX4_latestFor_25 : decode cX4_latestFor 25 = .ok (.aload_n 0, 1) := by decide +kernel
theorem dX4_latestFor_26 : decode cX4_latestFor 26 = .ok (.getfield 22, 3) := by decide +kernel
theorem dX4_latestFor_29 : decode cX4_latestFor 29 = .ok (.getfield 85, 3) := by decide +kernel
theorem dX4_latestFor_32 : decode cX4_latestFor 32 = .ok (.iload_n 3, 1) := by decide +kernel
theorem dX4_latestFor_33 : decode cX4_latestFor 33 = .ok (.iaload, 1) := by decide +kernel
theorem dX4_latestFor_34 : decode cX4_latestFor 34 = .ok (.iload_n 1, 1) := by decide +kernel
theorem dX4_latestFor_35 : decode cX4_latestFor 35 = .ok (.invokestatic 58, 3) := by decide +kernel
theorem dX4_latestFor_38 : decode cX4_latestFor 38 = .ok (.ifCond .eq 14, 3) := by decide +kernel
theorem dX4_latestFor_41 : decode cX4_latestFor 41 = .ok (.iload_n 2, 1) := by decide +kernel
theorem dX4_latestFor_42 : decode cX4_latestFor 42 = .ok (.aload_n 0, 1) := by decide +kernel
theorem dX4_latestFor_43 : decode cX4_latestFor 43 = .ok (.getfield 15, 3) := by decide +kernel
theorem dX4_latestFor_46 : decode cX4_latestFor 46 = .ok (.iload_n 3, 1) := by decide +kernel
theorem dX4_latestFor_47 : decode cX4_latestFor 47 = .ok (.iaload, 1) := by decide +kernel
theorem dX4_latestFor_48 : decode cX4_latestFor 48 = .ok (.invokestatic 91, 3) := by decide +kernel
theorem dX4_latestFor_51 : decode cX4_latestFor 51 = .ok (.istore_n 2, 1) := by decide +kernel
theorem dX4_latestFor_52 : decode cX4_latestFor 52 = .ok (.iinc 3 1, 3) := by decide +kernel
theorem dX4_latestFor_55 : decode cX4_latestFor 55 = .ok (.goto (-46), 3) := by decide +kernel
theorem dX4_latestFor_58 : decode cX4_latestFor 58 = .ok (.iload_n 2, 1) := by decide +kernel
theorem dX4_latestFor_59 : decode cX4_latestFor 59 = .ok (.ireturn, 1) := by decide +kernel
theorem dX4_earliestFor_0 : decode cX4_earliestFor 0 = .ok (.iconst 0, 1) := by decide +kernel
theorem dX4_earliestFor_1 : decode cX4_earliestFor 1 = .ok (.istore_n 2, 1) := by decide +kernel
theorem dX4_earliestFor_2 : decode cX4_earliestFor 2 = .ok (.iconst 0, 1) := by decide +kernel
theorem dX4_earliestFor_3 : decode cX4_earliestFor 3 = .ok (.istore_n 3, 1) := by decide +kernel
theorem dX4_earliestFor_4 : decode cX4_earliestFor 4 = .ok (.iload_n 3, 1) := by decide +kernel
theorem dX4_earliestFor_5 : decode cX4_earliestFor 5 = .ok (.iload_n 1, 1) := by decide +kernel
theorem dX4_earliestFor_6 : decode cX4_earliestFor 6 = .ok (.if_icmp .ge 41, 3) := by decide +kernel
theorem dX4_earliestFor_9 : decode cX4_earliestFor 9 = .ok (.aload_n 0, 1) := by decide +kernel
theorem dX4_earliestFor_10 : decode cX4_earliestFor 10 = .ok (.getfield 32, 3) := by decide +kernel
theorem dX4_earliestFor_13 : decode cX4_earliestFor 13 = .ok (.aload_n 0, 1) := by decide +kernel
theorem dX4_earliestFor_14 : decode cX4_earliestFor 14 = .ok (.getfield 22, 3) := by decide +kernel
theorem dX4_earliestFor_17 : decode cX4_earliestFor 17 = .ok (.getfield 85, 3) := by decide +kernel
theorem dX4_earliestFor_20 : decode cX4_earliestFor 20 = .ok (.iload_n 1, 1) := by decide +kernel
theorem dX4_earliestFor_21 : decode cX4_earliestFor 21 = .ok (.iaload, 1) := by decide +kernel
theorem dX4_earliestFor_22 : decode cX4_earliestFor 22 = .ok (.iand, 1) := by decide +kernel
theorem dX4_earliestFor_23 : decode cX4_earliestFor 23 = .ok (.iload_n 3, 1) := by decide +kernel
theorem dX4_earliestFor_24 : decode cX4_earliestFor 24 = .ok (.invokestatic 58, 3) := by decide +kernel
theorem dX4_earliestFor_27 : decode cX4_earliestFor 27 = .ok (.ifCond .eq 14, 3) := by decide +kernel
theorem dX4_earliestFor_30 : decode cX4_earliestFor 30 = .ok (.iload_n 2, 1) := by decide +kernel
theorem dX4_earliestFor_31 : decode cX4_earliestFor 31 = .ok (.aload_n 0, 1) := by decide +kernel
theorem dX4_earliestFor_32 : decode cX4_earliestFor 32 = .ok (.getfield 15, 3) := by decide +kernel
theorem dX4_earliestFor_35 : decode cX4_earliestFor 35 = .ok (.iload_n 3, 1) := by decide +kernel
theorem dX4_earliestFor_36 : decode cX4_earliestFor 36 = .ok (.iaload, 1) := by decide +kernel
theorem dX4_earliestFor_37 : decode cX4_earliestFor 37 = .ok (.invokestatic 88, 3) := by decide +kernel
theorem dX4_earliestFor_40 : decode cX4_earliestFor 40 = .ok (.istore_n 2, 1) := by decide +kernel
theorem dX4_earliestFor_41 : decode cX4_earliestFor 41 = .ok (.iinc 3 1, 3) := by decide +kernel
theorem dX4_earliestFor_44 : decode cX4_earliestFor 44 = .ok (.goto (-40), 3) := by decide +kernel
theorem dX4_earliestFor_47 : decode cX4_earliestFor 47 = .ok (.iload_n 2, 1) := by decide +kernel
theorem dX4_earliestFor_48 : decode cX4_earliestFor 48 = .ok (.ireturn, 1) := by decide +kernel
end
section
set_option maxHeartbeats 4000000 in
set_option maxRecDepth 100000 in
theorem c_X0_has (l : Launch) (D : va_G) (w : va_W) (tys : List (ClassId × FieldType)) (x : Int32) (y : Int32) : Met l yX0_has wsX0_has (am_rm 0 0) (va_Pc [.int x, .int y] (am_R nwL vwCl D w tys)) (vp_Si (fun r => r = ac_has x y)) 0 0 am_No := by
  refine am_startR (cc := cX0_has) (maxL := 2) (ret := (some .boolean)) (by decide) rfl (Nat.le_of_ble_eq_true rfl) [(0, .int x), (1, .int y)] rfl ?_
  intro p e s m below meth c ls hx hb hr hml hown hts hlocks hP hK hN hl
  have hown : s.vm.findClass RX0 = some m.cls := hown
  have ht := am_ht hts
  refine lv_iload_n hx hb dX0_has_0 rfl (lv_at hl 0 rfl) ?_
  refine lv_iload_n hx hb dX0_has_1 rfl (lv_at hl 1 rfl) ?_
  refine lv_ishr hx hb dX0_has_2 ?_
  refine lv_iconst (v := 1) hx hb dX0_has_3 (by decide) ?_
  refine lv_iand hx hb dX0_has_4 ?_
  refine lv_if_eq (tgt := 12) hx hb dX0_has_5 (by decide) (fun c_5 => ?_) (fun c_5 => ?_)
  · skip
    refine lv_iconst (v := 0) hx hb dX0_has_12 (by decide) ?_
    exact am_zretR hx hb hr hlocks (Or.inl rfl) (by first | rfl | (simp only [ac_has, c_5, if_true, if_false, eq_self, not_true_eq_false, not_false_eq_true, ite_true, ite_false, ↓reduceIte]; done) | (simp [ac_has, c_5]; done)) dX0_has_13
  · skip
    refine lv_iconst (v := 1) hx hb dX0_has_8 (by decide) ?_
    refine lv_goto (tgt := 13) hx hb dX0_has_9 (by decide) ?_
    exact am_zretR hx hb hr hlocks (Or.inr rfl) (by first | rfl | (simp only [ac_has, c_5, if_true, if_false, eq_self, not_true_eq_false, not_false_eq_true, ite_true, ite_false, ↓reduceIte]; done) | (simp [ac_has, c_5]; done)) dX0_has_13

set_option maxHeartbeats 4000000 in
set_option maxRecDepth 100000 in
theorem c_X0_isPart (l : Launch) (D : va_G) (w : va_W) (tys : List (ClassId × FieldType)) (x : Int32) : Met l yX0_isPart wsX0_isPart (am_rm 0 0) (va_Pc [.int x] (am_R nwL vwCl D w tys)) (vp_Si (fun r => r = ac_isPart x)) 0 0 am_No := by
  refine am_startR (cc := cX0_isPart) (maxL := 1) (ret := (some .boolean)) (by decide) rfl (Nat.le_of_ble_eq_true rfl) [(0, .int x)] rfl ?_
  intro p e s m below meth c ls hx hb hr hml hown hts hlocks hP hK hN hl
  have hown : s.vm.findClass RX0 = some m.cls := hown
  have ht := am_ht hts
  refine lv_iload_n hx hb dX0_isPart_0 rfl (lv_at hl 0 rfl) ?_
  refine lv_if_lt (tgt := 14) hx hb dX0_isPart_1 (by decide) (fun c_1 => ?_) (fun c_1 => ?_)
  · skip
    refine lv_iconst (v := 0) hx hb dX0_isPart_14 (by decide) ?_
    exact am_zretR hx hb hr hlocks (Or.inl rfl) (by first | rfl | (simp only [ac_isPart, c_1, if_true, if_false, eq_self, not_true_eq_false, not_false_eq_true, ite_true, ite_false, ↓reduceIte]; done) | (simp [ac_isPart, c_1]; done)) dX0_isPart_15
  · skip
    refine lv_iload_n hx hb dX0_isPart_4 rfl (lv_at hl 0 rfl) ?_
    refine lv_bipush (v := 12) hx hb dX0_isPart_5 (by decide) ?_
    refine lv_icmp_ge (tgt := 14) hx hb dX0_isPart_7 (by decide) (fun c_7 => ?_) (fun c_7 => ?_)
    · skip
      refine lv_iconst (v := 0) hx hb dX0_isPart_14 (by decide) ?_
      exact am_zretR hx hb hr hlocks (Or.inl rfl) (by first | rfl | (simp only [ac_isPart, c_1, c_7, if_true, if_false, eq_self, not_true_eq_false, not_false_eq_true, ite_true, ite_false, ↓reduceIte]; done) | (simp [ac_isPart, c_1, c_7]; done)) dX0_isPart_15
    · skip
      refine lv_iconst (v := 1) hx hb dX0_isPart_10 (by decide) ?_
      refine lv_goto (tgt := 15) hx hb dX0_isPart_11 (by decide) ?_
      exact am_zretR hx hb hr hlocks (Or.inr rfl) (by first | rfl | (simp only [ac_isPart, c_1, c_7, if_true, if_false, eq_self, not_true_eq_false, not_false_eq_true, ite_true, ite_false, ↓reduceIte]; done) | (simp [ac_isPart, c_1, c_7]; done)) dX0_isPart_15

set_option maxHeartbeats 4000000 in
set_option maxRecDepth 100000 in
theorem c_X0_isKind (l : Launch) (D : va_G) (w : va_W) (tys : List (ClassId × FieldType)) (x : Int32) : Met l yX0_isKind wsX0_isKind (am_rm 0 0) (va_Pc [.int x] (am_R nwL vwCl D w tys)) (vp_Si (fun r => r = ac_isKind x)) 0 0 am_No := by
  refine am_startR (cc := cX0_isKind) (maxL := 1) (ret := (some .boolean)) (by decide) rfl (Nat.le_of_ble_eq_true rfl) [(0, .int x)] rfl ?_
  intro p e s m below meth c ls hx hb hr hml hown hts hlocks hP hK hN hl
  have hown : s.vm.findClass RX0 = some m.cls := hown
  have ht := am_ht hts
  refine lv_iload_n hx hb dX0_isKind_0 rfl (lv_at hl 0 rfl) ?_
  refine lv_if_lt (tgt := 14) hx hb dX0_isKind_1 (by decide) (fun c_1 => ?_) (fun c_1 => ?_)
  · skip
    refine lv_iconst (v := 0) hx hb dX0_isKind_14 (by decide) ?_
    exact am_zretR hx hb hr hlocks (Or.inl rfl) (by first | rfl | (simp only [ac_isKind, c_1, if_true, if_false, eq_self, not_true_eq_false, not_false_eq_true, ite_true, ite_false, ↓reduceIte]; done) | (simp [ac_isKind, c_1]; done)) dX0_isKind_15
  · skip
    refine lv_iload_n hx hb dX0_isKind_4 rfl (lv_at hl 0 rfl) ?_
    refine lv_bipush (v := 6) hx hb dX0_isKind_5 (by decide) ?_
    refine lv_icmp_ge (tgt := 14) hx hb dX0_isKind_7 (by decide) (fun c_7 => ?_) (fun c_7 => ?_)
    · skip
      refine lv_iconst (v := 0) hx hb dX0_isKind_14 (by decide) ?_
      exact am_zretR hx hb hr hlocks (Or.inl rfl) (by first | rfl | (simp only [ac_isKind, c_1, c_7, if_true, if_false, eq_self, not_true_eq_false, not_false_eq_true, ite_true, ite_false, ↓reduceIte]; done) | (simp [ac_isKind, c_1, c_7]; done)) dX0_isKind_15
    · skip
      refine lv_iconst (v := 1) hx hb dX0_isKind_10 (by decide) ?_
      refine lv_goto (tgt := 15) hx hb dX0_isKind_11 (by decide) ?_
      exact am_zretR hx hb hr hlocks (Or.inr rfl) (by first | rfl | (simp only [ac_isKind, c_1, c_7, if_true, if_false, eq_self, not_true_eq_false, not_false_eq_true, ite_true, ite_false, ↓reduceIte]; done) | (simp [ac_isKind, c_1, c_7]; done)) dX0_isKind_15

set_option maxHeartbeats 4000000 in
set_option maxRecDepth 100000 in
theorem c_X0_isMove (l : Launch) (D : va_G) (w : va_W) (tys : List (ClassId × FieldType)) (x : Int32) (y : Int32) : Met l yX0_isMove wsX0_isMove (am_rm 1 20) (va_Pc [.int x, .int y] (am_R nwL vwCl D w tys)) (vp_Si (fun r => r = ac_isMove x y)) 0 0 am_No := by
  refine am_startR (cc := cX0_isMove) (maxL := 2) (ret := (some .boolean)) (by decide) rfl (Nat.le_of_ble_eq_true rfl) [(0, .int x), (1, .int y)] rfl ?_
  intro p e s m below meth c ls hx hb hr hml hown hts hlocks hP hK hN hl
  have hown : s.vm.findClass RX0 = some m.cls := hown
  have ht := am_ht hts
  refine lv_iload_n hx hb dX0_isMove_0 rfl (lv_at hl 0 rfl) ?_
  refine am_callRi (W.runS (As := [.int x]) (rest := []) ⟨hx, hb, hml, hown, hts⟩ (c_X0_isKind l D _ _ x) (va_cwS 1 hts (am_gS (am_in 185 rfl) (am_in 186 rfl) (am_in 29 rfl) (am_in 187 rfl)) rfl rfl rfl (by decide +kernel) ⟨Nat.le_of_ble_eq_true rfl, Nat.le_of_ble_eq_true rfl⟩) (am_preSR hP hK hN) rfl rfl hl.1 rfl (lv_room (Nat.le_of_ble_eq_true rfl)) dX0_isMove_1 ⟨Nat.zero_le _, Nat.zero_le _⟩) ?_
  refine lv_if_eq (tgt := 23) hx hb dX0_isMove_4 (by decide) (fun c_4 => ?_) (fun c_4 => ?_)
  · skip
    refine lv_iconst (v := 0) hx hb dX0_isMove_23 (by decide) ?_
    exact am_zretR hx hb hr hlocks (Or.inl rfl) (by first | rfl | (simp only [ac_isMove, c_4, if_true, if_false, eq_self, not_true_eq_false, not_false_eq_true, ite_true, ite_false, ↓reduceIte]; done) | (simp [ac_isMove, c_4]; done)) dX0_isMove_24
  · skip
    refine lv_iload_n hx hb dX0_isMove_7 rfl (lv_at hl 1 rfl) ?_
    refine am_callRi (W.runS (As := [.int y]) (rest := []) ⟨hx, hb, hml, hown, hts⟩ (c_X0_isKind l D _ _ y) (va_cwS 1 hts (am_gS (am_in 185 rfl) (am_in 186 rfl) (am_in 29 rfl) (am_in 187 rfl)) rfl rfl rfl (by decide +kernel) ⟨Nat.le_of_ble_eq_true rfl, Nat.le_of_ble_eq_true rfl⟩) (am_preSR hP hK hN) rfl rfl hl.1 rfl (lv_room (Nat.le_of_ble_eq_true rfl)) dX0_isMove_8 ⟨Nat.zero_le _, Nat.zero_le _⟩) ?_
    refine lv_if_eq (tgt := 23) hx hb dX0_isMove_11 (by decide) (fun c_11 => ?_) (fun c_11 => ?_)
    · skip
      refine lv_iconst (v := 0) hx hb dX0_isMove_23 (by decide) ?_
      exact am_zretR hx hb hr hlocks (Or.inl rfl) (by first | rfl | (simp only [ac_isMove, c_4, c_11, if_true, if_false, eq_self, not_true_eq_false, not_false_eq_true, ite_true, ite_false, ↓reduceIte]; done) | (simp [ac_isMove, c_4, c_11]; done)) dX0_isMove_24
    · skip
      refine lv_iload_n hx hb dX0_isMove_14 rfl (lv_at hl 0 rfl) ?_
      refine lv_iload_n hx hb dX0_isMove_15 rfl (lv_at hl 1 rfl) ?_
      refine lv_icmp_eq (tgt := 23) hx hb dX0_isMove_16 (by decide) (fun c_16 => ?_) (fun c_16 => ?_)
      · skip
        refine lv_iconst (v := 0) hx hb dX0_isMove_23 (by decide) ?_
        exact am_zretR hx hb hr hlocks (Or.inl rfl) (by first | rfl | (simp only [ac_isMove, c_4, c_11, c_16, if_true, if_false, eq_self, not_true_eq_false, not_false_eq_true, ite_true, ite_false, ↓reduceIte]; done) | (simp [ac_isMove, c_4, c_11, c_16]; done)) dX0_isMove_24
      · skip
        refine lv_iconst (v := 1) hx hb dX0_isMove_19 (by decide) ?_
        refine lv_goto (tgt := 24) hx hb dX0_isMove_20 (by decide) ?_
        exact am_zretR hx hb hr hlocks (Or.inr rfl) (by first | rfl | (simp only [ac_isMove, c_4, c_11, c_16, if_true, if_false, eq_self, not_true_eq_false, not_false_eq_true, ite_true, ite_false, ↓reduceIte]; done) | (simp [ac_isMove, c_4, c_11, c_16]; done)) dX0_isMove_24

set_option maxHeartbeats 4000000 in
set_option maxRecDepth 100000 in
theorem c_X0_isPrice (l : Launch) (D : va_G) (w : va_W) (tys : List (ClassId × FieldType)) (z : Int64) : Met l yX0_isPrice wsX0_isPrice (am_rm 0 0) (va_Pc [.long z] (am_R nwL vwCl D w tys)) (vp_Si (fun r => r = ac_isPrice z)) 0 0 am_No := by
  refine am_startR (cc := cX0_isPrice) (maxL := 2) (ret := (some .boolean)) (by decide) rfl (Nat.le_of_ble_eq_true rfl) [(0, .long z)] rfl ?_
  intro p e s m below meth c ls hx hb hr hml hown hts hlocks hP hK hN hl
  have hown : s.vm.findClass RX0 = some m.cls := hown
  have ht := am_ht hts
  refine lv_lload_n hx hb dX0_isPrice_0 rfl (lv_at hl 0 rfl) ?_
  refine lv_lconst (v := 0) hx hb dX0_isPrice_1 (by decide) ?_
  refine W.lcmp hx hb dX0_isPrice_2 ?_
  refine lv_if_lt (tgt := 18) hx hb dX0_isPrice_3 (by decide) (fun c_3 => ?_) (fun c_3 => ?_)
  · skip
    have c_3 : z < 0 := (lg_cmp_lt _ _).mp c_3
    refine lv_iconst (v := 0) hx hb dX0_isPrice_18 (by decide) ?_
    exact am_zretR hx hb hr hlocks (Or.inl rfl) (by first | rfl | (simp only [ac_isPrice, c_3, if_true, if_false, eq_self, not_true_eq_false, not_false_eq_true, ite_true, ite_false, ↓reduceIte]; done) | (simp [ac_isPrice, c_3]; done)) dX0_isPrice_19
  · skip
    have c_3 : ¬ (z < 0) := (fun z => c_3 ((lg_cmp_lt _ _).mpr z))
    refine lv_lload_n hx hb dX0_isPrice_6 rfl (lv_at hl 0 rfl) ?_
    refine lv_ldc2 (v := 1000000) hx hb hown (ht 191 _ rfl) dX0_isPrice_7 ?_
    refine W.lcmp hx hb dX0_isPrice_10 ?_
    refine lv_if_gt (tgt := 18) hx hb dX0_isPrice_11 (by decide) (fun c_11 => ?_) (fun c_11 => ?_)
    · skip
      have c_11 : 1000000 < z := (lg_cmp_gt _ _).mp c_11
      refine lv_iconst (v := 0) hx hb dX0_isPrice_18 (by decide) ?_
      exact am_zretR hx hb hr hlocks (Or.inl rfl) (by first | rfl | (simp only [ac_isPrice, c_3, c_11, if_true, if_false, eq_self, not_true_eq_false, not_false_eq_true, ite_true, ite_false, ↓reduceIte]; done) | (simp [ac_isPrice, c_3, c_11]; done)) dX0_isPrice_19
    · skip
      have c_11 : ¬ (1000000 < z) := (fun z => c_11 ((lg_cmp_gt _ _).mpr z))
      refine lv_iconst (v := 1) hx hb dX0_isPrice_14 (by decide) ?_
      refine lv_goto (tgt := 19) hx hb dX0_isPrice_15 (by decide) ?_
      exact am_zretR hx hb hr hlocks (Or.inr rfl) (by first | rfl | (simp only [ac_isPrice, c_3, c_11, if_true, if_false, eq_self, not_true_eq_false, not_false_eq_true, ite_true, ite_false, ↓reduceIte]; done) | (simp [ac_isPrice, c_3, c_11]; done)) dX0_isPrice_19

set_option maxHeartbeats 4000000 in
set_option maxRecDepth 100000 in
theorem c_X0_isWorth (l : Launch) (D : va_G) (w : va_W) (tys : List (ClassId × FieldType)) (z : Int64) : Met l yX0_isWorth wsX0_isWorth (am_rm 0 0) (va_Pc [.long z] (am_R nwL vwCl D w tys)) (vp_Si (fun r => r = ac_isWorth z)) 0 0 am_No := by
  refine am_startR (cc := cX0_isWorth) (maxL := 2) (ret := (some .boolean)) (by decide) rfl (Nat.le_of_ble_eq_true rfl) [(0, .long z)] rfl ?_
  intro p e s m below meth c ls hx hb hr hml hown hts hlocks hP hK hN hl
  have hown : s.vm.findClass RX0 = some m.cls := hown
  have ht := am_ht hts
  refine lv_lload_n hx hb dX0_isWorth_0 rfl (lv_at hl 0 rfl) ?_
  refine lv_ldc2 (v := (-1000000)) hx hb hown (ht 229 _ rfl) dX0_isWorth_1 ?_
  refine W.lcmp hx hb dX0_isWorth_4 ?_
  refine lv_if_lt (tgt := 20) hx hb dX0_isWorth_5 (by decide) (fun c_5 => ?_) (fun c_5 => ?_)
  · skip
    have c_5 : z < (-1000000) := (lg_cmp_lt _ _).mp c_5
    refine lv_iconst (v := 0) hx hb dX0_isWorth_20 (by decide) ?_
    exact am_zretR hx hb hr hlocks (Or.inl rfl) (by first | rfl | (simp only [ac_isWorth, c_5, if_true, if_false, eq_self, not_true_eq_false, not_false_eq_true, ite_true, ite_false, ↓reduceIte]; done) | (simp [ac_isWorth, c_5]; done)) dX0_isWorth_21
  · skip
    have c_5 : ¬ (z < (-1000000)) := (fun z => c_5 ((lg_cmp_lt _ _).mpr z))
    refine lv_lload_n hx hb dX0_isWorth_8 rfl (lv_at hl 0 rfl) ?_
    refine lv_ldc2 (v := 1000000) hx hb hown (ht 191 _ rfl) dX0_isWorth_9 ?_
    refine W.lcmp hx hb dX0_isWorth_12 ?_
    refine lv_if_gt (tgt := 20) hx hb dX0_isWorth_13 (by decide) (fun c_13 => ?_) (fun c_13 => ?_)
    · skip
      have c_13 : 1000000 < z := (lg_cmp_gt _ _).mp c_13
      refine lv_iconst (v := 0) hx hb dX0_isWorth_20 (by decide) ?_
      exact am_zretR hx hb hr hlocks (Or.inl rfl) (by first | rfl | (simp only [ac_isWorth, c_5, c_13, if_true, if_false, eq_self, not_true_eq_false, not_false_eq_true, ite_true, ite_false, ↓reduceIte]; done) | (simp [ac_isWorth, c_5, c_13]; done)) dX0_isWorth_21
    · skip
      have c_13 : ¬ (1000000 < z) := (fun z => c_13 ((lg_cmp_gt _ _).mpr z))
      refine lv_iconst (v := 1) hx hb dX0_isWorth_16 (by decide) ?_
      refine lv_goto (tgt := 21) hx hb dX0_isWorth_17 (by decide) ?_
      exact am_zretR hx hb hr hlocks (Or.inr rfl) (by first | rfl | (simp only [ac_isWorth, c_5, c_13, if_true, if_false, eq_self, not_true_eq_false, not_false_eq_true, ite_true, ite_false, ↓reduceIte]; done) | (simp [ac_isWorth, c_5, c_13]; done)) dX0_isWorth_21

set_option maxHeartbeats 4000000 in
set_option maxRecDepth 100000 in
theorem c_X0_member (l : Launch) (D : va_G) (w : va_W) (tys : List (ClassId × FieldType)) (x : Int32) (y : Int32) : Met l yX0_member wsX0_member (am_rm 1 21) (va_Pc [.int x, .int y] (am_R nwL vwCl D w tys)) (vp_Si (fun r => r = ac_mem x y 12 0 0)) 0 0 am_No := by
  refine am_startR (cc := cX0_member) (maxL := 4) (ret := (some .int)) (by decide) rfl (Nat.le_of_ble_eq_true rfl) [(0, .int x), (1, .int y)] rfl ?_
  intro p e s m below meth c ls hx hb hr hml hown hts hlocks hP hK hN hl
  have hown : s.vm.findClass RX0 = some m.cls := hown
  have ht := am_ht hts
  refine lv_iconst (v := 0) hx hb dX0_member_0 (by decide) ?_
  refine lv_istore_n (lv' := [(2, .int 0), (0, .int x), (1, .int y)]) hx hb dX0_member_1 rfl hl (by decide) rfl (fun ls hl => ?_)
  refine lv_iconst (v := 0) hx hb dX0_member_2 (by decide) ?_
  refine lv_istore_n (lv' := [(3, .int 0), (2, .int 0), (0, .int x), (1, .int y)]) hx hb dX0_member_3 rfl hl (by decide) rfl (fun ls hl => ?_)
  refine am_loopR (σ := (Nat) × (Int32)) (fun q n9 ls => n9 = 12 - q.1 ∧ q.1 ≤ 12 ∧ ac_mem x y 12 0 0 = ac_mem x y (12 - q.1) q.1 q.2 ∧ lv_has ls 4 [(0, .int x), (1, .int y), (2, .int q.2), (3, .int (nI q.1))]) ?_ (0, 0) (12 - 0) ls ⟨rfl, (by omega), rfl, lv_sub hl [2, 3, 1, 0] rfl⟩
  rintro ⟨k, cn⟩ n9 ls ⟨hn_4, hk, hm, hl⟩ ih_4
  dsimp only at hn_4 hk hm hl
  refine lv_iload_n hx hb dX0_member_4 rfl (lv_at hl 3 rfl) ?_
  refine lv_bipush (v := 12) hx hb dX0_member_5 (by decide) ?_
  refine lv_icmp_ge (tgt := 34) hx hb dX0_member_7 (by decide) (fun c_7 => ?_) (fun c_7 => ?_)
  · skip
    have hke_7 : 12 ≤ k := (am_ge (rfl : (12 : Int32) = nI 12) (by decide) (by omega)).mp c_7
    have hkq_7 : k = 12 := by omega
    subst hkq_7
    refine lv_iconst (v := (-1)) hx hb dX0_member_34 (by decide) ?_
    exact am_iretR hx hb hr hlocks (by rw [hm]; rfl) dX0_member_35
  · skip
    have hkl_7 : k < 12 := Nat.lt_of_not_le (fun z => c_7 ((am_ge (rfl : (12 : Int32) = nI 12) (by decide) (by omega)).mpr z))
    refine lv_iload_n hx hb dX0_member_10 rfl (lv_at hl 0 rfl) ?_
    refine lv_iload_n hx hb dX0_member_11 rfl (lv_at hl 3 rfl) ?_
    refine am_callRi (W.runS (As := [.int x, .int (nI k)]) (rest := []) ⟨hx, hb, hml, hown, hts⟩ (c_X0_has l D _ _ x (nI k)) (va_cwS 2 hts (am_gS (am_in 204 rfl) (am_in 205 rfl) (am_in 29 rfl) (am_in 206 rfl)) rfl rfl rfl (by decide +kernel) ⟨Nat.le_of_ble_eq_true rfl, Nat.le_of_ble_eq_true rfl⟩) (am_preSR hP hK hN) rfl rfl hl.1 rfl (lv_room (Nat.le_of_ble_eq_true rfl)) dX0_member_12 ⟨Nat.zero_le _, Nat.zero_le _⟩) ?_
    refine lv_if_eq (tgt := 28) hx hb dX0_member_15 (by decide) (fun c_15 => ?_) (fun c_15 => ?_)
    · skip
      refine lv_iinc (v := nI (k + 1)) (lv' := [(3, .int (nI (k + 1))), (0, .int x), (1, .int y), (2, .int cn)]) hx hb dX0_member_28 hl (k := 3) rfl (nI_1 k) (by decide) rfl (fun ls hl => ?_)
      refine lv_goto (tgt := 4) hx hb dX0_member_31 (by decide) ?_
      refine ih_4 (k + 1, cn) (12 - (k + 1)) ls (by omega) ⟨rfl, (by omega), (by dsimp only; rw [hm, show 12 - k = (12 - (k + 1)) + 1 by omega]; simp [ac_mem, c_7, c_15]), ?_⟩
      exact lv_sub hl [1, 2, 3, 0] rfl
    · skip
      refine lv_iload_n hx hb dX0_member_18 rfl (lv_at hl 2 rfl) ?_
      refine lv_iload_n hx hb dX0_member_19 rfl (lv_at hl 1 rfl) ?_
      refine lv_icmp_ne (tgt := 25) hx hb dX0_member_20 (by decide) (fun c_20 => ?_) (fun c_20 => ?_)
      · skip
        refine lv_iinc (v := cn + 1) (lv' := [(2, .int (cn + 1)), (0, .int x), (1, .int y), (3, .int (nI k))]) hx hb dX0_member_25 hl (k := 2) rfl rfl (by decide) rfl (fun ls hl => ?_)
        refine lv_iinc (v := nI (k + 1)) (lv' := [(3, .int (nI (k + 1))), (2, .int (cn + 1)), (0, .int x), (1, .int y)]) hx hb dX0_member_28 hl (k := 3) rfl (nI_1 k) (by decide) rfl (fun ls hl => ?_)
        refine lv_goto (tgt := 4) hx hb dX0_member_31 (by decide) ?_
        refine ih_4 (k + 1, cn + 1) (12 - (k + 1)) ls (by omega) ⟨rfl, (by omega), (by dsimp only; rw [hm, show 12 - k = (12 - (k + 1)) + 1 by omega]; simp [ac_mem, c_7, c_15, c_20]), ?_⟩
        exact lv_sub hl [2, 3, 1, 0] rfl
      · skip
        refine lv_iload_n hx hb dX0_member_23 rfl (lv_at hl 3 rfl) ?_
        exact am_iretR hx hb hr hlocks (by rw [hm, show 12 - k = (12 - (k + 1)) + 1 by omega]; simp [ac_mem, c_7, c_15, c_20]) dX0_member_24

set_option maxHeartbeats 4000000 in
set_option maxRecDepth 100000 in
theorem c_JI_bitCount (l : Launch) (D : va_G) (w : va_W) (tys : List (ClassId × FieldType)) (x : Int32) : Met l yJI_bitCount wsJI_bitCount (am_rm 0 0) (va_Pc [.int x] (am_R nwL vwCl D w tys)) (vp_Si (fun r => r = ac_bc x)) 0 0 am_No := by
  refine am_startR (cc := cJI_bitCount) (maxL := 1) (ret := (some .int)) (by decide) rfl (Nat.le_of_ble_eq_true rfl) [(0, .int x)] rfl ?_
  intro p e s m below meth c ls hx hb hr hml hown hts hlocks hP hK hN hl
  have hown : s.vm.findClass RJI = some m.cls := hown
  have ht := am_ht hts
  refine lv_iload_n hx hb dJI_bitCount_0 rfl (lv_at hl 0 rfl) ?_
  refine lv_iload_n hx hb dJI_bitCount_1 rfl (lv_at hl 0 rfl) ?_
  refine lv_iconst (v := 1) hx hb dJI_bitCount_2 (by decide) ?_
  refine lv_iushr (v := (x.toUInt32 >>> ((1 : Int32).toUInt32 &&& Int32.toUInt32 31)).toInt32) hx hb dJI_bitCount_3 rfl ?_
  refine lv_ldcw (v := 1431655765) hx hb hown (ht 274 _ rfl) dJI_bitCount_4 ?_
  refine lv_iand hx hb dJI_bitCount_7 ?_
  refine lv_isub hx hb dJI_bitCount_8 ?_
  refine lv_istore_n (lv' := [(0, .int (x - (((x.toUInt32 >>> ((1 : Int32).toUInt32 &&& Int32.toUInt32 31)).toInt32) &&& 1431655765)))]) hx hb dJI_bitCount_9 rfl hl (by decide) rfl (fun ls hl => ?_)
  refine lv_iload_n hx hb dJI_bitCount_10 rfl (lv_at hl 0 rfl) ?_
  refine lv_ldcw (v := 858993459) hx hb hown (ht 275 _ rfl) dJI_bitCount_11 ?_
  refine lv_iand hx hb dJI_bitCount_14 ?_
  refine lv_iload_n hx hb dJI_bitCount_15 rfl (lv_at hl 0 rfl) ?_
  refine lv_iconst (v := 2) hx hb dJI_bitCount_16 (by decide) ?_
  refine lv_iushr (v := ((x - (((x.toUInt32 >>> ((1 : Int32).toUInt32 &&& Int32.toUInt32 31)).toInt32) &&& 1431655765)).toUInt32 >>> ((2 : Int32).toUInt32 &&& Int32.toUInt32 31)).toInt32) hx hb dJI_bitCount_17 rfl ?_
  refine lv_ldcw (v := 858993459) hx hb hown (ht 275 _ rfl) dJI_bitCount_18 ?_
  refine lv_iand hx hb dJI_bitCount_21 ?_
  refine lv_iadd hx hb dJI_bitCount_22 ?_
  refine lv_istore_n (lv' := [(0, .int (((x - (((x.toUInt32 >>> ((1 : Int32).toUInt32 &&& Int32.toUInt32 31)).toInt32) &&& 1431655765)) &&& 858993459) + ((((x - (((x.toUInt32 >>> ((1 : Int32).toUInt32 &&& Int32.toUInt32 31)).toInt32) &&& 1431655765)).toUInt32 >>> ((2 : Int32).toUInt32 &&& Int32.toUInt32 31)).toInt32) &&& 858993459)))]) hx hb dJI_bitCount_23 rfl hl (by decide) rfl (fun ls hl => ?_)
  refine lv_iload_n hx hb dJI_bitCount_24 rfl (lv_at hl 0 rfl) ?_
  refine lv_iload_n hx hb dJI_bitCount_25 rfl (lv_at hl 0 rfl) ?_
  refine lv_iconst (v := 4) hx hb dJI_bitCount_26 (by decide) ?_
  refine lv_iushr (v := ((((x - (((x.toUInt32 >>> ((1 : Int32).toUInt32 &&& Int32.toUInt32 31)).toInt32) &&& 1431655765)) &&& 858993459) + ((((x - (((x.toUInt32 >>> ((1 : Int32).toUInt32 &&& Int32.toUInt32 31)).toInt32) &&& 1431655765)).toUInt32 >>> ((2 : Int32).toUInt32 &&& Int32.toUInt32 31)).toInt32) &&& 858993459)).toUInt32 >>> ((4 : Int32).toUInt32 &&& Int32.toUInt32 31)).toInt32) hx hb dJI_bitCount_27 rfl ?_
  refine lv_iadd hx hb dJI_bitCount_28 ?_
  refine lv_ldcw (v := 252645135) hx hb hown (ht 276 _ rfl) dJI_bitCount_29 ?_
  refine lv_iand hx hb dJI_bitCount_32 ?_
  refine lv_istore_n (lv' := [(0, .int (((((x - (((x.toUInt32 >>> ((1 : Int32).toUInt32 &&& Int32.toUInt32 31)).toInt32) &&& 1431655765)) &&& 858993459) + ((((x - (((x.toUInt32 >>> ((1 : Int32).toUInt32 &&& Int32.toUInt32 31)).toInt32) &&& 1431655765)).toUInt32 >>> ((2 : Int32).toUInt32 &&& Int32.toUInt32 31)).toInt32) &&& 858993459)) + (((((x - (((x.toUInt32 >>> ((1 : Int32).toUInt32 &&& Int32.toUInt32 31)).toInt32) &&& 1431655765)) &&& 858993459) + ((((x - (((x.toUInt32 >>> ((1 : Int32).toUInt32 &&& Int32.toUInt32 31)).toInt32) &&& 1431655765)).toUInt32 >>> ((2 : Int32).toUInt32 &&& Int32.toUInt32 31)).toInt32) &&& 858993459)).toUInt32 >>> ((4 : Int32).toUInt32 &&& Int32.toUInt32 31)).toInt32)) &&& 252645135))]) hx hb dJI_bitCount_33 rfl hl (by decide) rfl (fun ls hl => ?_)
  refine lv_iload_n hx hb dJI_bitCount_34 rfl (lv_at hl 0 rfl) ?_
  refine lv_iload_n hx hb dJI_bitCount_35 rfl (lv_at hl 0 rfl) ?_
  refine lv_bipush (v := 8) hx hb dJI_bitCount_36 (by decide) ?_
  refine lv_iushr (v := ((((((x - (((x.toUInt32 >>> ((1 : Int32).toUInt32 &&& Int32.toUInt32 31)).toInt32) &&& 1431655765)) &&& 858993459) + ((((x - (((x.toUInt32 >>> ((1 : Int32).toUInt32 &&& Int32.toUInt32 31)).toInt32) &&& 1431655765)).toUInt32 >>> ((2 : Int32).toUInt32 &&& Int32.toUInt32 31)).toInt32) &&& 858993459)) + (((((x - (((x.toUInt32 >>> ((1 : Int32).toUInt32 &&& Int32.toUInt32 31)).toInt32) &&& 1431655765)) &&& 858993459) + ((((x - (((x.toUInt32 >>> ((1 : Int32).toUInt32 &&& Int32.toUInt32 31)).toInt32) &&& 1431655765)).toUInt32 >>> ((2 : Int32).toUInt32 &&& Int32.toUInt32 31)).toInt32) &&& 858993459)).toUInt32 >>> ((4 : Int32).toUInt32 &&& Int32.toUInt32 31)).toInt32)) &&& 252645135).toUInt32 >>> ((8 : Int32).toUInt32 &&& Int32.toUInt32 31)).toInt32) hx hb dJI_bitCount_38 rfl ?_
  refine lv_iadd hx hb dJI_bitCount_39 ?_
  refine lv_istore_n (lv' := [(0, .int ((((((x - (((x.toUInt32 >>> ((1 : Int32).toUInt32 &&& Int32.toUInt32 31)).toInt32) &&& 1431655765)) &&& 858993459) + ((((x - (((x.toUInt32 >>> ((1 : Int32).toUInt32 &&& Int32.toUInt32 31)).toInt32) &&& 1431655765)).toUInt32 >>> ((2 : Int32).toUInt32 &&& Int32.toUInt32 31)).toInt32) &&& 858993459)) + (((((x - (((x.toUInt32 >>> ((1 : Int32).toUInt32 &&& Int32.toUInt32 31)).toInt32) &&& 1431655765)) &&& 858993459) + ((((x - (((x.toUInt32 >>> ((1 : Int32).toUInt32 &&& Int32.toUInt32 31)).toInt32) &&& 1431655765)).toUInt32 >>> ((2 : Int32).toUInt32 &&& Int32.toUInt32 31)).toInt32) &&& 858993459)).toUInt32 >>> ((4 : Int32).toUInt32 &&& Int32.toUInt32 31)).toInt32)) &&& 252645135) + (((((((x - (((x.toUInt32 >>> ((1 : Int32).toUInt32 &&& Int32.toUInt32 31)).toInt32) &&& 1431655765)) &&& 858993459) + ((((x - (((x.toUInt32 >>> ((1 : Int32).toUInt32 &&& Int32.toUInt32 31)).toInt32) &&& 1431655765)).toUInt32 >>> ((2 : Int32).toUInt32 &&& Int32.toUInt32 31)).toInt32) &&& 858993459)) + (((((x - (((x.toUInt32 >>> ((1 : Int32).toUInt32 &&& Int32.toUInt32 31)).toInt32) &&& 1431655765)) &&& 858993459) + ((((x - (((x.toUInt32 >>> ((1 : Int32).toUInt32 &&& Int32.toUInt32 31)).toInt32) &&& 1431655765)).toUInt32 >>> ((2 : Int32).toUInt32 &&& Int32.toUInt32 31)).toInt32) &&& 858993459)).toUInt32 >>> ((4 : Int32).toUInt32 &&& Int32.toUInt32 31)).toInt32)) &&& 252645135).toUInt32 >>> ((8 : Int32).toUInt32 &&& Int32.toUInt32 31)).toInt32)))]) hx hb dJI_bitCount_40 rfl hl (by decide) rfl (fun ls hl => ?_)
  refine lv_iload_n hx hb dJI_bitCount_41 rfl (lv_at hl 0 rfl) ?_
  refine lv_iload_n hx hb dJI_bitCount_42 rfl (lv_at hl 0 rfl) ?_
  refine lv_bipush (v := 16) hx hb dJI_bitCount_43 (by decide) ?_
  refine lv_iushr (v := (((((((x - (((x.toUInt32 >>> ((1 : Int32).toUInt32 &&& Int32.toUInt32 31)).toInt32) &&& 1431655765)) &&& 858993459) + ((((x - (((x.toUInt32 >>> ((1 : Int32).toUInt32 &&& Int32.toUInt32 31)).toInt32) &&& 1431655765)).toUInt32 >>> ((2 : Int32).toUInt32 &&& Int32.toUInt32 31)).toInt32) &&& 858993459)) + (((((x - (((x.toUInt32 >>> ((1 : Int32).toUInt32 &&& Int32.toUInt32 31)).toInt32) &&& 1431655765)) &&& 858993459) + ((((x - (((x.toUInt32 >>> ((1 : Int32).toUInt32 &&& Int32.toUInt32 31)).toInt32) &&& 1431655765)).toUInt32 >>> ((2 : Int32).toUInt32 &&& Int32.toUInt32 31)).toInt32) &&& 858993459)).toUInt32 >>> ((4 : Int32).toUInt32 &&& Int32.toUInt32 31)).toInt32)) &&& 252645135) + (((((((x - (((x.toUInt32 >>> ((1 : Int32).toUInt32 &&& Int32.toUInt32 31)).toInt32) &&& 1431655765)) &&& 858993459) + ((((x - (((x.toUInt32 >>> ((1 : Int32).toUInt32 &&& Int32.toUInt32 31)).toInt32) &&& 1431655765)).toUInt32 >>> ((2 : Int32).toUInt32 &&& Int32.toUInt32 31)).toInt32) &&& 858993459)) + (((((x - (((x.toUInt32 >>> ((1 : Int32).toUInt32 &&& Int32.toUInt32 31)).toInt32) &&& 1431655765)) &&& 858993459) + ((((x - (((x.toUInt32 >>> ((1 : Int32).toUInt32 &&& Int32.toUInt32 31)).toInt32) &&& 1431655765)).toUInt32 >>> ((2 : Int32).toUInt32 &&& Int32.toUInt32 31)).toInt32) &&& 858993459)).toUInt32 >>> ((4 : Int32).toUInt32 &&& Int32.toUInt32 31)).toInt32)) &&& 252645135).toUInt32 >>> ((8 : Int32).toUInt32 &&& Int32.toUInt32 31)).toInt32)).toUInt32 >>> ((16 : Int32).toUInt32 &&& Int32.toUInt32 31)).toInt32) hx hb dJI_bitCount_45 rfl ?_
  refine lv_iadd hx hb dJI_bitCount_46 ?_
  refine lv_istore_n (lv' := [(0, .int (((((((x - (((x.toUInt32 >>> ((1 : Int32).toUInt32 &&& Int32.toUInt32 31)).toInt32) &&& 1431655765)) &&& 858993459) + ((((x - (((x.toUInt32 >>> ((1 : Int32).toUInt32 &&& Int32.toUInt32 31)).toInt32) &&& 1431655765)).toUInt32 >>> ((2 : Int32).toUInt32 &&& Int32.toUInt32 31)).toInt32) &&& 858993459)) + (((((x - (((x.toUInt32 >>> ((1 : Int32).toUInt32 &&& Int32.toUInt32 31)).toInt32) &&& 1431655765)) &&& 858993459) + ((((x - (((x.toUInt32 >>> ((1 : Int32).toUInt32 &&& Int32.toUInt32 31)).toInt32) &&& 1431655765)).toUInt32 >>> ((2 : Int32).toUInt32 &&& Int32.toUInt32 31)).toInt32) &&& 858993459)).toUInt32 >>> ((4 : Int32).toUInt32 &&& Int32.toUInt32 31)).toInt32)) &&& 252645135) + (((((((x - (((x.toUInt32 >>> ((1 : Int32).toUInt32 &&& Int32.toUInt32 31)).toInt32) &&& 1431655765)) &&& 858993459) + ((((x - (((x.toUInt32 >>> ((1 : Int32).toUInt32 &&& Int32.toUInt32 31)).toInt32) &&& 1431655765)).toUInt32 >>> ((2 : Int32).toUInt32 &&& Int32.toUInt32 31)).toInt32) &&& 858993459)) + (((((x - (((x.toUInt32 >>> ((1 : Int32).toUInt32 &&& Int32.toUInt32 31)).toInt32) &&& 1431655765)) &&& 858993459) + ((((x - (((x.toUInt32 >>> ((1 : Int32).toUInt32 &&& Int32.toUInt32 31)).toInt32) &&& 1431655765)).toUInt32 >>> ((2 : Int32).toUInt32 &&& Int32.toUInt32 31)).toInt32) &&& 858993459)).toUInt32 >>> ((4 : Int32).toUInt32 &&& Int32.toUInt32 31)).toInt32)) &&& 252645135).toUInt32 >>> ((8 : Int32).toUInt32 &&& Int32.toUInt32 31)).toInt32)) + ((((((((x - (((x.toUInt32 >>> ((1 : Int32).toUInt32 &&& Int32.toUInt32 31)).toInt32) &&& 1431655765)) &&& 858993459) + ((((x - (((x.toUInt32 >>> ((1 : Int32).toUInt32 &&& Int32.toUInt32 31)).toInt32) &&& 1431655765)).toUInt32 >>> ((2 : Int32).toUInt32 &&& Int32.toUInt32 31)).toInt32) &&& 858993459)) + (((((x - (((x.toUInt32 >>> ((1 : Int32).toUInt32 &&& Int32.toUInt32 31)).toInt32) &&& 1431655765)) &&& 858993459) + ((((x - (((x.toUInt32 >>> ((1 : Int32).toUInt32 &&& Int32.toUInt32 31)).toInt32) &&& 1431655765)).toUInt32 >>> ((2 : Int32).toUInt32 &&& Int32.toUInt32 31)).toInt32) &&& 858993459)).toUInt32 >>> ((4 : Int32).toUInt32 &&& Int32.toUInt32 31)).toInt32)) &&& 252645135) + (((((((x - (((x.toUInt32 >>> ((1 : Int32).toUInt32 &&& Int32.toUInt32 31)).toInt32) &&& 1431655765)) &&& 858993459) + ((((x - (((x.toUInt32 >>> ((1 : Int32).toUInt32 &&& Int32.toUInt32 31)).toInt32) &&& 1431655765)).toUInt32 >>> ((2 : Int32).toUInt32 &&& Int32.toUInt32 31)).toInt32) &&& 858993459)) + (((((x - (((x.toUInt32 >>> ((1 : Int32).toUInt32 &&& Int32.toUInt32 31)).toInt32) &&& 1431655765)) &&& 858993459) + ((((x - (((x.toUInt32 >>> ((1 : Int32).toUInt32 &&& Int32.toUInt32 31)).toInt32) &&& 1431655765)).toUInt32 >>> ((2 : Int32).toUInt32 &&& Int32.toUInt32 31)).toInt32) &&& 858993459)).toUInt32 >>> ((4 : Int32).toUInt32 &&& Int32.toUInt32 31)).toInt32)) &&& 252645135).toUInt32 >>> ((8 : Int32).toUInt32 &&& Int32.toUInt32 31)).toInt32)).toUInt32 >>> ((16 : Int32).toUInt32 &&& Int32.toUInt32 31)).toInt32)))]) hx hb dJI_bitCount_47 rfl hl (by decide) rfl (fun ls hl => ?_)
  refine lv_iload_n hx hb dJI_bitCount_48 rfl (lv_at hl 0 rfl) ?_
  refine lv_bipush (v := 63) hx hb dJI_bitCount_49 (by decide) ?_
  refine lv_iand hx hb dJI_bitCount_51 ?_
  exact am_iretR hx hb hr hlocks (by rfl) dJI_bitCount_52
end
section
set_option maxHeartbeats 4000000 in
set_option maxRecDepth 100000 in
theorem c_X1_hasAct (l : Launch) (D : va_G) (ad : Nat → Nat) (cI cL : ClassId) (fi : Nat → Int32) (fl : Nat → Int64) (ai : Nat → Nat → Int32) (al : Nat → Nat → Int64) (x : Int32) : Met l yX1_hasAct wsX1_hasAct (am_rm 0 0) (va_Pc [.ref (ad 1), .int x] (am_R nwL vwCl D (ac_w ad cI cL fi fl ai al) [(cI, .int), (cL, .long)])) (vp_Si (fun r => r = ac_hasAct (fi 0) x)) 0 0 am_No := by
  refine am_startR (cc := cX1_hasAct) (maxL := 2) (ret := (some .boolean)) (by decide) rfl (Nat.le_of_ble_eq_true rfl) [(0, .ref (ad 1)), (1, .int x)] rfl ?_
  intro p e s m below meth c ls hx hb hr hml hown hts hlocks hP hK hN hl
  have hown : s.vm.findClass RX1 = some m.cls := hown
  have ht := am_ht hts
  have hin_X1 : ∀ w ∈ u_ws RX1 TX1 14, w ∈ wsX1_hasAct := fun w h => List.mem_cons_of_mem _ (am_inX1 w h)
  have hf_54 := ht 56 (.fieldLink RX1 54 "ApartCost$Product" "acts" "I") rfl
  refine lv_iload_n hx hb dX1_hasAct_0 rfl (lv_at hl 1 rfl) ?_
  refine lv_if_lt (tgt := 16) hx hb dX1_hasAct_1 (by decide) (fun c_1 => ?_) (fun c_1 => ?_)
  · skip
    refine lv_iconst (v := 0) hx hb dX1_hasAct_16 (by decide) ?_
    exact am_zretR hx hb hr hlocks (Or.inl rfl) (by first | rfl | (simp only [ac_hasAct, c_1, if_true, if_false, eq_self, not_true_eq_false, not_false_eq_true, ite_true, ite_false, ↓reduceIte]; done) | (simp [ac_hasAct, c_1]; done)) dX1_hasAct_17
  · skip
    refine lv_iload_n hx hb dX1_hasAct_4 rfl (lv_at hl 1 rfl) ?_
    refine lv_aload_n hx hb dX1_hasAct_5 rfl (lv_at hl 0 rfl) ?_
    refine va_get (D := D) (ci := 1) (v := .int (fi 0)) (C := RX1) (T := TX1) (N := 14) hx hb hts hin_X1 hown hK hP 1 rfl rfl 0 (by decide) hf_54 (fun _ h9 => h9) rfl dX1_hasAct_6 ?_
    refine lv_icmp_ge (tgt := 16) hx hb dX1_hasAct_9 (by decide) (fun c_9 => ?_) (fun c_9 => ?_)
    · skip
      refine lv_iconst (v := 0) hx hb dX1_hasAct_16 (by decide) ?_
      exact am_zretR hx hb hr hlocks (Or.inl rfl) (by first | rfl | (simp only [ac_hasAct, c_1, c_9, if_true, if_false, eq_self, not_true_eq_false, not_false_eq_true, ite_true, ite_false, ↓reduceIte]; done) | (simp [ac_hasAct, c_1, c_9]; done)) dX1_hasAct_17
    · skip
      refine lv_iconst (v := 1) hx hb dX1_hasAct_12 (by decide) ?_
      refine lv_goto (tgt := 17) hx hb dX1_hasAct_13 (by decide) ?_
      exact am_zretR hx hb hr hlocks (Or.inr rfl) (by first | rfl | (simp only [ac_hasAct, c_1, c_9, if_true, if_false, eq_self, not_true_eq_false, not_false_eq_true, ite_true, ite_false, ↓reduceIte]; done) | (simp [ac_hasAct, c_1, c_9]; done)) dX1_hasAct_17

set_option maxHeartbeats 4000000 in
set_option maxRecDepth 100000 in
theorem c_X1_allActs (l : Launch) (D : va_G) (ad : Nat → Nat) (cI cL : ClassId) (fi : Nat → Int32) (fl : Nat → Int64) (ai : Nat → Nat → Int32) (al : Nat → Nat → Int64) : Met l yX1_allActs wsX1_allActs (am_rm 0 0) (va_Pc [.ref (ad 1)] (am_R nwL vwCl D (ac_w ad cI cL fi fl ai al) [(cI, .int), (cL, .long)])) (vp_Si (fun r => r = ac_all (fi 0))) 0 0 am_No := by
  refine am_startR (cc := cX1_allActs) (maxL := 1) (ret := (some .int)) (by decide) rfl (Nat.le_of_ble_eq_true rfl) [(0, .ref (ad 1))] rfl ?_
  intro p e s m below meth c ls hx hb hr hml hown hts hlocks hP hK hN hl
  have hown : s.vm.findClass RX1 = some m.cls := hown
  have ht := am_ht hts
  have hin_X1 : ∀ w ∈ u_ws RX1 TX1 14, w ∈ wsX1_allActs := fun w h => List.mem_cons_of_mem _ (am_inX1 w h)
  have hf_54 := ht 56 (.fieldLink RX1 54 "ApartCost$Product" "acts" "I") rfl
  refine lv_iconst (v := 1) hx hb dX1_allActs_0 (by decide) ?_
  refine lv_aload_n hx hb dX1_allActs_1 rfl (lv_at hl 0 rfl) ?_
  refine va_get (D := D) (ci := 1) (v := .int (fi 0)) (C := RX1) (T := TX1) (N := 14) hx hb hts hin_X1 hown hK hP 1 rfl rfl 0 (by decide) hf_54 (fun _ h9 => h9) rfl dX1_allActs_2 ?_
  refine lv_ishl hx hb dX1_allActs_5 ?_
  refine lv_iconst (v := 1) hx hb dX1_allActs_6 (by decide) ?_
  refine lv_isub hx hb dX1_allActs_7 ?_
  exact am_iretR hx hb hr hlocks (by first | rfl | (simp only [ac_all, if_true, if_false, eq_self, not_true_eq_false, not_false_eq_true, ite_true, ite_false, ↓reduceIte]; done) | (simp [ac_all]; done)) dX1_allActs_8

set_option maxHeartbeats 4000000 in
set_option maxRecDepth 100000 in
theorem c_X1_placeOfRest (l : Launch) (D : va_G) (ad : Nat → Nat) (cI cL : ClassId) (fi : Nat → Int32) (fl : Nat → Int64) (ai : Nat → Nat → Int32) (al : Nat → Nat → Int64) (x : Int32) (nr : Nat) (hnr : fi 2 = nI nr) (hnrl : nr ≤ 16) : Met l yX1_placeOfRest wsX1_placeOfRest (am_rm 0 0) (va_Pc [.ref (ad 1), .int x] (am_R nwL vwCl D (ac_w ad cI cL fi fl ai al) [(cI, .int), (cL, .long)])) (vp_Si (fun r => r = nI (ac_place (ai 14) x nr 0))) 0 0 am_No := by
  refine am_startR (cc := cX1_placeOfRest) (maxL := 3) (ret := (some .int)) (by decide) rfl (Nat.le_of_ble_eq_true rfl) [(0, .ref (ad 1)), (1, .int x)] rfl ?_
  intro p e s m below meth c ls hx hb hr hml hown hts hlocks hP hK hN hl
  have hown : s.vm.findClass RX1 = some m.cls := hown
  have ht := am_ht hts
  have hin_X1 : ∀ w ∈ u_ws RX1 TX1 14, w ∈ wsX1_placeOfRest := fun w h => List.mem_cons_of_mem _ (am_inX1 w h)
  have hf_40 := ht 81 (.fieldLink RX1 40 "ApartCost$Product" "restParts" "[I") rfl
  have hf_66 := ht 79 (.fieldLink RX1 66 "ApartCost$Product" "rests" "I") rfl
  refine lv_iconst (v := 0) hx hb dX1_placeOfRest_0 (by decide) ?_
  refine lv_istore_n (lv' := [(2, .int 0), (0, .ref (ad 1)), (1, .int x)]) hx hb dX1_placeOfRest_1 rfl hl (by decide) rfl (fun ls hl => ?_)
  refine am_loopR (σ := Nat) (fun q n9 ls => n9 = nr - q ∧ q ≤ nr ∧ ac_place (ai 14) x nr 0 = ac_place (ai 14) x (nr - q) q ∧ lv_has ls 3 [(0, .ref (ad 1)), (1, .int x), (2, .int (nI q))]) ?_ 0 (nr - 0) ls ⟨rfl, (by omega), rfl, lv_sub hl [1, 2, 0] rfl⟩
  rintro k n9 ls ⟨hn_2, hk, hm, hl⟩ ih_2
  refine lv_iload_n hx hb dX1_placeOfRest_2 rfl (lv_at hl 2 rfl) ?_
  refine lv_aload_n hx hb dX1_placeOfRest_3 rfl (lv_at hl 0 rfl) ?_
  refine va_get (D := D) (ci := 1) (v := .int (fi 2)) (C := RX1) (T := TX1) (N := 14) hx hb hts hin_X1 hown hK hP 1 rfl rfl 11 (by decide) hf_66 (fun _ h9 => h9) rfl dX1_placeOfRest_4 ?_
  refine lv_icmp_ge (tgt := 28) hx hb dX1_placeOfRest_7 (by decide) (fun c_7 => ?_) (fun c_7 => ?_)
  · skip
    have hke_7 : nr ≤ k := (am_ge hnr (by omega) (by omega)).mp c_7
    have hkq_7 : nr = k := by omega
    subst hkq_7
    refine lv_aload_n hx hb dX1_placeOfRest_28 rfl (lv_at hl 0 rfl) ?_
    refine va_get (D := D) (ci := 1) (v := .int (fi 2)) (C := RX1) (T := TX1) (N := 14) hx hb hts hin_X1 hown hK hP 1 rfl rfl 11 (by decide) hf_66 (fun _ h9 => h9) rfl dX1_placeOfRest_29 ?_
    exact am_iretR hx hb hr hlocks (by rw [hm, hnr, Nat.sub_self, ac_place]) dX1_placeOfRest_32
  · skip
    have hkl_7 : k < nr := Nat.lt_of_not_le (fun z => c_7 ((am_ge hnr (by omega) (by omega)).mpr z))
    refine lv_aload_n hx hb dX1_placeOfRest_10 rfl (lv_at hl 0 rfl) ?_
    refine va_get (D := D) (ci := 1) (v := .ref (ad 14)) (C := RX1) (T := TX1) (N := 14) hx hb hts hin_X1 hown hK hP 1 rfl rfl 12 (by decide) hf_40 (fun _ h9 => h9) rfl dX1_placeOfRest_11 ?_
    refine lv_iload_n hx hb dX1_placeOfRest_14 rfl (lv_at hl 2 rfl) ?_
    refine am_iald hx hb hK hP 14 0 rfl rfl k rfl (by omega) (by decide) dX1_placeOfRest_15 ?_
    refine lv_iload_n hx hb dX1_placeOfRest_16 rfl (lv_at hl 1 rfl) ?_
    refine lv_icmp_ne (tgt := 22) hx hb dX1_placeOfRest_17 (by decide) (fun c_17 => ?_) (fun c_17 => ?_)
    · skip
      refine lv_iinc (v := nI (k + 1)) (lv' := [(2, .int (nI (k + 1))), (0, .ref (ad 1)), (1, .int x)]) hx hb dX1_placeOfRest_22 hl (k := 2) rfl (nI_1 k) (by decide) rfl (fun ls hl => ?_)
      refine lv_goto (tgt := 2) hx hb dX1_placeOfRest_25 (by decide) ?_
      refine ih_2 (k + 1) (nr - (k + 1)) ls (by omega) ⟨rfl, (by omega), (by rw [hm, show nr - k = (nr - (k + 1)) + 1 by omega, ac_place, if_neg c_17]), ?_⟩
      exact lv_sub hl [1, 2, 0] rfl
    · skip
      refine lv_iload_n hx hb dX1_placeOfRest_20 rfl (lv_at hl 2 rfl) ?_
      exact am_iretR hx hb hr hlocks (by rw [hm, show nr - k = (nr - (k + 1)) + 1 by omega, ac_place, if_pos c_17]) dX1_placeOfRest_21

set_option maxHeartbeats 4000000 in
set_option maxRecDepth 100000 in
theorem c_X1_restWorth (l : Launch) (D : va_G) (ad : Nat → Nat) (cI cL : ClassId) (fi : Nat → Int32) (fl : Nat → Int64) (ai : Nat → Nat → Int32) (al : Nat → Nat → Int64) (x : Int32) (nr : Nat) (hnr : fi 2 = nI nr) (hnrl : nr ≤ 16) : Met l yX1_restWorth wsX1_restWorth (am_rm 1 22) (va_Pc [.ref (ad 1), .int x] (am_R nwL vwCl D (ac_w ad cI cL fi fl ai al) [(cI, .int), (cL, .long)])) (vp_Sl (fun r => r = ac_restW (ai 14) (al 15) nr x)) 0 0 am_No := by
  refine am_startR (cc := cX1_restWorth) (maxL := 3) (ret := (some .long)) (by decide) rfl (Nat.le_of_ble_eq_true rfl) [(0, .ref (ad 1)), (1, .int x)] rfl ?_
  intro p e s m below meth c ls hx hb hr hml hown hts hlocks hP hK hN hl
  have hown : s.vm.findClass RX1 = some m.cls := hown
  have ht := am_ht hts
  have hin_X1 : ∀ w ∈ u_ws RX1 TX1 14, w ∈ wsX1_restWorth := fun w h => List.mem_cons_of_mem _ (am_inX1 w h)
  have hf_43 := ht 82 (.fieldLink RX1 43 "ApartCost$Product" "restCents" "[J") rfl
  have hf_66 := ht 79 (.fieldLink RX1 66 "ApartCost$Product" "rests" "I") rfl
  have hpb := (ac_place_le (ai 14) x nr 0).2
  refine lv_aload_n hx hb dX1_restWorth_0 rfl (lv_at hl 0 rfl) ?_
  refine lv_iload_n hx hb dX1_restWorth_1 rfl (lv_at hl 1 rfl) ?_
  refine am_callRi (W.runV (As := [.int x]) (rest := []) ⟨hx, hb, hml, hown, hts⟩ (c_X1_placeOfRest l D ad cI cL fi fl ai al x nr hnr hnrl) (cwV 1 hts (am_gV (am_in 239 rfl) (am_in 240 rfl) (am_in 0 rfl) (am_in 30 rfl) (am_in 241 rfl)) rfl rfl rfl (by decide +kernel) ⟨Nat.le_of_ble_eq_true rfl, Nat.le_of_ble_eq_true rfl⟩) (am_preVR 1 1 rfl rfl rfl hP hK hN) rfl rfl hl.1 rfl (lv_room (Nat.le_of_ble_eq_true rfl)) dX1_restWorth_2 ⟨Nat.zero_le _, Nat.zero_le _⟩) ?_
  refine lv_istore_n (lv' := [(2, .int (nI (ac_place (ai 14) x nr 0))), (0, .ref (ad 1)), (1, .int x)]) hx hb dX1_restWorth_5 rfl hl (by decide) rfl (fun ls hl => ?_)
  refine lv_iload_n hx hb dX1_restWorth_6 rfl (lv_at hl 0 rfl) ?_
  refine lv_aload_n hx hb dX1_restWorth_7 rfl (lv_at hl 1 rfl) ?_
  refine va_get (D := D) (ci := 1) (v := .int (fi 2)) (C := RX1) (T := TX1) (N := 14) hx hb hts hin_X1 hown hK hP 1 rfl rfl 11 (by decide) hf_66 (fun _ h9 => h9) rfl dX1_restWorth_8 ?_
  refine lv_icmp_ge (tgt := 23) hx hb dX1_restWorth_11 (by decide) (fun c_11 => ?_) (fun c_11 => ?_)
  · skip
    have hpg : nr ≤ ac_place (ai 14) x nr 0 := (am_ge hnr (by omega) (by omega)).mp c_11
    refine lv_lconst (v := 0) hx hb dX1_restWorth_23 (by decide) ?_
    exact am_lretR hx hb hr hlocks (by rw [ac_restW, if_neg (Nat.not_lt.mpr hpg)]) dX1_restWorth_24
  · skip
    have hpl : ac_place (ai 14) x nr 0 < nr := Nat.lt_of_not_le (fun z => c_11 ((am_ge hnr (by omega) (by omega)).mpr z))
    refine lv_aload_n hx hb dX1_restWorth_14 rfl (lv_at hl 1 rfl) ?_
    refine va_get (D := D) (ci := 1) (v := .ref (ad 15)) (C := RX1) (T := TX1) (N := 14) hx hb hts hin_X1 hown hK hP 1 rfl rfl 13 (by decide) hf_43 (fun _ h9 => h9) rfl dX1_restWorth_15 ?_
    refine lv_iload_n hx hb dX1_restWorth_18 rfl (lv_at hl 0 rfl) ?_
    refine am_lald hx hb hK hP 15 1 rfl rfl (ac_place (ai 14) x nr 0) rfl (by omega) (by decide) dX1_restWorth_19 ?_
    refine lv_goto (tgt := 24) hx hb dX1_restWorth_20 (by decide) ?_
    exact am_lretR hx hb hr hlocks (by rw [ac_restW, if_pos hpl]) dX1_restWorth_24

set_option maxHeartbeats 4000000 in
set_option maxRecDepth 100000 in
theorem c_X1_valueOf (l : Launch) (D : va_G) (ad : Nat → Nat) (cI cL : ClassId) (fi : Nat → Int32) (fl : Nat → Int64) (ai : Nat → Nat → Int32) (al : Nat → Nat → Int64) (a : Nat) (ha : a < 12) : Met l yX1_valueOf wsX1_valueOf (am_rm 0 0) (va_Pc [.ref (ad 1), .int (nI a)] (am_R nwL vwCl D (ac_w ad cI cL fi fl ai al) [(cI, .int), (cL, .long)])) (vp_Sl (fun r => r = (al 12) a * (al 13) a)) 0 0 am_No := by
  refine am_startR (cc := cX1_valueOf) (maxL := 2) (ret := (some .long)) (by decide) rfl (Nat.le_of_ble_eq_true rfl) [(0, .ref (ad 1)), (1, .int (nI a))] rfl ?_
  intro p e s m below meth c ls hx hb hr hml hown hts hlocks hP hK hN hl
  have hown : s.vm.findClass RX1 = some m.cls := hown
  have ht := am_ht hts
  have hin_X1 : ∀ w ∈ u_ws RX1 TX1 14, w ∈ wsX1_valueOf := fun w h => List.mem_cons_of_mem _ (am_inX1 w h)
  have hf_34 := ht 74 (.fieldLink RX1 34 "ApartCost$Product" "worths" "[J") rfl
  have hf_37 := ht 77 (.fieldLink RX1 37 "ApartCost$Product" "shares" "[J") rfl
  refine lv_aload_n hx hb dX1_valueOf_0 rfl (lv_at hl 0 rfl) ?_
  refine va_get (D := D) (ci := 1) (v := .ref (ad 12)) (C := RX1) (T := TX1) (N := 14) hx hb hts hin_X1 hown hK hP 1 rfl rfl 9 (by decide) hf_34 (fun _ h9 => h9) rfl dX1_valueOf_1 ?_
  refine lv_iload_n hx hb dX1_valueOf_4 rfl (lv_at hl 1 rfl) ?_
  refine am_lald hx hb hK hP 12 1 rfl rfl a rfl (by omega) (by decide) dX1_valueOf_5 ?_
  refine lv_aload_n hx hb dX1_valueOf_6 rfl (lv_at hl 0 rfl) ?_
  refine va_get (D := D) (ci := 1) (v := .ref (ad 13)) (C := RX1) (T := TX1) (N := 14) hx hb hts hin_X1 hown hK hP 1 rfl rfl 10 (by decide) hf_37 (fun _ h9 => h9) rfl dX1_valueOf_7 ?_
  refine lv_iload_n hx hb dX1_valueOf_10 rfl (lv_at hl 1 rfl) ?_
  refine am_lald hx hb hK hP 13 1 rfl rfl a rfl (by omega) (by decide) dX1_valueOf_11 ?_
  refine lv_lmul hx hb dX1_valueOf_12 ?_
  exact am_lretR hx hb hr hlocks (by rfl) dX1_valueOf_13

set_option maxHeartbeats 4000000 in
set_option maxRecDepth 100000 in
theorem c_X1_freedBy (l : Launch) (D : va_G) (ad : Nat → Nat) (cI cL : ClassId) (fi : Nat → Int32) (fl : Nat → Int64) (ai : Nat → Nat → Int32) (al : Nat → Nat → Int64) (x : Int32) (na : Nat) (hna : fi 0 = nI na) (hnl : na ≤ 10) : Met l yX1_freedBy wsX1_freedBy (am_rm 1 21) (va_Pc [.ref (ad 1), .int x] (am_R nwL vwCl D (ac_w ad cI cL fi fl ai al) [(cI, .int), (cL, .long)])) (vp_Si (fun r => r = ac_freed (ai 5) x na)) 0 0 am_No := by
  refine am_startR (cc := cX1_freedBy) (maxL := 4) (ret := (some .int)) (by decide) rfl (Nat.le_of_ble_eq_true rfl) [(0, .ref (ad 1)), (1, .int x)] rfl ?_
  intro p e s m below meth c ls hx hb hr hml hown hts hlocks hP hK hN hl
  have hown : s.vm.findClass RX1 = some m.cls := hown
  have ht := am_ht hts
  have hin_X1 : ∀ w ∈ u_ws RX1 TX1 14, w ∈ wsX1_freedBy := fun w h => List.mem_cons_of_mem _ (am_inX1 w h)
  have hf_54 := ht 56 (.fieldLink RX1 54 "ApartCost$Product" "acts" "I") rfl
  have hf_9 := ht 60 (.fieldLink RX1 9 "ApartCost$Product" "frees" "[I") rfl
  refine lv_iconst (v := 0) hx hb dX1_freedBy_0 (by decide) ?_
  refine lv_istore_n (lv' := [(2, .int 0), (0, .ref (ad 1)), (1, .int x)]) hx hb dX1_freedBy_1 rfl hl (by decide) rfl (fun ls hl => ?_)
  refine lv_iconst (v := 0) hx hb dX1_freedBy_2 (by decide) ?_
  refine lv_istore_n (lv' := [(3, .int 0), (2, .int 0), (0, .ref (ad 1)), (1, .int x)]) hx hb dX1_freedBy_3 rfl hl (by decide) rfl (fun ls hl => ?_)
  refine am_loopR (σ := Nat) (fun q n9 ls => n9 = na - q ∧ q ≤ na ∧ lv_has ls 4 [(0, .ref (ad 1)), (1, .int x), (2, .int (ac_freed (ai 5) x q)), (3, .int (nI q))]) ?_ 0 (na - 0) ls ⟨rfl, (by omega), lv_sub hl [2, 3, 1, 0] rfl⟩
  rintro k n9 ls ⟨hn_4, hk, hl⟩ ih_4
  refine lv_iload_n hx hb dX1_freedBy_4 rfl (lv_at hl 3 rfl) ?_
  refine lv_aload_n hx hb dX1_freedBy_5 rfl (lv_at hl 0 rfl) ?_
  refine va_get (D := D) (ci := 1) (v := .int (fi 0)) (C := RX1) (T := TX1) (N := 14) hx hb hts hin_X1 hown hK hP 1 rfl rfl 0 (by decide) hf_54 (fun _ h9 => h9) rfl dX1_freedBy_6 ?_
  refine lv_icmp_ge (tgt := 47) hx hb dX1_freedBy_9 (by decide) (fun c_9 => ?_) (fun c_9 => ?_)
  · skip
    have hke_9 : na ≤ k := (am_ge hna (by omega) (by omega)).mp c_9
    have hkq_9 : na = k := by omega
    subst hkq_9
    refine lv_iload_n hx hb dX1_freedBy_47 rfl (lv_at hl 2 rfl) ?_
    exact am_iretR hx hb hr hlocks (by first | rfl | (simp only [c_9, if_true, if_false, eq_self, not_true_eq_false, not_false_eq_true, ite_true, ite_false, ↓reduceIte]; done) | (simp [c_9]; done)) dX1_freedBy_48
  · skip
    have hkl_9 : k < na := Nat.lt_of_not_le (fun z => c_9 ((am_ge hna (by omega) (by omega)).mpr z))
    refine lv_iload_n hx hb dX1_freedBy_12 rfl (lv_at hl 1 rfl) ?_
    refine lv_iload_n hx hb dX1_freedBy_13 rfl (lv_at hl 3 rfl) ?_
    refine am_callRi (va_Run.run (va_runSN (As := [.int x, .int (nI k)]) (rest := []) ⟨hx, hb, hml, hown, hts⟩ (c_X0_has l D _ _ x (nI k)) ⟨va_cnB 2 hts (am_gN (am_in 206 rfl)) rfl rfl rfl (am_nw_at hN 1 rfl) (ht 29 _ rfl) (by decide +kernel) ⟨Nat.le_of_ble_eq_true rfl, Nat.le_of_ble_eq_true rfl⟩, (ht 205 _ rfl), trivial⟩ (am_preSR hP hK hN) rfl rfl hl.1 rfl (lv_room (Nat.le_of_ble_eq_true rfl)) dX1_freedBy_14 ⟨Nat.zero_le _, Nat.zero_le _⟩)) ?_
    refine lv_if_eq (tgt := 41) hx hb dX1_freedBy_17 (by decide) (fun c_17 => ?_) (fun c_17 => ?_)
    · skip
      refine lv_iinc (v := nI (k + 1)) (lv' := [(3, .int (nI (k + 1))), (0, .ref (ad 1)), (1, .int x), (2, .int (ac_freed (ai 5) x k))]) hx hb dX1_freedBy_41 hl (k := 3) rfl (nI_1 k) (by decide) rfl (fun ls hl => ?_)
      refine lv_goto (tgt := 4) hx hb dX1_freedBy_44 (by decide) ?_
      have e_4_0 : ac_freed (ai 5) x (k + 1) = ac_freed (ai 5) x k := by first | rfl | (simp only [ac_freed, c_9, c_17, if_true, if_false, eq_self, not_true_eq_false, not_false_eq_true, ite_true, ite_false, ↓reduceIte]; done) | (simp [ac_freed, c_9, c_17]; done)
      refine ih_4 (k + 1) (na - (k + 1)) ls (by omega) ⟨rfl, (by omega), ?_⟩
      try dsimp only
      rw [e_4_0]
      exact lv_sub hl [1, 2, 3, 0] rfl
    · skip
      refine lv_aload_n hx hb dX1_freedBy_20 rfl (lv_at hl 0 rfl) ?_
      refine va_get (D := D) (ci := 1) (v := .ref (ad 5)) (C := RX1) (T := TX1) (N := 14) hx hb hts hin_X1 hown hK hP 1 rfl rfl 1 (by decide) hf_9 (fun _ h9 => h9) rfl dX1_freedBy_21 ?_
      refine lv_iload_n hx hb dX1_freedBy_24 rfl (lv_at hl 3 rfl) ?_
      refine am_iald hx hb hK hP 5 0 rfl rfl k rfl (by omega) (by decide) dX1_freedBy_25 ?_
      refine lv_iconst (v := (-1)) hx hb dX1_freedBy_26 (by decide) ?_
      refine lv_icmp_eq (tgt := 41) hx hb dX1_freedBy_27 (by decide) (fun c_27 => ?_) (fun c_27 => ?_)
      · skip
        refine lv_iinc (v := nI (k + 1)) (lv' := [(3, .int (nI (k + 1))), (0, .ref (ad 1)), (1, .int x), (2, .int (ac_freed (ai 5) x k))]) hx hb dX1_freedBy_41 hl (k := 3) rfl (nI_1 k) (by decide) rfl (fun ls hl => ?_)
        refine lv_goto (tgt := 4) hx hb dX1_freedBy_44 (by decide) ?_
        have e_4_0 : ac_freed (ai 5) x (k + 1) = ac_freed (ai 5) x k := by first | rfl | (simp only [ac_freed, c_9, c_17, c_27, if_true, if_false, eq_self, not_true_eq_false, not_false_eq_true, ite_true, ite_false, ↓reduceIte]; done) | (simp [ac_freed, c_9, c_17, c_27]; done)
        refine ih_4 (k + 1) (na - (k + 1)) ls (by omega) ⟨rfl, (by omega), ?_⟩
        try dsimp only
        rw [e_4_0]
        exact lv_sub hl [1, 2, 3, 0] rfl
      · skip
        refine lv_iload_n hx hb dX1_freedBy_30 rfl (lv_at hl 2 rfl) ?_
        refine lv_iconst (v := 1) hx hb dX1_freedBy_31 (by decide) ?_
        refine lv_aload_n hx hb dX1_freedBy_32 rfl (lv_at hl 0 rfl) ?_
        refine va_get (D := D) (ci := 1) (v := .ref (ad 5)) (C := RX1) (T := TX1) (N := 14) hx hb hts hin_X1 hown hK hP 1 rfl rfl 1 (by decide) hf_9 (fun _ h9 => h9) rfl dX1_freedBy_33 ?_
        refine lv_iload_n hx hb dX1_freedBy_36 rfl (lv_at hl 3 rfl) ?_
        refine am_iald hx hb hK hP 5 0 rfl rfl k rfl (by omega) (by decide) dX1_freedBy_37 ?_
        refine lv_ishl hx hb dX1_freedBy_38 ?_
        refine lv_ior hx hb dX1_freedBy_39 ?_
        refine lv_istore_n (lv' := [(2, .int ((ac_freed (ai 5) x k) ||| ((1 : Int32) <<< (((ai 5) k) &&& 31)))), (0, .ref (ad 1)), (1, .int x), (3, .int (nI k))]) hx hb dX1_freedBy_40 rfl hl (by decide) rfl (fun ls hl => ?_)
        refine lv_iinc (v := nI (k + 1)) (lv' := [(3, .int (nI (k + 1))), (2, .int ((ac_freed (ai 5) x k) ||| ((1 : Int32) <<< (((ai 5) k) &&& 31)))), (0, .ref (ad 1)), (1, .int x)]) hx hb dX1_freedBy_41 hl (k := 3) rfl (nI_1 k) (by decide) rfl (fun ls hl => ?_)
        refine lv_goto (tgt := 4) hx hb dX1_freedBy_44 (by decide) ?_
        have e_4_0 : ac_freed (ai 5) x (k + 1) = (ac_freed (ai 5) x k) ||| ((1 : Int32) <<< (((ai 5) k) &&& 31)) := by first | rfl | (simp only [ac_freed, c_9, c_17, c_27, if_true, if_false, eq_self, not_true_eq_false, not_false_eq_true, ite_true, ite_false, ↓reduceIte]; done) | (simp [ac_freed, c_9, c_17, c_27]; done)
        refine ih_4 (k + 1) (na - (k + 1)) ls (by omega) ⟨rfl, (by omega), ?_⟩
        try dsimp only
        rw [e_4_0]
        exact lv_sub hl [2, 3, 1, 0] rfl

set_option maxHeartbeats 4000000 in
set_option maxRecDepth 100000 in
theorem c_X1_wholeBy (l : Launch) (D : va_G) (ad : Nat → Nat) (cI cL : ClassId) (fi : Nat → Int32) (fl : Nat → Int64) (ai : Nat → Nat → Int32) (al : Nat → Nat → Int64) (x : Int32) (na : Nat) (hna : fi 0 = nI na) (hnl : na ≤ 10) : Met l yX1_wholeBy wsX1_wholeBy (am_rm 2 44) (va_Pc [.ref (ad 1), .int x] (am_R nwL vwCl D (ac_w ad cI cL fi fl ai al) [(cI, .int), (cL, .long)])) (vp_Si (fun r => r = ac_whole (ai 5) (fi 1) na x)) 0 0 am_No := by
  refine am_startR (cc := cX1_wholeBy) (maxL := 2) (ret := (some .int)) (by decide) rfl (Nat.le_of_ble_eq_true rfl) [(0, .ref (ad 1)), (1, .int x)] rfl ?_
  intro p e s m below meth c ls hx hb hr hml hown hts hlocks hP hK hN hl
  have hown : s.vm.findClass RX1 = some m.cls := hown
  have ht := am_ht hts
  have hin_X1 : ∀ w ∈ u_ws RX1 TX1 14, w ∈ wsX1_wholeBy := fun w h => List.mem_cons_of_mem _ (am_inX1 w h)
  have hf_72 := ht 69 (.fieldLink RX1 72 "ApartCost$Product" "breaking" "I") rfl
  refine lv_aload_n hx hb dX1_wholeBy_0 rfl (lv_at hl 0 rfl) ?_
  refine lv_iload_n hx hb dX1_wholeBy_1 rfl (lv_at hl 1 rfl) ?_
  refine am_callRi (W.runV (As := [.int x]) (rest := []) ⟨hx, hb, hml, hown, hts⟩ (c_X1_freedBy l D ad cI cL fi fl ai al x na hna hnl) (cwV 1 hts (am_gV (am_in 320 rfl) (am_in 321 rfl) (am_in 322 rfl) (am_in 30 rfl) (am_in 323 rfl)) rfl rfl rfl (by decide +kernel) ⟨Nat.le_of_ble_eq_true rfl, Nat.le_of_ble_eq_true rfl⟩) (am_preVR 1 1 rfl rfl rfl hP hK hN) rfl rfl hl.1 rfl (lv_room (Nat.le_of_ble_eq_true rfl)) dX1_wholeBy_2 ⟨Nat.zero_le _, Nat.zero_le _⟩) ?_
  refine lv_aload_n hx hb dX1_wholeBy_5 rfl (lv_at hl 0 rfl) ?_
  refine lv_iload_n hx hb dX1_wholeBy_6 rfl (lv_at hl 1 rfl) ?_
  refine lv_aload_n hx hb dX1_wholeBy_7 rfl (lv_at hl 0 rfl) ?_
  refine va_get (D := D) (ci := 1) (v := .int (fi 1)) (C := RX1) (T := TX1) (N := 14) hx hb hts hin_X1 hown hK hP 1 rfl rfl 6 (by decide) hf_72 (fun _ h9 => h9) rfl dX1_wholeBy_8 ?_
  refine lv_iand hx hb dX1_wholeBy_11 ?_
  refine am_callRi (W.runV (As := [.int (x &&& (fi 1))]) (rest := [.int (ac_freed (ai 5) x na)]) ⟨hx, hb, hml, hown, hts⟩ (c_X1_freedBy l D ad cI cL fi fl ai al (x &&& (fi 1)) na hna hnl) (cwV 1 hts (am_gV (am_in 320 rfl) (am_in 321 rfl) (am_in 322 rfl) (am_in 30 rfl) (am_in 323 rfl)) rfl rfl rfl (by decide +kernel) ⟨Nat.le_of_ble_eq_true rfl, Nat.le_of_ble_eq_true rfl⟩) (am_preVR 1 1 rfl rfl rfl hP hK hN) rfl rfl hl.1 rfl (lv_room (Nat.le_of_ble_eq_true rfl)) dX1_wholeBy_12 ⟨Nat.zero_le _, Nat.zero_le _⟩) ?_
  refine lv_iconst (v := (-1)) hx hb dX1_wholeBy_15 (by decide) ?_
  refine lv_ixor hx hb dX1_wholeBy_16 ?_
  refine lv_iand hx hb dX1_wholeBy_17 ?_
  exact am_iretR hx hb hr hlocks (by first | rfl | (simp only [ac_whole, if_true, if_false, eq_self, not_true_eq_false, not_false_eq_true, ite_true, ite_false, ↓reduceIte]; done) | (simp [ac_whole]; done)) dX1_wholeBy_18

set_option maxHeartbeats 4000000 in
set_option maxRecDepth 100000 in
theorem c_X1_centsOfStep (l : Launch) (D : va_G) (ad : Nat → Nat) (cI cL : ClassId) (fi : Nat → Int32) (fl : Nat → Int64) (ai : Nat → Nat → Int32) (al : Nat → Nat → Int64) (j : Nat) (b : Nat) (na : Nat) (hna : fi 0 = nI na) (hnl : na ≤ 10) (hto : ∀ a, a < na → ∃ t, t < 6 ∧ (ai 6) a = nI t) (hsi : ∀ a, a < na → ∃ t, t < 6 ∧ (ai 7) a = nI t) (hj : j ≤ na) (hb2 : b < na) : Met l yX1_centsOfStep wsX1_centsOfStep (am_rm 0 0) (va_Pc [.ref (ad 1), .int (ac_la j), .int (nI b)] (am_R nwL vwCl D (ac_w ad cI cL fi fl ai al) [(cI, .int), (cL, .long)])) (vp_Sl (fun r => r = ac_cents (ai 6) (ai 7) (al 8) (al 10) (al 11) j b)) 0 0 am_No := by
  refine am_startR (cc := cX1_centsOfStep) (maxL := 7) (ret := (some .long)) (by decide) rfl (Nat.le_of_ble_eq_true rfl) [(0, .ref (ad 1)), (1, .int (ac_la j)), (2, .int (nI b))] rfl ?_
  intro p e s m below meth c ls hx hb hr hml hown hts hlocks hP hK hN hl
  have hown : s.vm.findClass RX1 = some m.cls := hown
  have ht := am_ht hts
  have hin_X1 : ∀ w ∈ u_ws RX1 TX1 14, w ∈ wsX1_centsOfStep := fun w h => List.mem_cons_of_mem _ (am_inX1 w h)
  have hf_15 := ht 61 (.fieldLink RX1 15 "ApartCost$Product" "tools" "[I") rfl
  have hf_18 := ht 62 (.fieldLink RX1 18 "ApartCost$Product" "sides" "[I") rfl
  have hf_21 := ht 63 (.fieldLink RX1 21 "ApartCost$Product" "cents" "[J") rfl
  have hf_28 := ht 70 (.fieldLink RX1 28 "ApartCost$Product" "changes" "[J") rfl
  have hf_31 := ht 72 (.fieldLink RX1 31 "ApartCost$Product" "turns" "[J") rfl
  refine lv_iload_n hx hb dX1_centsOfStep_0 rfl (lv_at hl 1 rfl) ?_
  refine lv_iconst (v := (-1)) hx hb dX1_centsOfStep_1 (by decide) ?_
  refine lv_icmp_ne (tgt := 12) hx hb dX1_centsOfStep_2 (by decide) (fun c_2 => ?_) (fun c_2 => ?_)
  · skip
    obtain ⟨a, rfl⟩ : ∃ z, j = z + 1 := by cases j with | zero => exact absurd rfl c_2 | succ z => exact ⟨z, rfl⟩
    have hl : lv_has ls 7 [(0, .ref (ad 1)), (1, .int (nI a)), (2, .int (nI b))] := hl
    refine lv_aload_n hx hb dX1_centsOfStep_12 rfl (lv_at hl 0 rfl) ?_
    refine va_get (D := D) (ci := 1) (v := .ref (ad 10)) (C := RX1) (T := TX1) (N := 14) hx hb hts hin_X1 hown hK hP 1 rfl rfl 7 (by decide) hf_28 (fun _ h9 => h9) rfl dX1_centsOfStep_13 ?_
    refine lv_aload_n hx hb dX1_centsOfStep_16 rfl (lv_at hl 0 rfl) ?_
    refine va_get (D := D) (ci := 1) (v := .ref (ad 6)) (C := RX1) (T := TX1) (N := 14) hx hb hts hin_X1 hown hK hP 1 rfl rfl 2 (by decide) hf_15 (fun _ h9 => h9) rfl dX1_centsOfStep_17 ?_
    refine lv_iload_n hx hb dX1_centsOfStep_20 rfl (lv_at hl 1 rfl) ?_
    refine am_iald hx hb hK hP 6 0 rfl rfl a rfl (by omega) (by decide) dX1_centsOfStep_21 ?_
    refine lv_bipush (v := 6) hx hb dX1_centsOfStep_22 (by decide) ?_
    refine lv_imul hx hb dX1_centsOfStep_24 ?_
    refine lv_aload_n hx hb dX1_centsOfStep_25 rfl (lv_at hl 0 rfl) ?_
    refine va_get (D := D) (ci := 1) (v := .ref (ad 6)) (C := RX1) (T := TX1) (N := 14) hx hb hts hin_X1 hown hK hP 1 rfl rfl 2 (by decide) hf_15 (fun _ h9 => h9) rfl dX1_centsOfStep_26 ?_
    refine lv_iload_n hx hb dX1_centsOfStep_29 rfl (lv_at hl 2 rfl) ?_
    refine am_iald hx hb hK hP 6 0 rfl rfl b rfl (by omega) (by decide) dX1_centsOfStep_30 ?_
    refine lv_iadd hx hb dX1_centsOfStep_31 ?_
    refine am_lald hx hb hK hP 10 1 rfl rfl (((ai 6) a * 6 + (ai 6) b).toNatClampNeg) (am_ix6 (hto a (by omega)) (hto b (by omega))).1 (am_ix6 (hto a (by omega)) (hto b (by omega))).2 (by decide) dX1_centsOfStep_32 ?_
    refine lv_lstore_n (lv' := [(3, .long ((al 10) (((ai 6) a * 6 + (ai 6) b).toNatClampNeg))), (0, .ref (ad 1)), (1, .int (nI a)), (2, .int (nI b))]) hx hb dX1_centsOfStep_33 rfl hl (by decide) rfl (fun ls hl => ?_)
    refine lv_aload_n hx hb dX1_centsOfStep_34 rfl (lv_at hl 1 rfl) ?_
    refine va_get (D := D) (ci := 1) (v := .ref (ad 11)) (C := RX1) (T := TX1) (N := 14) hx hb hts hin_X1 hown hK hP 1 rfl rfl 8 (by decide) hf_31 (fun _ h9 => h9) rfl dX1_centsOfStep_35 ?_
    refine lv_aload_n hx hb dX1_centsOfStep_38 rfl (lv_at hl 1 rfl) ?_
    refine va_get (D := D) (ci := 1) (v := .ref (ad 7)) (C := RX1) (T := TX1) (N := 14) hx hb hts hin_X1 hown hK hP 1 rfl rfl 3 (by decide) hf_18 (fun _ h9 => h9) rfl dX1_centsOfStep_39 ?_
    refine lv_iload_n hx hb dX1_centsOfStep_42 rfl (lv_at hl 2 rfl) ?_
    refine am_iald hx hb hK hP 7 0 rfl rfl a rfl (by omega) (by decide) dX1_centsOfStep_43 ?_
    refine lv_bipush (v := 6) hx hb dX1_centsOfStep_44 (by decide) ?_
    refine lv_imul hx hb dX1_centsOfStep_46 ?_
    refine lv_aload_n hx hb dX1_centsOfStep_47 rfl (lv_at hl 1 rfl) ?_
    refine va_get (D := D) (ci := 1) (v := .ref (ad 7)) (C := RX1) (T := TX1) (N := 14) hx hb hts hin_X1 hown hK hP 1 rfl rfl 3 (by decide) hf_18 (fun _ h9 => h9) rfl dX1_centsOfStep_48 ?_
    refine lv_iload_n hx hb dX1_centsOfStep_51 rfl (lv_at hl 3 rfl) ?_
    refine am_iald hx hb hK hP 7 0 rfl rfl b rfl (by omega) (by decide) dX1_centsOfStep_52 ?_
    refine lv_iadd hx hb dX1_centsOfStep_53 ?_
    refine am_lald hx hb hK hP 11 1 rfl rfl (((ai 7) a * 6 + (ai 7) b).toNatClampNeg) (am_ix6 (hsi a (by omega)) (hsi b (by omega))).1 (am_ix6 (hsi a (by omega)) (hsi b (by omega))).2 (by decide) dX1_centsOfStep_54 ?_
    refine lv_lstore (lv' := [(5, .long ((al 11) (((ai 7) a * 6 + (ai 7) b).toNatClampNeg))), (3, .long ((al 10) (((ai 6) a * 6 + (ai 6) b).toNatClampNeg))), (0, .ref (ad 1)), (1, .int (nI a)), (2, .int (nI b))]) hx hb dX1_centsOfStep_55 hl (by decide) rfl (fun ls hl => ?_)
    refine lv_aload_n hx hb dX1_centsOfStep_57 rfl (lv_at hl 2 rfl) ?_
    refine va_get (D := D) (ci := 1) (v := .ref (ad 8)) (C := RX1) (T := TX1) (N := 14) hx hb hts hin_X1 hown hK hP 1 rfl rfl 4 (by decide) hf_21 (fun _ h9 => h9) rfl dX1_centsOfStep_58 ?_
    refine lv_iload_n hx hb dX1_centsOfStep_61 rfl (lv_at hl 4 rfl) ?_
    refine am_lald hx hb hK hP 8 1 rfl rfl b rfl (by omega) (by decide) dX1_centsOfStep_62 ?_
    refine lv_lload_n hx hb dX1_centsOfStep_63 rfl (lv_at hl 1 rfl) ?_
    refine lv_ladd hx hb dX1_centsOfStep_64 ?_
    refine lv_lload hx hb dX1_centsOfStep_65 (lv_at hl 0 rfl) ?_
    refine lv_ladd hx hb dX1_centsOfStep_67 ?_
    exact am_lretR hx hb hr hlocks (by first | rfl | (simp only [c_2, if_true, if_false, eq_self, not_true_eq_false, not_false_eq_true, ite_true, ite_false, ↓reduceIte]; done) | (simp [c_2]; done)) dX1_centsOfStep_68
  · skip
    obtain rfl : j = 0 := by cases j with | zero => rfl | succ z => exact absurd c_2 (ac_la_ne z (by omega))
    have hl : lv_has ls 7 [(0, .ref (ad 1)), (1, .int (-1)), (2, .int (nI b))] := hl
    refine lv_aload_n hx hb dX1_centsOfStep_5 rfl (lv_at hl 0 rfl) ?_
    refine va_get (D := D) (ci := 1) (v := .ref (ad 8)) (C := RX1) (T := TX1) (N := 14) hx hb hts hin_X1 hown hK hP 1 rfl rfl 4 (by decide) hf_21 (fun _ h9 => h9) rfl dX1_centsOfStep_6 ?_
    refine lv_iload_n hx hb dX1_centsOfStep_9 rfl (lv_at hl 2 rfl) ?_
    refine am_lald hx hb hK hP 8 1 rfl rfl b rfl (by omega) (by decide) dX1_centsOfStep_10 ?_
    exact am_lretR hx hb hr hlocks (by first | rfl | (simp only [c_2, if_true, if_false, eq_self, not_true_eq_false, not_false_eq_true, ite_true, ite_false, ↓reduceIte]; done) | (simp [c_2]; done)) dX1_centsOfStep_11

set_option maxHeartbeats 4000000 in
set_option maxRecDepth 100000 in
theorem c_X1_neededBy (l : Launch) (D : va_G) (ad : Nat → Nat) (cI cL : ClassId) (fi : Nat → Int32) (fl : Nat → Int64) (ai : Nat → Nat → Int32) (al : Nat → Nat → Int64) (x : Int32) (na : Nat) (hna : fi 0 = nI na) (hnl : na ≤ 10) : Met l yX1_neededBy wsX1_neededBy (am_rm 1 21) (va_Pc [.ref (ad 1), .int x] (am_R nwL vwCl D (ac_w ad cI cL fi fl ai al) [(cI, .int), (cL, .long)])) (vp_Si (fun r => r = ac_needed (ai 9) x na)) 0 0 am_No := by
  refine am_startR (cc := cX1_neededBy) (maxL := 4) (ret := (some .int)) (by decide) rfl (Nat.le_of_ble_eq_true rfl) [(0, .ref (ad 1)), (1, .int x)] rfl ?_
  intro p e s m below meth c ls hx hb hr hml hown hts hlocks hP hK hN hl
  have hown : s.vm.findClass RX1 = some m.cls := hown
  have ht := am_ht hts
  have hin_X1 : ∀ w ∈ u_ws RX1 TX1 14, w ∈ wsX1_neededBy := fun w h => List.mem_cons_of_mem _ (am_inX1 w h)
  have hf_25 := ht 65 (.fieldLink RX1 25 "ApartCost$Product" "needs" "[I") rfl
  have hf_54 := ht 56 (.fieldLink RX1 54 "ApartCost$Product" "acts" "I") rfl
  refine lv_iconst (v := 0) hx hb dX1_neededBy_0 (by decide) ?_
  refine lv_istore_n (lv' := [(2, .int 0), (0, .ref (ad 1)), (1, .int x)]) hx hb dX1_neededBy_1 rfl hl (by decide) rfl (fun ls hl => ?_)
  refine lv_iconst (v := 0) hx hb dX1_neededBy_2 (by decide) ?_
  refine lv_istore_n (lv' := [(3, .int 0), (2, .int 0), (0, .ref (ad 1)), (1, .int x)]) hx hb dX1_neededBy_3 rfl hl (by decide) rfl (fun ls hl => ?_)
  refine am_loopR (σ := Nat) (fun q n9 ls => n9 = na - q ∧ q ≤ na ∧ lv_has ls 4 [(0, .ref (ad 1)), (1, .int x), (2, .int (ac_needed (ai 9) x q)), (3, .int (nI q))]) ?_ 0 (na - 0) ls ⟨rfl, (by omega), lv_sub hl [2, 3, 1, 0] rfl⟩
  rintro k n9 ls ⟨hn_4, hk, hl⟩ ih_4
  refine lv_iload_n hx hb dX1_neededBy_4 rfl (lv_at hl 3 rfl) ?_
  refine lv_aload_n hx hb dX1_neededBy_5 rfl (lv_at hl 0 rfl) ?_
  refine va_get (D := D) (ci := 1) (v := .int (fi 0)) (C := RX1) (T := TX1) (N := 14) hx hb hts hin_X1 hown hK hP 1 rfl rfl 0 (by decide) hf_54 (fun _ h9 => h9) rfl dX1_neededBy_6 ?_
  refine lv_icmp_ge (tgt := 35) hx hb dX1_neededBy_9 (by decide) (fun c_9 => ?_) (fun c_9 => ?_)
  · skip
    have hke_9 : na ≤ k := (am_ge hna (by omega) (by omega)).mp c_9
    have hkq_9 : na = k := by omega
    subst hkq_9
    refine lv_iload_n hx hb dX1_neededBy_35 rfl (lv_at hl 2 rfl) ?_
    exact am_iretR hx hb hr hlocks (by first | rfl | (simp only [c_9, if_true, if_false, eq_self, not_true_eq_false, not_false_eq_true, ite_true, ite_false, ↓reduceIte]; done) | (simp [c_9]; done)) dX1_neededBy_36
  · skip
    have hkl_9 : k < na := Nat.lt_of_not_le (fun z => c_9 ((am_ge hna (by omega) (by omega)).mpr z))
    refine lv_iload_n hx hb dX1_neededBy_12 rfl (lv_at hl 1 rfl) ?_
    refine lv_iload_n hx hb dX1_neededBy_13 rfl (lv_at hl 3 rfl) ?_
    refine am_callRi (va_Run.run (va_runSN (As := [.int x, .int (nI k)]) (rest := []) ⟨hx, hb, hml, hown, hts⟩ (c_X0_has l D _ _ x (nI k)) ⟨va_cnB 2 hts (am_gN (am_in 206 rfl)) rfl rfl rfl (am_nw_at hN 1 rfl) (ht 29 _ rfl) (by decide +kernel) ⟨Nat.le_of_ble_eq_true rfl, Nat.le_of_ble_eq_true rfl⟩, (ht 205 _ rfl), trivial⟩ (am_preSR hP hK hN) rfl rfl hl.1 rfl (lv_room (Nat.le_of_ble_eq_true rfl)) dX1_neededBy_14 ⟨Nat.zero_le _, Nat.zero_le _⟩)) ?_
    refine lv_if_eq (tgt := 29) hx hb dX1_neededBy_17 (by decide) (fun c_17 => ?_) (fun c_17 => ?_)
    · skip
      refine lv_iinc (v := nI (k + 1)) (lv' := [(3, .int (nI (k + 1))), (0, .ref (ad 1)), (1, .int x), (2, .int (ac_needed (ai 9) x k))]) hx hb dX1_neededBy_29 hl (k := 3) rfl (nI_1 k) (by decide) rfl (fun ls hl => ?_)
      refine lv_goto (tgt := 4) hx hb dX1_neededBy_32 (by decide) ?_
      have e_4_0 : ac_needed (ai 9) x (k + 1) = ac_needed (ai 9) x k := by first | rfl | (simp only [ac_needed, c_9, c_17, if_true, if_false, eq_self, not_true_eq_false, not_false_eq_true, ite_true, ite_false, ↓reduceIte]; done) | (simp [ac_needed, c_9, c_17]; done)
      refine ih_4 (k + 1) (na - (k + 1)) ls (by omega) ⟨rfl, (by omega), ?_⟩
      try dsimp only
      rw [e_4_0]
      exact lv_sub hl [1, 2, 3, 0] rfl
    · skip
      refine lv_iload_n hx hb dX1_neededBy_20 rfl (lv_at hl 2 rfl) ?_
      refine lv_aload_n hx hb dX1_neededBy_21 rfl (lv_at hl 0 rfl) ?_
      refine va_get (D := D) (ci := 1) (v := .ref (ad 9)) (C := RX1) (T := TX1) (N := 14) hx hb hts hin_X1 hown hK hP 1 rfl rfl 5 (by decide) hf_25 (fun _ h9 => h9) rfl dX1_neededBy_22 ?_
      refine lv_iload_n hx hb dX1_neededBy_25 rfl (lv_at hl 3 rfl) ?_
      refine am_iald hx hb hK hP 9 0 rfl rfl k rfl (by omega) (by decide) dX1_neededBy_26 ?_
      refine lv_ior hx hb dX1_neededBy_27 ?_
      refine lv_istore_n (lv' := [(2, .int ((ac_needed (ai 9) x k) ||| ((ai 9) k))), (0, .ref (ad 1)), (1, .int x), (3, .int (nI k))]) hx hb dX1_neededBy_28 rfl hl (by decide) rfl (fun ls hl => ?_)
      refine lv_iinc (v := nI (k + 1)) (lv' := [(3, .int (nI (k + 1))), (2, .int ((ac_needed (ai 9) x k) ||| ((ai 9) k))), (0, .ref (ad 1)), (1, .int x)]) hx hb dX1_neededBy_29 hl (k := 3) rfl (nI_1 k) (by decide) rfl (fun ls hl => ?_)
      refine lv_goto (tgt := 4) hx hb dX1_neededBy_32 (by decide) ?_
      have e_4_0 : ac_needed (ai 9) x (k + 1) = (ac_needed (ai 9) x k) ||| ((ai 9) k) := by first | rfl | (simp only [ac_needed, c_9, c_17, if_true, if_false, eq_self, not_true_eq_false, not_false_eq_true, ite_true, ite_false, ↓reduceIte]; done) | (simp [ac_needed, c_9, c_17]; done)
      refine ih_4 (k + 1) (na - (k + 1)) ls (by omega) ⟨rfl, (by omega), ?_⟩
      try dsimp only
      rw [e_4_0]
      exact lv_sub hl [2, 3, 1, 0] rfl

set_option maxHeartbeats 4000000 in
set_option maxRecDepth 100000 in
theorem c_X1_lastsOf (l : Launch) (D : va_G) (ad : Nat → Nat) (cI cL : ClassId) (fi : Nat → Int32) (fl : Nat → Int64) (ai : Nat → Nat → Int32) (al : Nat → Nat → Int64) (x : Int32) (na : Nat) (hna : fi 0 = nI na) (hnl : na ≤ 10) : Met l yX1_lastsOf wsX1_lastsOf (am_rm 2 44) (va_Pc [.ref (ad 1), .int x] (am_R nwL vwCl D (ac_w ad cI cL fi fl ai al) [(cI, .int), (cL, .long)])) (vp_Si (fun r => r = ac_lasts (ai 9) na x)) 0 0 am_No := by
  refine am_startR (cc := cX1_lastsOf) (maxL := 3) (ret := (some .int)) (by decide) rfl (Nat.le_of_ble_eq_true rfl) [(0, .ref (ad 1)), (1, .int x)] rfl ?_
  intro p e s m below meth c ls hx hb hr hml hown hts hlocks hP hK hN hl
  have hown : s.vm.findClass RX1 = some m.cls := hown
  have ht := am_ht hts
  refine lv_aload_n hx hb dX1_lastsOf_0 rfl (lv_at hl 0 rfl) ?_
  refine lv_iload_n hx hb dX1_lastsOf_1 rfl (lv_at hl 1 rfl) ?_
  refine am_callRi (W.runV (As := [.int x]) (rest := []) ⟨hx, hb, hml, hown, hts⟩ (c_X1_neededBy l D ad cI cL fi fl ai al x na hna hnl) (cwV 1 hts (am_gV (am_in 268 rfl) (am_in 269 rfl) (am_in 1 rfl) (am_in 30 rfl) (am_in 270 rfl)) rfl rfl rfl (by decide +kernel) ⟨Nat.le_of_ble_eq_true rfl, Nat.le_of_ble_eq_true rfl⟩) (am_preVR 1 1 rfl rfl rfl hP hK hN) rfl rfl hl.1 rfl (lv_room (Nat.le_of_ble_eq_true rfl)) dX1_lastsOf_2 ⟨Nat.zero_le _, Nat.zero_le _⟩) ?_
  refine lv_istore_n (lv' := [(2, .int (ac_needed (ai 9) x na)), (0, .ref (ad 1)), (1, .int x)]) hx hb dX1_lastsOf_5 rfl hl (by decide) rfl (fun ls hl => ?_)
  refine lv_iload_n hx hb dX1_lastsOf_6 rfl (lv_at hl 0 rfl) ?_
  refine lv_iload_n hx hb dX1_lastsOf_7 rfl (lv_at hl 2 rfl) ?_
  refine lv_iconst (v := (-1)) hx hb dX1_lastsOf_8 (by decide) ?_
  refine lv_ixor hx hb dX1_lastsOf_9 ?_
  refine lv_iand hx hb dX1_lastsOf_10 ?_
  refine lv_if_ne (tgt := 22) hx hb dX1_lastsOf_11 (by decide) (fun c_11 => ?_) (fun c_11 => ?_)
  · skip
    refine lv_iconst (v := 0) hx hb dX1_lastsOf_22 (by decide) ?_
    exact am_iretR hx hb hr hlocks (by first | rfl | (simp only [ac_lasts, c_11, if_true, if_false, eq_self, not_true_eq_false, not_false_eq_true, ite_true, ite_false, ↓reduceIte]; done) | (simp [ac_lasts, c_11]; done)) dX1_lastsOf_23
  · skip
    refine lv_iload_n hx hb dX1_lastsOf_14 rfl (lv_at hl 2 rfl) ?_
    refine lv_iload_n hx hb dX1_lastsOf_15 rfl (lv_at hl 0 rfl) ?_
    refine lv_iconst (v := (-1)) hx hb dX1_lastsOf_16 (by decide) ?_
    refine lv_ixor hx hb dX1_lastsOf_17 ?_
    refine lv_iand hx hb dX1_lastsOf_18 ?_
    refine lv_goto (tgt := 23) hx hb dX1_lastsOf_19 (by decide) ?_
    exact am_iretR hx hb hr hlocks (by first | rfl | (simp only [ac_lasts, c_11, if_true, if_false, eq_self, not_true_eq_false, not_false_eq_true, ite_true, ite_false, ↓reduceIte]; done) | (simp [ac_lasts, c_11]; done)) dX1_lastsOf_23

set_option maxHeartbeats 4000000 in
set_option maxRecDepth 100000 in
theorem c_X1_nextsOf (l : Launch) (D : va_G) (ad : Nat → Nat) (cI cL : ClassId) (fi : Nat → Int32) (fl : Nat → Int64) (ai : Nat → Nat → Int32) (al : Nat → Nat → Int64) (x : Int32) (na : Nat) (hna : fi 0 = nI na) (hnl : na ≤ 10) : Met l yX1_nextsOf wsX1_nextsOf (am_rm 1 21) (va_Pc [.ref (ad 1), .int x] (am_R nwL vwCl D (ac_w ad cI cL fi fl ai al) [(cI, .int), (cL, .long)])) (vp_Si (fun r => r = ac_nexts (ai 9) x na)) 0 0 am_No := by
  refine am_startR (cc := cX1_nextsOf) (maxL := 4) (ret := (some .int)) (by decide) rfl (Nat.le_of_ble_eq_true rfl) [(0, .ref (ad 1)), (1, .int x)] rfl ?_
  intro p e s m below meth c ls hx hb hr hml hown hts hlocks hP hK hN hl
  have hown : s.vm.findClass RX1 = some m.cls := hown
  have ht := am_ht hts
  have hin_X1 : ∀ w ∈ u_ws RX1 TX1 14, w ∈ wsX1_nextsOf := fun w h => List.mem_cons_of_mem _ (am_inX1 w h)
  have hf_25 := ht 65 (.fieldLink RX1 25 "ApartCost$Product" "needs" "[I") rfl
  have hf_54 := ht 56 (.fieldLink RX1 54 "ApartCost$Product" "acts" "I") rfl
  refine lv_iconst (v := 0) hx hb dX1_nextsOf_0 (by decide) ?_
  refine lv_istore_n (lv' := [(2, .int 0), (0, .ref (ad 1)), (1, .int x)]) hx hb dX1_nextsOf_1 rfl hl (by decide) rfl (fun ls hl => ?_)
  refine lv_iconst (v := 0) hx hb dX1_nextsOf_2 (by decide) ?_
  refine lv_istore_n (lv' := [(3, .int 0), (2, .int 0), (0, .ref (ad 1)), (1, .int x)]) hx hb dX1_nextsOf_3 rfl hl (by decide) rfl (fun ls hl => ?_)
  refine am_loopR (σ := Nat) (fun q n9 ls => n9 = na - q ∧ q ≤ na ∧ lv_has ls 4 [(0, .ref (ad 1)), (1, .int x), (2, .int (ac_nexts (ai 9) x q)), (3, .int (nI q))]) ?_ 0 (na - 0) ls ⟨rfl, (by omega), lv_sub hl [2, 3, 1, 0] rfl⟩
  rintro k n9 ls ⟨hn_4, hk, hl⟩ ih_4
  refine lv_iload_n hx hb dX1_nextsOf_4 rfl (lv_at hl 3 rfl) ?_
  refine lv_aload_n hx hb dX1_nextsOf_5 rfl (lv_at hl 0 rfl) ?_
  refine va_get (D := D) (ci := 1) (v := .int (fi 0)) (C := RX1) (T := TX1) (N := 14) hx hb hts hin_X1 hown hK hP 1 rfl rfl 0 (by decide) hf_54 (fun _ h9 => h9) rfl dX1_nextsOf_6 ?_
  refine lv_icmp_ge (tgt := 45) hx hb dX1_nextsOf_9 (by decide) (fun c_9 => ?_) (fun c_9 => ?_)
  · skip
    have hke_9 : na ≤ k := (am_ge hna (by omega) (by omega)).mp c_9
    have hkq_9 : na = k := by omega
    subst hkq_9
    refine lv_iload_n hx hb dX1_nextsOf_45 rfl (lv_at hl 2 rfl) ?_
    exact am_iretR hx hb hr hlocks (by first | rfl | (simp only [c_9, if_true, if_false, eq_self, not_true_eq_false, not_false_eq_true, ite_true, ite_false, ↓reduceIte]; done) | (simp [c_9]; done)) dX1_nextsOf_46
  · skip
    have hkl_9 : k < na := Nat.lt_of_not_le (fun z => c_9 ((am_ge hna (by omega) (by omega)).mpr z))
    refine lv_iload_n hx hb dX1_nextsOf_12 rfl (lv_at hl 1 rfl) ?_
    refine lv_iload_n hx hb dX1_nextsOf_13 rfl (lv_at hl 3 rfl) ?_
    refine am_callRi (va_Run.run (va_runSN (As := [.int x, .int (nI k)]) (rest := []) ⟨hx, hb, hml, hown, hts⟩ (c_X0_has l D _ _ x (nI k)) ⟨va_cnB 2 hts (am_gN (am_in 206 rfl)) rfl rfl rfl (am_nw_at hN 1 rfl) (ht 29 _ rfl) (by decide +kernel) ⟨Nat.le_of_ble_eq_true rfl, Nat.le_of_ble_eq_true rfl⟩, (ht 205 _ rfl), trivial⟩ (am_preSR hP hK hN) rfl rfl hl.1 rfl (lv_room (Nat.le_of_ble_eq_true rfl)) dX1_nextsOf_14 ⟨Nat.zero_le _, Nat.zero_le _⟩)) ?_
    refine lv_if_ne (tgt := 39) hx hb dX1_nextsOf_17 (by decide) (fun c_17 => ?_) (fun c_17 => ?_)
    · skip
      refine lv_iinc (v := nI (k + 1)) (lv' := [(3, .int (nI (k + 1))), (0, .ref (ad 1)), (1, .int x), (2, .int (ac_nexts (ai 9) x k))]) hx hb dX1_nextsOf_39 hl (k := 3) rfl (nI_1 k) (by decide) rfl (fun ls hl => ?_)
      refine lv_goto (tgt := 4) hx hb dX1_nextsOf_42 (by decide) ?_
      have e_4_0 : ac_nexts (ai 9) x (k + 1) = ac_nexts (ai 9) x k := by first | rfl | (simp only [ac_nexts, c_9, c_17, if_true, if_false, eq_self, not_true_eq_false, not_false_eq_true, ite_true, ite_false, ↓reduceIte]; done) | (simp [ac_nexts, c_9, c_17]; done)
      refine ih_4 (k + 1) (na - (k + 1)) ls (by omega) ⟨rfl, (by omega), ?_⟩
      try dsimp only
      rw [e_4_0]
      exact lv_sub hl [1, 2, 3, 0] rfl
    · skip
      refine lv_aload_n hx hb dX1_nextsOf_20 rfl (lv_at hl 0 rfl) ?_
      refine va_get (D := D) (ci := 1) (v := .ref (ad 9)) (C := RX1) (T := TX1) (N := 14) hx hb hts hin_X1 hown hK hP 1 rfl rfl 5 (by decide) hf_25 (fun _ h9 => h9) rfl dX1_nextsOf_21 ?_
      refine lv_iload_n hx hb dX1_nextsOf_24 rfl (lv_at hl 3 rfl) ?_
      refine am_iald hx hb hK hP 9 0 rfl rfl k rfl (by omega) (by decide) dX1_nextsOf_25 ?_
      refine lv_iload_n hx hb dX1_nextsOf_26 rfl (lv_at hl 1 rfl) ?_
      refine lv_iconst (v := (-1)) hx hb dX1_nextsOf_27 (by decide) ?_
      refine lv_ixor hx hb dX1_nextsOf_28 ?_
      refine lv_iand hx hb dX1_nextsOf_29 ?_
      refine lv_if_ne (tgt := 39) hx hb dX1_nextsOf_30 (by decide) (fun c_30 => ?_) (fun c_30 => ?_)
      · skip
        refine lv_iinc (v := nI (k + 1)) (lv' := [(3, .int (nI (k + 1))), (0, .ref (ad 1)), (1, .int x), (2, .int (ac_nexts (ai 9) x k))]) hx hb dX1_nextsOf_39 hl (k := 3) rfl (nI_1 k) (by decide) rfl (fun ls hl => ?_)
        refine lv_goto (tgt := 4) hx hb dX1_nextsOf_42 (by decide) ?_
        have e_4_0 : ac_nexts (ai 9) x (k + 1) = ac_nexts (ai 9) x k := by first | rfl | (simp only [ac_nexts, c_9, c_17, c_30, if_true, if_false, eq_self, not_true_eq_false, not_false_eq_true, ite_true, ite_false, ↓reduceIte]; done) | (simp [ac_nexts, c_9, c_17, c_30]; done)
        refine ih_4 (k + 1) (na - (k + 1)) ls (by omega) ⟨rfl, (by omega), ?_⟩
        try dsimp only
        rw [e_4_0]
        exact lv_sub hl [1, 2, 3, 0] rfl
      · skip
        refine lv_iload_n hx hb dX1_nextsOf_33 rfl (lv_at hl 2 rfl) ?_
        refine lv_iconst (v := 1) hx hb dX1_nextsOf_34 (by decide) ?_
        refine lv_iload_n hx hb dX1_nextsOf_35 rfl (lv_at hl 3 rfl) ?_
        refine lv_ishl hx hb dX1_nextsOf_36 ?_
        refine lv_ior hx hb dX1_nextsOf_37 ?_
        refine lv_istore_n (lv' := [(2, .int ((ac_nexts (ai 9) x k) ||| ((1 : Int32) <<< ((nI k) &&& 31)))), (0, .ref (ad 1)), (1, .int x), (3, .int (nI k))]) hx hb dX1_nextsOf_38 rfl hl (by decide) rfl (fun ls hl => ?_)
        refine lv_iinc (v := nI (k + 1)) (lv' := [(3, .int (nI (k + 1))), (2, .int ((ac_nexts (ai 9) x k) ||| ((1 : Int32) <<< ((nI k) &&& 31)))), (0, .ref (ad 1)), (1, .int x)]) hx hb dX1_nextsOf_39 hl (k := 3) rfl (nI_1 k) (by decide) rfl (fun ls hl => ?_)
        refine lv_goto (tgt := 4) hx hb dX1_nextsOf_42 (by decide) ?_
        have e_4_0 : ac_nexts (ai 9) x (k + 1) = (ac_nexts (ai 9) x k) ||| ((1 : Int32) <<< ((nI k) &&& 31)) := by first | rfl | (simp only [ac_nexts, c_9, c_17, c_30, if_true, if_false, eq_self, not_true_eq_false, not_false_eq_true, ite_true, ite_false, ↓reduceIte]; done) | (simp [ac_nexts, c_9, c_17, c_30]; done)
        refine ih_4 (k + 1) (na - (k + 1)) ls (by omega) ⟨rfl, (by omega), ?_⟩
        try dsimp only
        rw [e_4_0]
        exact lv_sub hl [2, 3, 1, 0] rfl

set_option maxHeartbeats 4000000 in
set_option maxRecDepth 100000 in
theorem c_X1_countStates (l : Launch) (D : va_G) (ad : Nat → Nat) (cI cL : ClassId) (fi : Nat → Int32) (fl : Nat → Int64) (ai : Nat → Nat → Int32) (al : Nat → Nat → Int64) (na : Nat) (hna : fi 0 = nI na) (hnl : na ≤ 10) : Met l yX1_countStates wsX1_countStates (am_rm 3 66) (va_Pc [.ref (ad 1)] (am_R nwL vwCl D (ac_w ad cI cL fi fl ai al) [(cI, .int), (cL, .long)])) (vp_Sl (fun r => r = ac_count (ai 9) na (2 ^ na - 1))) 0 0 am_No := by
  refine am_startR (cc := cX1_countStates) (maxL := 4) (ret := (some .long)) (by decide) rfl (Nat.le_of_ble_eq_true rfl) [(0, .ref (ad 1))] rfl ?_
  intro p e s m below meth c ls hx hb hr hml hown hts hlocks hP hK hN hl
  have hown : s.vm.findClass RX1 = some m.cls := hown
  have ht := am_ht hts
  have hp2 := am_p2 hnl
  refine lv_lconst (v := 1) hx hb dX1_countStates_0 (by decide) ?_
  refine lv_lstore_n (lv' := [(1, .long 1), (0, .ref (ad 1))]) hx hb dX1_countStates_1 rfl hl (by decide) rfl (fun ls hl => ?_)
  refine lv_iconst (v := 1) hx hb dX1_countStates_2 (by decide) ?_
  refine lv_istore_n (lv' := [(3, .int 1), (1, .long 1), (0, .ref (ad 1))]) hx hb dX1_countStates_3 rfl hl (by decide) rfl (fun ls hl => ?_)
  refine am_loopR (σ := Nat) (fun q n9 ls => n9 = 2 ^ na - 1 - q ∧ q ≤ 2 ^ na - 1 ∧ lv_has ls 4 [(0, .ref (ad 1)), (1, .long (ac_count (ai 9) na q)), (3, .int (nI (q + 1)))]) ?_ 0 (2 ^ na - 1 - 0) ls ⟨rfl, (by omega), lv_sub hl [2, 1, 0] rfl⟩
  rintro k n9 ls ⟨hn_4, hk, hl⟩ ih_4
  refine lv_iload_n hx hb dX1_countStates_4 rfl (lv_at hl 2 rfl) ?_
  refine lv_aload_n hx hb dX1_countStates_5 rfl (lv_at hl 0 rfl) ?_
  refine am_callRi (W.runV (As := []) (rest := [.int (nI (k + 1))]) ⟨hx, hb, hml, hown, hts⟩ (c_X1_allActs l D ad cI cL fi fl ai al) (cwV 0 hts (am_gV (am_in 260 rfl) (am_in 261 rfl) (am_in 262 rfl) (am_in 30 rfl) (am_in 263 rfl)) rfl rfl rfl (by decide +kernel) ⟨Nat.le_of_ble_eq_true rfl, Nat.le_of_ble_eq_true rfl⟩) (am_preVR 1 1 rfl rfl rfl hP hK hN) rfl rfl hl.1 rfl (lv_room (Nat.le_of_ble_eq_true rfl)) dX1_countStates_6 ⟨Nat.zero_le _, Nat.zero_le _⟩) ?_
  refine am_topi (am_all hna hnl) ?_
  refine lv_icmp_gt (tgt := 30) hx hb dX1_countStates_9 (by decide) (fun c_9 => ?_) (fun c_9 => ?_)
  · skip
    have hkq : 2 ^ na - 1 = k := by have := (am_gt (rfl : nI (2 ^ na - 1) = nI (2 ^ na - 1)) (by omega) (by omega)).mp c_9; omega
    subst hkq
    refine lv_lload_n hx hb dX1_countStates_30 rfl (lv_at hl 1 rfl) ?_
    exact am_lretR hx hb hr hlocks (by first | rfl | (simp only [c_9, if_true, if_false, eq_self, not_true_eq_false, not_false_eq_true, ite_true, ite_false, ↓reduceIte]; done) | (simp [c_9]; done)) dX1_countStates_31
  · skip
    have hkl : k + 1 ≤ 2 ^ na - 1 := Nat.le_of_not_lt (fun z => c_9 ((am_gt (rfl : nI (2 ^ na - 1) = nI (2 ^ na - 1)) (by omega) (by omega)).mpr z))
    refine lv_lload_n hx hb dX1_countStates_12 rfl (lv_at hl 1 rfl) ?_
    refine lv_aload_n hx hb dX1_countStates_13 rfl (lv_at hl 0 rfl) ?_
    refine lv_iload_n hx hb dX1_countStates_14 rfl (lv_at hl 2 rfl) ?_
    refine am_callRi (W.runV (As := [.int (nI (k + 1))]) (rest := [.long (ac_count (ai 9) na k)]) ⟨hx, hb, hml, hown, hts⟩ (c_X1_lastsOf l D ad cI cL fi fl ai al (nI (k + 1)) na hna hnl) (cwV 1 hts (am_gV (am_in 264 rfl) (am_in 265 rfl) (am_in 266 rfl) (am_in 30 rfl) (am_in 267 rfl)) rfl rfl rfl (by decide +kernel) ⟨Nat.le_of_ble_eq_true rfl, Nat.le_of_ble_eq_true rfl⟩) (am_preVR 1 1 rfl rfl rfl hP hK hN) rfl rfl hl.1 rfl (lv_room (Nat.le_of_ble_eq_true rfl)) dX1_countStates_15 ⟨Nat.zero_le _, Nat.zero_le _⟩) ?_
    refine am_callRi (W.runS (As := [.int (ac_lasts (ai 9) na (nI (k + 1)))]) (rest := [.long (ac_count (ai 9) na k)]) ⟨hx, hb, hml, hown, hts⟩ (c_JI_bitCount l D _ _ (ac_lasts (ai 9) na (nI (k + 1)))) (va_cwS 1 hts (am_gS (am_in 271 rfl) (am_in 272 rfl) (am_in 36 rfl) (am_in 273 rfl)) rfl rfl rfl (by decide +kernel) ⟨Nat.le_of_ble_eq_true rfl, Nat.le_of_ble_eq_true rfl⟩) (am_preSR hP hK hN) rfl rfl hl.1 rfl (lv_room (Nat.le_of_ble_eq_true rfl)) dX1_countStates_18 ⟨Nat.zero_le _, Nat.zero_le _⟩) ?_
    refine lv_i2l (v := (ac_bc (ac_lasts (ai 9) na (nI (k + 1)))).toInt64) hx hb dX1_countStates_21 rfl ?_
    refine lv_ladd hx hb dX1_countStates_22 ?_
    refine lv_lstore_n (lv' := [(1, .long ((ac_count (ai 9) na k) + ((ac_bc (ac_lasts (ai 9) na (nI (k + 1)))).toInt64))), (0, .ref (ad 1)), (3, .int (nI (k + 1)))]) hx hb dX1_countStates_23 rfl hl (by decide) rfl (fun ls hl => ?_)
    refine lv_iinc (v := nI ((k + 1) + 1)) (lv' := [(3, .int (nI ((k + 1) + 1))), (1, .long ((ac_count (ai 9) na k) + ((ac_bc (ac_lasts (ai 9) na (nI (k + 1)))).toInt64))), (0, .ref (ad 1))]) hx hb dX1_countStates_24 hl (k := 2) rfl (nI_1 (k + 1)) (by decide) rfl (fun ls hl => ?_)
    refine lv_goto (tgt := 4) hx hb dX1_countStates_27 (by decide) ?_
    have e_4_0 : ac_count (ai 9) na (k + 1) = (ac_count (ai 9) na k) + ((ac_bc (ac_lasts (ai 9) na (nI (k + 1)))).toInt64) := by first | rfl | (simp only [ac_count, c_9, if_true, if_false, eq_self, not_true_eq_false, not_false_eq_true, ite_true, ite_false, ↓reduceIte]; done) | (simp [ac_count, c_9]; done)
    refine ih_4 (k + 1) (2 ^ na - 1 - (k + 1)) ls (by omega) ⟨rfl, (by omega), ?_⟩
    try dsimp only
    rw [e_4_0]
    exact lv_sub hl [2, 1, 0] rfl
end
section
set_option maxHeartbeats 4000000 in
set_option maxRecDepth 100000 in
theorem c_X2_stepPlace (l : Launch) (D : va_G) (w : va_W) (tys : List (ClassId × FieldType)) (j : Nat) (b : Nat) (hj : j ≤ 10) (hb2 : b < 10) : Met l yX2_stepPlace wsX2_stepPlace (am_rm 0 0) (va_Pc [.int (ac_la j), .int (nI b)] (am_R nwL vwCl D w tys)) (vp_Si (fun r => r = nI (ac_pl j b))) 0 0 am_No := by
  refine am_startR (cc := cX2_stepPlace) (maxL := 2) (ret := (some .int)) (by decide) rfl (Nat.le_of_ble_eq_true rfl) [(0, .int (ac_la j)), (1, .int (nI b))] rfl ?_
  intro p e s m below meth c ls hx hb hr hml hown hts hlocks hP hK hN hl
  have hown : s.vm.findClass RX2 = some m.cls := hown
  have ht := am_ht hts
  refine lv_iload_n hx hb dX2_stepPlace_0 rfl (lv_at hl 0 rfl) ?_
  refine lv_iconst (v := (-1)) hx hb dX2_stepPlace_1 (by decide) ?_
  refine lv_icmp_ne (tgt := 10) hx hb dX2_stepPlace_2 (by decide) (fun c_2 => ?_) (fun c_2 => ?_)
  · skip
    obtain ⟨a, rfl⟩ : ∃ z, j = z + 1 := by cases j with | zero => exact absurd rfl c_2 | succ z => exact ⟨z, rfl⟩
    have hl : lv_has ls 2 [(0, .int (nI a)), (1, .int (nI b))] := hl
    refine lv_iload_n hx hb dX2_stepPlace_10 rfl (lv_at hl 0 rfl) ?_
    refine lv_bipush (v := 10) hx hb dX2_stepPlace_11 (by decide) ?_
    refine lv_imul hx hb dX2_stepPlace_13 ?_
    refine lv_iload_n hx hb dX2_stepPlace_14 rfl (lv_at hl 1 rfl) ?_
    refine lv_iadd hx hb dX2_stepPlace_15 ?_
    exact am_iretR hx hb hr hlocks (ac_pl_eq1 a b) dX2_stepPlace_16
  · skip
    obtain rfl : j = 0 := by cases j with | zero => rfl | succ z => exact absurd c_2 (ac_la_ne z (by omega))
    have hl : lv_has ls 2 [(0, .int (-1)), (1, .int (nI b))] := hl
    refine lv_bipush (v := 10) hx hb dX2_stepPlace_5 (by decide) ?_
    refine lv_goto (tgt := 11) hx hb dX2_stepPlace_7 (by decide) ?_
    refine lv_bipush (v := 10) hx hb dX2_stepPlace_11 (by decide) ?_
    refine lv_imul hx hb dX2_stepPlace_13 ?_
    refine lv_iload_n hx hb dX2_stepPlace_14 rfl (lv_at hl 1 rfl) ?_
    refine lv_iadd hx hb dX2_stepPlace_15 ?_
    exact am_iretR hx hb hr hlocks (ac_pl_eq0 b) dX2_stepPlace_16

set_option maxHeartbeats 4000000 in
set_option maxRecDepth 100000 in
theorem c_X2_mostBy (l : Launch) (D : va_G) (ad : Nat → Nat) (cI cL : ClassId) (fi : Nat → Int32) (fl : Nat → Int64) (ai : Nat → Nat → Int32) (al : Nat → Nat → Int64) (j : Nat) (sn : Nat) (b : Nat) (hj : j ≤ 10) (hsn : sn < 1024) (hb2 : b < 10) : Met l yX2_mostBy wsX2_mostBy (am_rm 1 21) (va_Pc [.ref (ad 2), .int (ac_la j), .int (nI sn), .int (nI b)] (am_R nwL vwCl D (ac_w ad cI cL fi fl ai al) [(cI, .int), (cL, .long)])) (vp_Sl (fun r => r = ac_mby (al 18) (al 17) j sn b)) 0 0 am_No := by
  refine am_startR (cc := cX2_mostBy) (maxL := 4) (ret := (some .long)) (by decide) rfl (Nat.le_of_ble_eq_true rfl) [(0, .ref (ad 2)), (1, .int (ac_la j)), (2, .int (nI sn)), (3, .int (nI b))] rfl ?_
  intro p e s m below meth c ls hx hb hr hml hown hts hlocks hP hK hN hl
  have hown : s.vm.findClass RX2 = some m.cls := hown
  have ht := am_ht hts
  have hin_X2 : ∀ w ∈ u_ws RX2 TX2 4, w ∈ wsX2_mostBy := fun w h => List.mem_cons_of_mem _ (am_inX2 w h)
  have hf_15 := ht 110 (.fieldLink RX2 15 "ApartCost$Planner" "steps" "[J") rfl
  have hf_18 := ht 111 (.fieldLink RX2 18 "ApartCost$Planner" "most" "[J") rfl
  refine lv_aload_n hx hb dX2_mostBy_0 rfl (lv_at hl 0 rfl) ?_
  refine va_get (D := D) (ci := 2) (v := .ref (ad 18)) (C := RX2) (T := TX2) (N := 4) hx hb hts hin_X2 hown hK hP 2 rfl rfl 3 (by decide) hf_18 (fun _ h9 => h9) rfl dX2_mostBy_1 ?_
  refine lv_iload_n hx hb dX2_mostBy_4 rfl (lv_at hl 2 rfl) ?_
  refine lv_iconst (v := 1) hx hb dX2_mostBy_5 (by decide) ?_
  refine lv_iload_n hx hb dX2_mostBy_6 rfl (lv_at hl 3 rfl) ?_
  refine lv_ishl hx hb dX2_mostBy_7 ?_
  refine lv_ior hx hb dX2_mostBy_8 ?_
  refine lv_bipush (v := 10) hx hb dX2_mostBy_9 (by decide) ?_
  refine lv_imul hx hb dX2_mostBy_11 ?_
  refine lv_iload_n hx hb dX2_mostBy_12 rfl (lv_at hl 3 rfl) ?_
  refine lv_iadd hx hb dX2_mostBy_13 ?_
  refine am_lald hx hb hK hP 18 1 rfl rfl ((sn ||| 2 ^ b) * 10 + b) (am_six (by omega)) (by have := am_or_lt hsn hb2; omega) (by decide) dX2_mostBy_14 ?_
  refine lv_aload_n hx hb dX2_mostBy_15 rfl (lv_at hl 0 rfl) ?_
  refine va_get (D := D) (ci := 2) (v := .ref (ad 17)) (C := RX2) (T := TX2) (N := 4) hx hb hts hin_X2 hown hK hP 2 rfl rfl 2 (by decide) hf_15 (fun _ h9 => h9) rfl dX2_mostBy_16 ?_
  refine lv_iload_n hx hb dX2_mostBy_19 rfl (lv_at hl 1 rfl) ?_
  refine lv_iload_n hx hb dX2_mostBy_20 rfl (lv_at hl 3 rfl) ?_
  refine am_callRi (W.runS (As := [.int (ac_la j), .int (nI b)]) (rest := [.ref (ad 17), .long ((al 18) ((sn ||| 2 ^ b) * 10 + b))]) ⟨hx, hb, hml, hown, hts⟩ (c_X2_stepPlace l D _ _ j b hj hb2) (va_cwS 2 hts (am_gS (am_in 296 rfl) (am_in 297 rfl) (am_in 32 rfl) (am_in 298 rfl)) rfl rfl rfl (by decide +kernel) ⟨Nat.le_of_ble_eq_true rfl, Nat.le_of_ble_eq_true rfl⟩) (am_preSR hP hK hN) rfl rfl hl.1 rfl (lv_room (Nat.le_of_ble_eq_true rfl)) dX2_mostBy_21 ⟨Nat.zero_le _, Nat.zero_le _⟩) ?_
  refine am_lald hx hb hK hP 17 1 rfl rfl (ac_pl j b) rfl (ac_pl_lt hj hb2) (by decide) dX2_mostBy_24 ?_
  refine lv_lsub hx hb dX2_mostBy_25 ?_
  exact am_lretR hx hb hr hlocks rfl dX2_mostBy_26

set_option maxHeartbeats 4000000 in
set_option maxRecDepth 100000 in
theorem c_X2_mostFrom (l : Launch) (D : va_G) (ad : Nat → Nat) (cI cL : ClassId) (fi : Nat → Int32) (fl : Nat → Int64) (ai : Nat → Nat → Int32) (al : Nat → Nat → Int64) (j : Nat) (sn : Nat) (nx : Int32) (ed : Int64) (na : Nat) (hna : fi 0 = nI na) (hnl : na ≤ 10) (hj : j ≤ 10) (hsn : sn < 1024) : Met l yX2_mostFrom wsX2_mostFrom (am_rm 2 44) (va_Pc [.ref (ad 2), .int (ac_la j), .int (nI sn), .int nx, .long ed] (am_R nwL vwCl D (ac_w ad cI cL fi fl ai al) [(cI, .int), (cL, .long)])) (vp_Sl (fun r => r = ac_mfrom (al 18) (al 17) j sn nx ed na)) 0 0 am_No := by
  refine am_startR (cc := cX2_mostFrom) (maxL := 9) (ret := (some .long)) (by decide) rfl (Nat.le_of_ble_eq_true rfl) [(0, .ref (ad 2)), (1, .int (ac_la j)), (2, .int (nI sn)), (3, .int nx), (4, .long ed)] rfl ?_
  intro p e s m below meth c ls hx hb hr hml hown hts hlocks hP hK hN hl
  have hown : s.vm.findClass RX2 = some m.cls := hown
  have ht := am_ht hts
  have hin_X2 : ∀ w ∈ u_ws RX2 TX2 4, w ∈ wsX2_mostFrom := fun w h => List.mem_cons_of_mem _ (am_inX2 w h)
  have hin_X1 : ∀ w ∈ u_ws RX1 TX1 14, w ∈ wsX2_mostFrom := fun w h => List.mem_cons_of_mem _ (am_inX1 w h)
  have hf_21 := ht 106 (.fieldLink RX2 21 "ApartCost$Planner" "product" "LApartCost$Product;") rfl
  have hf_56 := ht 59 (.fieldLink RX2 56 "ApartCost$Product" "acts" "I") rfl
  refine lv_lload hx hb dX2_mostFrom_0 (lv_at hl 4 rfl) ?_
  refine lv_lstore (lv' := [(6, .long ed), (0, .ref (ad 2)), (1, .int (ac_la j)), (2, .int (nI sn)), (3, .int nx), (4, .long ed)]) hx hb dX2_mostFrom_2 hl (by decide) rfl (fun ls hl => ?_)
  refine lv_iconst (v := 0) hx hb dX2_mostFrom_4 (by decide) ?_
  refine lv_istore (lv' := [(8, .int 0), (6, .long ed), (0, .ref (ad 2)), (1, .int (ac_la j)), (2, .int (nI sn)), (3, .int nx), (4, .long ed)]) hx hb dX2_mostFrom_5 hl (by decide) rfl (fun ls hl => ?_)
  refine am_loopR (σ := Nat) (fun q n9 ls => n9 = na - q ∧ q ≤ na ∧ lv_has ls 9 [(0, .ref (ad 2)), (1, .int (ac_la j)), (2, .int (nI sn)), (3, .int nx), (4, .long ed), (6, .long (ac_mfrom (al 18) (al 17) j sn nx ed q)), (8, .int (nI q))]) ?_ 0 (na - 0) ls ⟨rfl, (by omega), lv_sub hl [2, 3, 4, 5, 6, 1, 0] rfl⟩
  rintro k n9 ls ⟨hn_7, hk, hl⟩ ih_7
  refine lv_iload hx hb dX2_mostFrom_7 (lv_at hl 6 rfl) ?_
  refine lv_aload_n hx hb dX2_mostFrom_9 rfl (lv_at hl 0 rfl) ?_
  refine va_get (D := D) (ci := 2) (v := .ref (ad 1)) (C := RX2) (T := TX2) (N := 4) hx hb hts hin_X2 hown hK hP 2 rfl rfl 0 (by decide) hf_21 (fun _ h9 => h9) rfl dX2_mostFrom_10 ?_
  refine va_get (D := D) (ci := 1) (v := .int (fi 0)) (C := RX1) (T := TX1) (N := 14) hx hb hts hin_X1 hown hK hP 1 rfl rfl 0 (by decide) hf_56 (fun _ h9 => h9) rfl dX2_mostFrom_13 ?_
  refine lv_icmp_ge (tgt := 49) hx hb dX2_mostFrom_16 (by decide) (fun c_16 => ?_) (fun c_16 => ?_)
  · skip
    have hke_16 : na ≤ k := (am_ge hna (by omega) (by omega)).mp c_16
    have hkq_16 : na = k := by omega
    subst hkq_16
    refine lv_lload hx hb dX2_mostFrom_49 (lv_at hl 5 rfl) ?_
    exact am_lretR hx hb hr hlocks (by first | rfl | (simp only [c_16, if_true, if_false, eq_self, not_true_eq_false, not_false_eq_true, ite_true, ite_false, ↓reduceIte]; done) | (simp [c_16]; done)) dX2_mostFrom_51
  · skip
    have hkl_16 : k < na := Nat.lt_of_not_le (fun z => c_16 ((am_ge hna (by omega) (by omega)).mpr z))
    refine lv_iload_n hx hb dX2_mostFrom_19 rfl (lv_at hl 3 rfl) ?_
    refine lv_iload hx hb dX2_mostFrom_20 (lv_at hl 6 rfl) ?_
    refine am_callRi (va_Run.run (va_runSN (As := [.int nx, .int (nI k)]) (rest := []) ⟨hx, hb, hml, hown, hts⟩ (c_X0_has l D _ _ nx (nI k)) ⟨va_cnB 2 hts (am_gN (am_in 206 rfl)) rfl rfl rfl (am_nw_at hN 2 rfl) (ht 29 _ rfl) (by decide +kernel) ⟨Nat.le_of_ble_eq_true rfl, Nat.le_of_ble_eq_true rfl⟩, (ht 205 _ rfl), trivial⟩ (am_preSR hP hK hN) rfl rfl hl.1 rfl (lv_room (Nat.le_of_ble_eq_true rfl)) dX2_mostFrom_22 ⟨Nat.zero_le _, Nat.zero_le _⟩)) ?_
    refine lv_if_eq (tgt := 43) hx hb dX2_mostFrom_25 (by decide) (fun c_25 => ?_) (fun c_25 => ?_)
    · skip
      refine lv_iinc (v := nI (k + 1)) (lv' := [(8, .int (nI (k + 1))), (0, .ref (ad 2)), (1, .int (ac_la j)), (2, .int (nI sn)), (3, .int nx), (4, .long ed), (6, .long (ac_mfrom (al 18) (al 17) j sn nx ed k))]) hx hb dX2_mostFrom_43 hl (k := 6) rfl (nI_1 k) (by decide) rfl (fun ls hl => ?_)
      refine lv_goto (tgt := 7) hx hb dX2_mostFrom_46 (by decide) ?_
      have e_7_0 : ac_mfrom (al 18) (al 17) j sn nx ed (k + 1) = ac_mfrom (al 18) (al 17) j sn nx ed k := by first | rfl | (simp only [ac_mfrom, c_16, c_25, if_true, if_false, eq_self, not_true_eq_false, not_false_eq_true, ite_true, ite_false, ↓reduceIte]; done) | (simp [ac_mfrom, c_16, c_25]; done)
      refine ih_7 (k + 1) (na - (k + 1)) ls (by omega) ⟨rfl, (by omega), ?_⟩
      try dsimp only
      rw [e_7_0]
      exact lv_sub hl [1, 2, 3, 4, 5, 6, 0] rfl
    · skip
      refine lv_lload hx hb dX2_mostFrom_28 (lv_at hl 5 rfl) ?_
      refine lv_aload_n hx hb dX2_mostFrom_30 rfl (lv_at hl 0 rfl) ?_
      refine lv_iload_n hx hb dX2_mostFrom_31 rfl (lv_at hl 1 rfl) ?_
      refine lv_iload_n hx hb dX2_mostFrom_32 rfl (lv_at hl 2 rfl) ?_
      refine lv_iload hx hb dX2_mostFrom_33 (lv_at hl 6 rfl) ?_
      refine am_callRl (W.runV (As := [.int (ac_la j), .int (nI sn), .int (nI k)]) (rest := [.long (ac_mfrom (al 18) (al 17) j sn nx ed k)]) ⟨hx, hb, hml, hown, hts⟩ (c_X2_mostBy l D ad cI cL fi fl ai al j sn k hj hsn (by omega)) (cwV 3 hts (am_gV (am_in 332 rfl) (am_in 333 rfl) (am_in 6 rfl) (am_in 32 rfl) (am_in 334 rfl)) rfl rfl rfl (by decide +kernel) ⟨Nat.le_of_ble_eq_true rfl, Nat.le_of_ble_eq_true rfl⟩) (am_preVR 2 2 rfl rfl rfl hP hK hN) rfl rfl hl.1 rfl (lv_room (Nat.le_of_ble_eq_true rfl)) dX2_mostFrom_35 ⟨Nat.zero_le _, Nat.zero_le _⟩) ?_
      refine va_mmax_long hx hb (hml.trans hl.1.symm) hown (ht 335 _ rfl) (ht 336 _ rfl) (ht 37 _ rfl) (ht 337 _ rfl) (Nat.le_of_ble_eq_true rfl) (Nat.le_of_ble_eq_true rfl) (Nat.zero_le _) (Nat.zero_le _) dX2_mostFrom_38 ?_
      refine am_topl (y := ac_max (ac_mfrom (al 18) (al 17) j sn nx ed k) (ac_mby (al 18) (al 17) j sn k)) rfl ?_
      refine lv_lstore (lv' := [(6, .long (ac_max (ac_mfrom (al 18) (al 17) j sn nx ed k) (ac_mby (al 18) (al 17) j sn k))), (0, .ref (ad 2)), (1, .int (ac_la j)), (2, .int (nI sn)), (3, .int nx), (4, .long ed), (8, .int (nI k))]) hx hb dX2_mostFrom_41 hl (by decide) rfl (fun ls hl => ?_)
      refine lv_iinc (v := nI (k + 1)) (lv' := [(8, .int (nI (k + 1))), (6, .long (ac_max (ac_mfrom (al 18) (al 17) j sn nx ed k) (ac_mby (al 18) (al 17) j sn k))), (0, .ref (ad 2)), (1, .int (ac_la j)), (2, .int (nI sn)), (3, .int nx), (4, .long ed)]) hx hb dX2_mostFrom_43 hl (k := 6) rfl (nI_1 k) (by decide) rfl (fun ls hl => ?_)
      refine lv_goto (tgt := 7) hx hb dX2_mostFrom_46 (by decide) ?_
      have e_7_0 : ac_mfrom (al 18) (al 17) j sn nx ed (k + 1) = ac_max (ac_mfrom (al 18) (al 17) j sn nx ed k) (ac_mby (al 18) (al 17) j sn k) := by first | rfl | (simp only [ac_mfrom, c_16, c_25, if_true, if_false, eq_self, not_true_eq_false, not_false_eq_true, ite_true, ite_false, ↓reduceIte]; done) | (simp [ac_mfrom, c_16, c_25]; done)
      refine ih_7 (k + 1) (na - (k + 1)) ls (by omega) ⟨rfl, (by omega), ?_⟩
      try dsimp only
      rw [e_7_0]
      exact lv_sub hl [2, 3, 4, 5, 6, 1, 0] rfl

set_option maxHeartbeats 4000000 in
set_option maxRecDepth 100000 in
theorem c_X2_endOf (l : Launch) (D : va_G) (ad : Nat → Nat) (cI cL : ClassId) (fi : Nat → Int32) (fl : Nat → Int64) (ai : Nat → Nat → Int32) (al : Nat → Nat → Int64) (x : Int32) (na : Nat) (nr : Nat) (hna : fi 0 = nI na) (hnl : na ≤ 10) (hnr : fi 2 = nI nr) (hnrl : nr ≤ 16) : Met l yX2_endOf wsX2_endOf (am_rm 3 65) (va_Pc [.ref (ad 2), .int x] (am_R nwL vwCl D (ac_w ad cI cL fi fl ai al) [(cI, .int), (cL, .long)])) (vp_Sl (fun r => r = ac_end (ai 5) (ai 14) (al 15) (al 16) (fi 1) na nr x)) 0 0 am_No := by
  refine am_startR (cc := cX2_endOf) (maxL := 6) (ret := (some .long)) (by decide) rfl (Nat.le_of_ble_eq_true rfl) [(0, .ref (ad 2)), (1, .int x)] rfl ?_
  intro p e s m below meth c ls hx hb hr hml hown hts hlocks hP hK hN hl
  have hown : s.vm.findClass RX2 = some m.cls := hown
  have ht := am_ht hts
  have hin_X2 : ∀ w ∈ u_ws RX2 TX2 4, w ∈ wsX2_endOf := fun w h => List.mem_cons_of_mem _ (am_inX2 w h)
  have hf_21 := ht 106 (.fieldLink RX2 21 "ApartCost$Planner" "product" "LApartCost$Product;") rfl
  have hf_9 := ht 108 (.fieldLink RX2 9 "ApartCost$Planner" "values" "[J") rfl
  refine lv_aload_n hx hb dX2_endOf_0 rfl (lv_at hl 0 rfl) ?_
  refine va_get (D := D) (ci := 2) (v := .ref (ad 1)) (C := RX2) (T := TX2) (N := 4) hx hb hts hin_X2 hown hK hP 2 rfl rfl 0 (by decide) hf_21 (fun _ h9 => h9) rfl dX2_endOf_1 ?_
  refine lv_iload_n hx hb dX2_endOf_4 rfl (lv_at hl 1 rfl) ?_
  refine am_callRi (W.runV (As := [.int x]) (rest := []) ⟨hx, hb, hml, hown, hts⟩ (c_X1_wholeBy l D ad cI cL fi fl ai al x na hna hnl) (cwV 1 hts (am_gV (am_in 316 rfl) (am_in 317 rfl) (am_in 318 rfl) (am_in 30 rfl) (am_in 319 rfl)) rfl rfl rfl (by decide +kernel) ⟨Nat.le_of_ble_eq_true rfl, Nat.le_of_ble_eq_true rfl⟩) (am_preVR 1 1 rfl rfl rfl hP hK hN) rfl rfl hl.1 rfl (lv_room (Nat.le_of_ble_eq_true rfl)) dX2_endOf_5 ⟨Nat.zero_le _, Nat.zero_le _⟩) ?_
  refine lv_istore_n (lv' := [(2, .int (ac_whole (ai 5) (fi 1) na x)), (0, .ref (ad 2)), (1, .int x)]) hx hb dX2_endOf_8 rfl hl (by decide) rfl (fun ls hl => ?_)
  refine lv_aload_n hx hb dX2_endOf_9 rfl (lv_at hl 1 rfl) ?_
  refine va_get (D := D) (ci := 2) (v := .ref (ad 1)) (C := RX2) (T := TX2) (N := 4) hx hb hts hin_X2 hown hK hP 2 rfl rfl 0 (by decide) hf_21 (fun _ h9 => h9) rfl dX2_endOf_10 ?_
  refine lv_sipush (v := 4095) hx hb dX2_endOf_13 (by decide) ?_
  refine lv_aload_n hx hb dX2_endOf_16 rfl (lv_at hl 1 rfl) ?_
  refine va_get (D := D) (ci := 2) (v := .ref (ad 1)) (C := RX2) (T := TX2) (N := 4) hx hb hts hin_X2 hown hK hP 2 rfl rfl 0 (by decide) hf_21 (fun _ h9 => h9) rfl dX2_endOf_17 ?_
  refine lv_iload_n hx hb dX2_endOf_20 rfl (lv_at hl 2 rfl) ?_
  refine am_callRi (W.runV (As := [.int x]) (rest := [.int 4095, .ref (ad 1)]) ⟨hx, hb, hml, hown, hts⟩ (c_X1_freedBy l D ad cI cL fi fl ai al x na hna hnl) (cwV 1 hts (am_gV (am_in 324 rfl) (am_in 321 rfl) (am_in 322 rfl) (am_in 30 rfl) (am_in 323 rfl)) rfl rfl rfl (by decide +kernel) ⟨Nat.le_of_ble_eq_true rfl, Nat.le_of_ble_eq_true rfl⟩) (am_preVR 1 1 rfl rfl rfl hP hK hN) rfl rfl hl.1 rfl (lv_room (Nat.le_of_ble_eq_true rfl)) dX2_endOf_21 ⟨Nat.zero_le _, Nat.zero_le _⟩) ?_
  refine lv_iconst (v := (-1)) hx hb dX2_endOf_24 (by decide) ?_
  refine lv_ixor hx hb dX2_endOf_25 ?_
  refine lv_iand hx hb dX2_endOf_26 ?_
  refine am_callRl (W.runV (As := [.int (4095 &&& ((ac_freed (ai 5) x na) ^^^ (-1)))]) (rest := []) ⟨hx, hb, hml, hown, hts⟩ (c_X1_restWorth l D ad cI cL fi fl ai al (4095 &&& ((ac_freed (ai 5) x na) ^^^ (-1))) nr hnr hnrl) (cwV 1 hts (am_gV (am_in 325 rfl) (am_in 326 rfl) (am_in 327 rfl) (am_in 30 rfl) (am_in 328 rfl)) rfl rfl rfl (by decide +kernel) ⟨Nat.le_of_ble_eq_true rfl, Nat.le_of_ble_eq_true rfl⟩) (am_preVR 1 1 rfl rfl rfl hP hK hN) rfl rfl hl.1 rfl (lv_room (Nat.le_of_ble_eq_true rfl)) dX2_endOf_27 ⟨Nat.zero_le _, Nat.zero_le _⟩) ?_
  refine lv_ldc2 (v := 27720) hx hb hown (ht 303 _ rfl) dX2_endOf_30 ?_
  refine lv_lmul hx hb dX2_endOf_33 ?_
  refine lv_lstore_n (lv' := [(3, .long ((ac_restW (ai 14) (al 15) nr (4095 &&& ((ac_freed (ai 5) x na) ^^^ (-1)))) * 27720)), (2, .int (ac_whole (ai 5) (fi 1) na x)), (0, .ref (ad 2)), (1, .int x)]) hx hb dX2_endOf_34 rfl hl (by decide) rfl (fun ls hl => ?_)
  refine lv_iconst (v := 0) hx hb dX2_endOf_35 (by decide) ?_
  refine lv_istore (lv' := [(5, .int 0), (3, .long ((ac_restW (ai 14) (al 15) nr (4095 &&& ((ac_freed (ai 5) x na) ^^^ (-1)))) * 27720)), (2, .int (ac_whole (ai 5) (fi 1) na x)), (0, .ref (ad 2)), (1, .int x)]) hx hb dX2_endOf_36 hl (by decide) rfl (fun ls hl => ?_)
  refine am_loopR (σ := Nat) (fun q n9 ls => n9 = 12 - q ∧ q ≤ 12 ∧ lv_has ls 6 [(0, .ref (ad 2)), (1, .int x), (2, .int (ac_whole (ai 5) (fi 1) na x)), (3, .long (ac_endl (al 16) (ac_whole (ai 5) (fi 1) na x) (ac_restW (ai 14) (al 15) nr (4095 &&& (ac_freed (ai 5) x na ^^^ (-1))) * 27720) q)), (5, .int (nI q))]) ?_ 0 (12 - 0) ls ⟨rfl, (by omega), lv_sub hl [3, 4, 2, 1, 0] rfl⟩
  rintro k n9 ls ⟨hn_38, hk, hl⟩ ih_38
  refine lv_iload hx hb dX2_endOf_38 (lv_at hl 4 rfl) ?_
  refine lv_bipush (v := 12) hx hb dX2_endOf_40 (by decide) ?_
  refine lv_icmp_ge (tgt := 70) hx hb dX2_endOf_42 (by decide) (fun c_42 => ?_) (fun c_42 => ?_)
  · skip
    have hke_42 : 12 ≤ k := (am_ge (rfl : (12 : Int32) = nI 12) (by decide) (by omega)).mp c_42
    have hkq_42 : k = 12 := by omega
    subst hkq_42
    refine lv_lload_n hx hb dX2_endOf_70 rfl (lv_at hl 3 rfl) ?_
    exact am_lretR hx hb hr hlocks (by first | rfl | (simp only [ac_end, c_42, if_true, if_false, eq_self, not_true_eq_false, not_false_eq_true, ite_true, ite_false, ↓reduceIte]; done) | (simp [ac_end, c_42]; done)) dX2_endOf_71
  · skip
    have hkl_42 : k < 12 := Nat.lt_of_not_le (fun z => c_42 ((am_ge (rfl : (12 : Int32) = nI 12) (by decide) (by omega)).mpr z))
    refine lv_iload_n hx hb dX2_endOf_45 rfl (lv_at hl 2 rfl) ?_
    refine lv_iload hx hb dX2_endOf_46 (lv_at hl 4 rfl) ?_
    refine am_callRi (va_Run.run (va_runSN (As := [.int (ac_whole (ai 5) (fi 1) na x), .int (nI k)]) (rest := []) ⟨hx, hb, hml, hown, hts⟩ (c_X0_has l D _ _ (ac_whole (ai 5) (fi 1) na x) (nI k)) ⟨va_cnB 2 hts (am_gN (am_in 206 rfl)) rfl rfl rfl (am_nw_at hN 2 rfl) (ht 29 _ rfl) (by decide +kernel) ⟨Nat.le_of_ble_eq_true rfl, Nat.le_of_ble_eq_true rfl⟩, (ht 205 _ rfl), trivial⟩ (am_preSR hP hK hN) rfl rfl hl.1 rfl (lv_room (Nat.le_of_ble_eq_true rfl)) dX2_endOf_48 ⟨Nat.zero_le _, Nat.zero_le _⟩)) ?_
    refine lv_if_eq (tgt := 64) hx hb dX2_endOf_51 (by decide) (fun c_51 => ?_) (fun c_51 => ?_)
    · skip
      refine lv_iinc (v := nI (k + 1)) (lv' := [(5, .int (nI (k + 1))), (0, .ref (ad 2)), (1, .int x), (2, .int (ac_whole (ai 5) (fi 1) na x)), (3, .long (ac_endl (al 16) (ac_whole (ai 5) (fi 1) na x) (ac_restW (ai 14) (al 15) nr (4095 &&& (ac_freed (ai 5) x na ^^^ (-1))) * 27720) k))]) hx hb dX2_endOf_64 hl (k := 4) rfl (nI_1 k) (by decide) rfl (fun ls hl => ?_)
      refine lv_goto (tgt := 38) hx hb dX2_endOf_67 (by decide) ?_
      have e_38_0 : ac_endl (al 16) (ac_whole (ai 5) (fi 1) na x) (ac_restW (ai 14) (al 15) nr (4095 &&& (ac_freed (ai 5) x na ^^^ (-1))) * 27720) (k + 1) = ac_endl (al 16) (ac_whole (ai 5) (fi 1) na x) (ac_restW (ai 14) (al 15) nr (4095 &&& (ac_freed (ai 5) x na ^^^ (-1))) * 27720) k := by first | rfl | (simp only [ac_endl, c_42, c_51, if_true, if_false, eq_self, not_true_eq_false, not_false_eq_true, ite_true, ite_false, ↓reduceIte]; done) | (simp [ac_endl, c_42, c_51]; done)
      refine ih_38 (k + 1) (12 - (k + 1)) ls (by omega) ⟨rfl, (by omega), ?_⟩
      try dsimp only
      rw [e_38_0]
      exact lv_sub hl [1, 2, 3, 4, 0] rfl
    · skip
      refine lv_lload_n hx hb dX2_endOf_54 rfl (lv_at hl 3 rfl) ?_
      refine lv_aload_n hx hb dX2_endOf_55 rfl (lv_at hl 0 rfl) ?_
      refine va_get (D := D) (ci := 2) (v := .ref (ad 16)) (C := RX2) (T := TX2) (N := 4) hx hb hts hin_X2 hown hK hP 2 rfl rfl 1 (by decide) hf_9 (fun _ h9 => h9) rfl dX2_endOf_56 ?_
      refine lv_iload hx hb dX2_endOf_59 (lv_at hl 4 rfl) ?_
      refine am_lald hx hb hK hP 16 1 rfl rfl k rfl (by omega) (by decide) dX2_endOf_61 ?_
      refine lv_ladd hx hb dX2_endOf_62 ?_
      refine lv_lstore_n (lv' := [(3, .long ((ac_endl (al 16) (ac_whole (ai 5) (fi 1) na x) (ac_restW (ai 14) (al 15) nr (4095 &&& (ac_freed (ai 5) x na ^^^ (-1))) * 27720) k) + ((al 16) k))), (0, .ref (ad 2)), (1, .int x), (2, .int (ac_whole (ai 5) (fi 1) na x)), (5, .int (nI k))]) hx hb dX2_endOf_63 rfl hl (by decide) rfl (fun ls hl => ?_)
      refine lv_iinc (v := nI (k + 1)) (lv' := [(5, .int (nI (k + 1))), (3, .long ((ac_endl (al 16) (ac_whole (ai 5) (fi 1) na x) (ac_restW (ai 14) (al 15) nr (4095 &&& (ac_freed (ai 5) x na ^^^ (-1))) * 27720) k) + ((al 16) k))), (0, .ref (ad 2)), (1, .int x), (2, .int (ac_whole (ai 5) (fi 1) na x))]) hx hb dX2_endOf_64 hl (k := 4) rfl (nI_1 k) (by decide) rfl (fun ls hl => ?_)
      refine lv_goto (tgt := 38) hx hb dX2_endOf_67 (by decide) ?_
      have e_38_0 : ac_endl (al 16) (ac_whole (ai 5) (fi 1) na x) (ac_restW (ai 14) (al 15) nr (4095 &&& (ac_freed (ai 5) x na ^^^ (-1))) * 27720) (k + 1) = (ac_endl (al 16) (ac_whole (ai 5) (fi 1) na x) (ac_restW (ai 14) (al 15) nr (4095 &&& (ac_freed (ai 5) x na ^^^ (-1))) * 27720) k) + ((al 16) k) := by first | rfl | (simp only [ac_endl, c_42, c_51, if_true, if_false, eq_self, not_true_eq_false, not_false_eq_true, ite_true, ite_false, ↓reduceIte]; done) | (simp [ac_endl, c_42, c_51]; done)
      refine ih_38 (k + 1) (12 - (k + 1)) ls (by omega) ⟨rfl, (by omega), ?_⟩
      try dsimp only
      rw [e_38_0]
      exact lv_sub hl [2, 3, 4, 1, 0] rfl

set_option maxHeartbeats 4000000 in
set_option maxRecDepth 100000 in
theorem c_X2_bestNext (l : Launch) (D : va_G) (ad : Nat → Nat) (cI cL : ClassId) (fi : Nat → Int32) (fl : Nat → Int64) (ai : Nat → Nat → Int32) (al : Nat → Nat → Int64) (sn : Nat) (j : Nat) (na : Nat) (nr : Nat) (hna : fi 0 = nI na) (hnl : na ≤ 10) (hnr : fi 2 = nI nr) (hnrl : nr ≤ 16) (hj : j ≤ 10) (hsn : sn < 1024) : Met l yX2_bestNext wsX2_bestNext (am_rm 4 90) (va_Pc [.ref (ad 2), .int (nI sn), .int (ac_la j)] (am_R nwL vwCl D (ac_w ad cI cL fi fl ai al) [(cI, .int), (cL, .long)])) (vp_Si (fun r => r = ac_la (ac_bn (ai 5) (ai 14) (ai 9) (al 15) (al 16) (al 17) (al 18) (fi 1) na nr sn j))) 0 0 am_No := by
  refine am_startR (cc := cX2_bestNext) (maxL := 9) (ret := (some .int)) (by decide) rfl (Nat.le_of_ble_eq_true rfl) [(0, .ref (ad 2)), (1, .int (nI sn)), (2, .int (ac_la j))] rfl ?_
  intro p e s m below meth c ls hx hb hr hml hown hts hlocks hP hK hN hl
  have hown : s.vm.findClass RX2 = some m.cls := hown
  have ht := am_ht hts
  have hin_X2 : ∀ w ∈ u_ws RX2 TX2 4, w ∈ wsX2_bestNext := fun w h => List.mem_cons_of_mem _ (am_inX2 w h)
  have hin_X1 : ∀ w ∈ u_ws RX1 TX1 14, w ∈ wsX2_bestNext := fun w h => List.mem_cons_of_mem _ (am_inX1 w h)
  have hf_21 := ht 106 (.fieldLink RX2 21 "ApartCost$Planner" "product" "LApartCost$Product;") rfl
  have hf_56 := ht 59 (.fieldLink RX2 56 "ApartCost$Product" "acts" "I") rfl
  refine lv_aload_n hx hb dX2_bestNext_0 rfl (lv_at hl 0 rfl) ?_
  refine va_get (D := D) (ci := 2) (v := .ref (ad 1)) (C := RX2) (T := TX2) (N := 4) hx hb hts hin_X2 hown hK hP 2 rfl rfl 0 (by decide) hf_21 (fun _ h9 => h9) rfl dX2_bestNext_1 ?_
  refine lv_iload_n hx hb dX2_bestNext_4 rfl (lv_at hl 1 rfl) ?_
  refine am_callRi (W.runV (As := [.int (nI sn)]) (rest := []) ⟨hx, hb, hml, hown, hts⟩ (c_X1_nextsOf l D ad cI cL fi fl ai al (nI sn) na hna hnl) (cwV 1 hts (am_gV (am_in 309 rfl) (am_in 310 rfl) (am_in 311 rfl) (am_in 30 rfl) (am_in 312 rfl)) rfl rfl rfl (by decide +kernel) ⟨Nat.le_of_ble_eq_true rfl, Nat.le_of_ble_eq_true rfl⟩) (am_preVR 1 1 rfl rfl rfl hP hK hN) rfl rfl hl.1 rfl (lv_room (Nat.le_of_ble_eq_true rfl)) dX2_bestNext_5 ⟨Nat.zero_le _, Nat.zero_le _⟩) ?_
  refine lv_istore_n (lv' := [(3, .int (ac_nexts (ai 9) (nI sn) na)), (0, .ref (ad 2)), (1, .int (nI sn)), (2, .int (ac_la j))]) hx hb dX2_bestNext_8 rfl hl (by decide) rfl (fun ls hl => ?_)
  refine lv_aload_n hx hb dX2_bestNext_9 rfl (lv_at hl 1 rfl) ?_
  refine lv_iload_n hx hb dX2_bestNext_10 rfl (lv_at hl 2 rfl) ?_
  refine am_callRl (W.runV (As := [.int (nI sn)]) (rest := []) ⟨hx, hb, hml, hown, hts⟩ (c_X2_endOf l D ad cI cL fi fl ai al (nI sn) na nr hna hnl hnr hnrl) (cwV 1 hts (am_gV (am_in 313 rfl) (am_in 314 rfl) (am_in 4 rfl) (am_in 32 rfl) (am_in 315 rfl)) rfl rfl rfl (by decide +kernel) ⟨Nat.le_of_ble_eq_true rfl, Nat.le_of_ble_eq_true rfl⟩) (am_preVR 2 2 rfl rfl rfl hP hK hN) rfl rfl hl.1 rfl (lv_room (Nat.le_of_ble_eq_true rfl)) dX2_bestNext_11 ⟨Nat.zero_le _, Nat.zero_le _⟩) ?_
  refine lv_lstore (lv' := [(4, .long (ac_end (ai 5) (ai 14) (al 15) (al 16) (fi 1) na nr (nI sn))), (3, .int (ac_nexts (ai 9) (nI sn) na)), (0, .ref (ad 2)), (1, .int (nI sn)), (2, .int (ac_la j))]) hx hb dX2_bestNext_14 hl (by decide) rfl (fun ls hl => ?_)
  refine lv_aload_n hx hb dX2_bestNext_16 rfl (lv_at hl 2 rfl) ?_
  refine lv_iload_n hx hb dX2_bestNext_17 rfl (lv_at hl 4 rfl) ?_
  refine lv_iload_n hx hb dX2_bestNext_18 rfl (lv_at hl 3 rfl) ?_
  refine lv_iload_n hx hb dX2_bestNext_19 rfl (lv_at hl 1 rfl) ?_
  refine lv_lload hx hb dX2_bestNext_20 (lv_at hl 0 rfl) ?_
  refine am_callRl (W.runV (As := [.int (ac_la j), .int (nI sn), .int (ac_nexts (ai 9) (nI sn) na), .long (ac_end (ai 5) (ai 14) (al 15) (al 16) (fi 1) na nr (nI sn))]) (rest := []) ⟨hx, hb, hml, hown, hts⟩ (c_X2_mostFrom l D ad cI cL fi fl ai al j sn (ac_nexts (ai 9) (nI sn) na) (ac_end (ai 5) (ai 14) (al 15) (al 16) (fi 1) na nr (nI sn)) na hna hnl hj hsn) (cwV 4 hts (am_gV (am_in 329 rfl) (am_in 330 rfl) (am_in 5 rfl) (am_in 32 rfl) (am_in 331 rfl)) rfl rfl rfl (by decide +kernel) ⟨Nat.le_of_ble_eq_true rfl, Nat.le_of_ble_eq_true rfl⟩) (am_preVR 2 2 rfl rfl rfl hP hK hN) rfl rfl hl.1 rfl (lv_room (Nat.le_of_ble_eq_true rfl)) dX2_bestNext_22 ⟨Nat.zero_le _, Nat.zero_le _⟩) ?_
  refine lv_lstore (lv' := [(6, .long (ac_mfrom (al 18) (al 17) j sn (ac_nexts (ai 9) (nI sn) na) (ac_end (ai 5) (ai 14) (al 15) (al 16) (fi 1) na nr (nI sn)) na)), (4, .long (ac_end (ai 5) (ai 14) (al 15) (al 16) (fi 1) na nr (nI sn))), (3, .int (ac_nexts (ai 9) (nI sn) na)), (0, .ref (ad 2)), (1, .int (nI sn)), (2, .int (ac_la j))]) hx hb dX2_bestNext_25 hl (by decide) rfl (fun ls hl => ?_)
  refine lv_lload hx hb dX2_bestNext_27 (lv_at hl 0 rfl) ?_
  refine lv_lload hx hb dX2_bestNext_29 (lv_at hl 1 rfl) ?_
  refine W.lcmp hx hb dX2_bestNext_31 ?_
  refine lv_if_ne (tgt := 37) hx hb dX2_bestNext_32 (by decide) (fun c_32 => ?_) (fun c_32 => ?_)
  · skip
    have c_32 : ¬ (ac_mfrom (al 18) (al 17) j sn (ac_nexts (ai 9) (nI sn) na) (ac_end (ai 5) (ai 14) (al 15) (al 16) (fi 1) na nr (nI sn)) na) = (ac_end (ai 5) (ai 14) (al 15) (al 16) (fi 1) na nr (nI sn)) := (fun z => c_32 ((lg_cmp_eq _ _).mpr z))
    refine lv_iconst (v := 0) hx hb dX2_bestNext_37 (by decide) ?_
    refine lv_istore (lv' := [(8, .int 0), (6, .long (ac_mfrom (al 18) (al 17) j sn (ac_nexts (ai 9) (nI sn) na) (ac_end (ai 5) (ai 14) (al 15) (al 16) (fi 1) na nr (nI sn)) na)), (4, .long (ac_end (ai 5) (ai 14) (al 15) (al 16) (fi 1) na nr (nI sn))), (3, .int (ac_nexts (ai 9) (nI sn) na)), (0, .ref (ad 2)), (1, .int (nI sn)), (2, .int (ac_la j))]) hx hb dX2_bestNext_38 hl (by decide) rfl (fun ls hl => ?_)
    refine am_loopR (σ := Nat) (fun q n9 ls => n9 = na - q ∧ q ≤ na ∧ ac_bnl (al 18) (al 17) j sn (ac_nexts (ai 9) (nI sn) na) (ac_mfrom (al 18) (al 17) j sn (ac_nexts (ai 9) (nI sn) na) (ac_end (ai 5) (ai 14) (al 15) (al 16) (fi 1) na nr (nI sn)) na) na 0 = ac_bnl (al 18) (al 17) j sn (ac_nexts (ai 9) (nI sn) na) (ac_mfrom (al 18) (al 17) j sn (ac_nexts (ai 9) (nI sn) na) (ac_end (ai 5) (ai 14) (al 15) (al 16) (fi 1) na nr (nI sn)) na) (na - q) q ∧ lv_has ls 9 [(0, .ref (ad 2)), (1, .int (nI sn)), (2, .int (ac_la j)), (3, .int (ac_nexts (ai 9) (nI sn) na)), (4, .long (ac_end (ai 5) (ai 14) (al 15) (al 16) (fi 1) na nr (nI sn))), (6, .long (ac_mfrom (al 18) (al 17) j sn (ac_nexts (ai 9) (nI sn) na) (ac_end (ai 5) (ai 14) (al 15) (al 16) (fi 1) na nr (nI sn)) na)), (8, .int (nI q))]) ?_ 0 (na - 0) ls ⟨rfl, (by omega), rfl, lv_sub hl [4, 5, 6, 3, 2, 1, 0] rfl⟩
    rintro k n9 ls ⟨hn_40, hk, hm, hl⟩ ih_40
    refine lv_iload hx hb dX2_bestNext_40 (lv_at hl 6 rfl) ?_
    refine lv_aload_n hx hb dX2_bestNext_42 rfl (lv_at hl 0 rfl) ?_
    refine va_get (D := D) (ci := 2) (v := .ref (ad 1)) (C := RX2) (T := TX2) (N := 4) hx hb hts hin_X2 hown hK hP 2 rfl rfl 0 (by decide) hf_21 (fun _ h9 => h9) rfl dX2_bestNext_43 ?_
    refine va_get (D := D) (ci := 1) (v := .int (fi 0)) (C := RX1) (T := TX1) (N := 14) hx hb hts hin_X1 hown hK hP 1 rfl rfl 0 (by decide) hf_56 (fun _ h9 => h9) rfl dX2_bestNext_46 ?_
    refine lv_icmp_ge (tgt := 84) hx hb dX2_bestNext_49 (by decide) (fun c_49 => ?_) (fun c_49 => ?_)
    · skip
      have hke_49 : na ≤ k := (am_ge hna (by omega) (by omega)).mp c_49
      have hkq_49 : na = k := by omega
      subst hkq_49
      refine lv_iconst (v := (-1)) hx hb dX2_bestNext_84 (by decide) ?_
      exact am_iretR hx hb hr hlocks (by rw [ac_bn, if_neg c_32, hm, Nat.sub_self, ac_bnl]; rfl) dX2_bestNext_85
    · skip
      have hkl_49 : k < na := Nat.lt_of_not_le (fun z => c_49 ((am_ge hna (by omega) (by omega)).mpr z))
      refine lv_iload_n hx hb dX2_bestNext_52 rfl (lv_at hl 3 rfl) ?_
      refine lv_iload hx hb dX2_bestNext_53 (lv_at hl 6 rfl) ?_
      refine am_callRi (va_Run.run (va_runSN (As := [.int (ac_nexts (ai 9) (nI sn) na), .int (nI k)]) (rest := []) ⟨hx, hb, hml, hown, hts⟩ (c_X0_has l D _ _ (ac_nexts (ai 9) (nI sn) na) (nI k)) ⟨va_cnB 2 hts (am_gN (am_in 206 rfl)) rfl rfl rfl (am_nw_at hN 2 rfl) (ht 29 _ rfl) (by decide +kernel) ⟨Nat.le_of_ble_eq_true rfl, Nat.le_of_ble_eq_true rfl⟩, (ht 205 _ rfl), trivial⟩ (am_preSR hP hK hN) rfl rfl hl.1 rfl (lv_room (Nat.le_of_ble_eq_true rfl)) dX2_bestNext_55 ⟨Nat.zero_le _, Nat.zero_le _⟩)) ?_
      refine lv_if_eq (tgt := 78) hx hb dX2_bestNext_58 (by decide) (fun c_58 => ?_) (fun c_58 => ?_)
      · skip
        refine lv_iinc (v := nI (k + 1)) (lv' := [(8, .int (nI (k + 1))), (0, .ref (ad 2)), (1, .int (nI sn)), (2, .int (ac_la j)), (3, .int (ac_nexts (ai 9) (nI sn) na)), (4, .long (ac_end (ai 5) (ai 14) (al 15) (al 16) (fi 1) na nr (nI sn))), (6, .long (ac_mfrom (al 18) (al 17) j sn (ac_nexts (ai 9) (nI sn) na) (ac_end (ai 5) (ai 14) (al 15) (al 16) (fi 1) na nr (nI sn)) na))]) hx hb dX2_bestNext_78 hl (k := 6) rfl (nI_1 k) (by decide) rfl (fun ls hl => ?_)
        refine lv_goto (tgt := 40) hx hb dX2_bestNext_81 (by decide) ?_
        refine ih_40 (k + 1) (na - (k + 1)) ls (by omega) ⟨rfl, (by omega), (by rw [hm, show na - k = (na - (k + 1)) + 1 by omega, ac_bnl]; simp [c_49, c_58]), ?_⟩
        exact lv_sub hl [1, 2, 3, 4, 5, 6, 0] rfl
      · skip
        refine lv_aload_n hx hb dX2_bestNext_61 rfl (lv_at hl 0 rfl) ?_
        refine lv_iload_n hx hb dX2_bestNext_62 rfl (lv_at hl 2 rfl) ?_
        refine lv_iload_n hx hb dX2_bestNext_63 rfl (lv_at hl 1 rfl) ?_
        refine lv_iload hx hb dX2_bestNext_64 (lv_at hl 6 rfl) ?_
        refine am_callRl (W.runV (As := [.int (ac_la j), .int (nI sn), .int (nI k)]) (rest := []) ⟨hx, hb, hml, hown, hts⟩ (c_X2_mostBy l D ad cI cL fi fl ai al j sn k hj hsn (by omega)) (cwV 3 hts (am_gV (am_in 332 rfl) (am_in 333 rfl) (am_in 6 rfl) (am_in 32 rfl) (am_in 334 rfl)) rfl rfl rfl (by decide +kernel) ⟨Nat.le_of_ble_eq_true rfl, Nat.le_of_ble_eq_true rfl⟩) (am_preVR 2 2 rfl rfl rfl hP hK hN) rfl rfl hl.1 rfl (lv_room (Nat.le_of_ble_eq_true rfl)) dX2_bestNext_66 ⟨Nat.zero_le _, Nat.zero_le _⟩) ?_
        refine lv_lload hx hb dX2_bestNext_69 (lv_at hl 5 rfl) ?_
        refine W.lcmp hx hb dX2_bestNext_71 ?_
        refine lv_if_ne (tgt := 78) hx hb dX2_bestNext_72 (by decide) (fun c_72 => ?_) (fun c_72 => ?_)
        · skip
          have c_72 : ¬ (ac_mby (al 18) (al 17) j sn k) = (ac_mfrom (al 18) (al 17) j sn (ac_nexts (ai 9) (nI sn) na) (ac_end (ai 5) (ai 14) (al 15) (al 16) (fi 1) na nr (nI sn)) na) := (fun z => c_72 ((lg_cmp_eq _ _).mpr z))
          refine lv_iinc (v := nI (k + 1)) (lv' := [(8, .int (nI (k + 1))), (0, .ref (ad 2)), (1, .int (nI sn)), (2, .int (ac_la j)), (3, .int (ac_nexts (ai 9) (nI sn) na)), (4, .long (ac_end (ai 5) (ai 14) (al 15) (al 16) (fi 1) na nr (nI sn))), (6, .long (ac_mfrom (al 18) (al 17) j sn (ac_nexts (ai 9) (nI sn) na) (ac_end (ai 5) (ai 14) (al 15) (al 16) (fi 1) na nr (nI sn)) na))]) hx hb dX2_bestNext_78 hl (k := 6) rfl (nI_1 k) (by decide) rfl (fun ls hl => ?_)
          refine lv_goto (tgt := 40) hx hb dX2_bestNext_81 (by decide) ?_
          refine ih_40 (k + 1) (na - (k + 1)) ls (by omega) ⟨rfl, (by omega), (by rw [hm, show na - k = (na - (k + 1)) + 1 by omega, ac_bnl]; simp [c_49, c_58, c_72]), ?_⟩
          exact lv_sub hl [1, 2, 3, 4, 5, 6, 0] rfl
        · skip
          have c_72 : (ac_mby (al 18) (al 17) j sn k) = (ac_mfrom (al 18) (al 17) j sn (ac_nexts (ai 9) (nI sn) na) (ac_end (ai 5) (ai 14) (al 15) (al 16) (fi 1) na nr (nI sn)) na) := (lg_cmp_eq _ _).mp c_72
          refine lv_iload hx hb dX2_bestNext_75 (lv_at hl 6 rfl) ?_
          exact am_iretR hx hb hr hlocks (by rw [ac_bn, if_neg c_32, hm, show na - k = (na - (k + 1)) + 1 by omega, ac_bnl, if_neg c_58, if_pos c_72]; rfl) dX2_bestNext_77
  · skip
    have c_32 : (ac_mfrom (al 18) (al 17) j sn (ac_nexts (ai 9) (nI sn) na) (ac_end (ai 5) (ai 14) (al 15) (al 16) (fi 1) na nr (nI sn)) na) = (ac_end (ai 5) (ai 14) (al 15) (al 16) (fi 1) na nr (nI sn)) := (lg_cmp_eq _ _).mp c_32
    refine lv_iconst (v := (-1)) hx hb dX2_bestNext_35 (by decide) ?_
    exact am_iretR hx hb hr hlocks (by rw [ac_bn, if_pos c_32]; rfl) dX2_bestNext_36
end
section
set_option maxHeartbeats 4000000 in
set_option maxRecDepth 100000 in
theorem c_X1_addAct (l : Launch) (D : va_G) (ad : Nat → Nat) (cI cL : ClassId) (fi : Nat → Int32) (fl : Nat → Int64) (ai : Nat → Nat → Int32) (al : Nat → Nat → Int64) (A : Nat → Prop) (x : Int32) (t : Int32) (d : Int32) (z : Int64) (na : Nat) (hna : fi 0 = nI na) (hlt : na < 10) : Met l yX1_addAct wsX1_addAct (am_rm 0 0) (va_Pc [.ref (ad 1), .int x, .int t, .int d, .long z] (am_M nwL vwCl D A (ac_w ad cI cL fi fl ai al) [(cI, .int), (cL, .long)])) (am_Mi vwCl D (fi 0) (ac_w ad cI cL (upd fi 0 ((fi 0) + 1)) fl (va_up (va_up (va_up ai 5 (upd (ai 5) na x)) 6 (upd (ai 6) na t)) 7 (upd (ai 7) na d)) (va_up al 8 (vp_updL (al 8) na z))) A) 0 0 A := by
  refine am_startM (cc := cX1_addAct) (maxL := 7) (ret := (some .int)) (by decide) rfl (Nat.le_of_ble_eq_true rfl) [(0, .ref (ad 1)), (1, .int x), (2, .int t), (3, .int d), (4, .long z)] rfl ?_
  intro p e s m below meth c ls hx hb hr hml hown hts hlocks hK hN hD H locs hP hS hl
  have hown : s.vm.findClass RX1 = some m.cls := hown
  have ht := am_ht hts
  have hin_X1 : ∀ w ∈ u_ws RX1 TX1 14, w ∈ wsX1_addAct := fun w h => List.mem_cons_of_mem _ (am_inX1 w h)
  have hf_15 := ht 61 (.fieldLink RX1 15 "ApartCost$Product" "tools" "[I") rfl
  have hf_18 := ht 62 (.fieldLink RX1 18 "ApartCost$Product" "sides" "[I") rfl
  have hf_21 := ht 63 (.fieldLink RX1 21 "ApartCost$Product" "cents" "[J") rfl
  have hf_54 := ht 56 (.fieldLink RX1 54 "ApartCost$Product" "acts" "I") rfl
  have hf_9 := ht 60 (.fieldLink RX1 9 "ApartCost$Product" "frees" "[I") rfl
  refine lv_aload_n hx hb dX1_addAct_0 rfl (lv_at hl 0 rfl) ?_
  refine va_get (D := D) (ci := 1) (v := .int (fi 0)) (C := RX1) (T := TX1) (N := 14) hx hb hts hin_X1 hown hK hP 1 rfl rfl 0 (by decide) hf_54 (fun _ h9 => h9) rfl dX1_addAct_1 ?_
  refine lv_istore (lv' := [(6, .int (fi 0)), (0, .ref (ad 1)), (1, .int x), (2, .int t), (3, .int d), (4, .long z)]) hx hb dX1_addAct_4 hl (by decide) rfl (fun ls hl => ?_)
  refine lv_aload_n hx hb dX1_addAct_6 rfl (lv_at hl 1 rfl) ?_
  refine va_get (D := D) (ci := 1) (v := .ref (ad 5)) (C := RX1) (T := TX1) (N := 14) hx hb hts hin_X1 hown hK hP 1 rfl rfl 1 (by decide) hf_9 (fun _ h9 => h9) rfl dX1_addAct_7 ?_
  refine lv_iload hx hb dX1_addAct_10 (lv_at hl 0 rfl) ?_
  refine lv_iload_n hx hb dX1_addAct_12 rfl (lv_at hl 2 rfl) ?_
  refine am_iast hx hb hK hP hD hS 5 0 rfl rfl na hna (by omega) (by decide) (ac_w ad cI cL fi fl (va_up ai 5 (upd (ai 5) na x)) al) rfl dX1_addAct_13 (fun H locs hP hD hS => ?_)
  refine lv_aload_n hx hb dX1_addAct_14 rfl (lv_at hl 1 rfl) ?_
  refine va_get (D := D) (ci := 1) (v := .ref (ad 6)) (C := RX1) (T := TX1) (N := 14) hx hb hts hin_X1 hown hK hP 1 rfl rfl 2 (by decide) hf_15 (fun _ h9 => h9) rfl dX1_addAct_15 ?_
  refine lv_iload hx hb dX1_addAct_18 (lv_at hl 0 rfl) ?_
  refine lv_iload_n hx hb dX1_addAct_20 rfl (lv_at hl 3 rfl) ?_
  refine am_iast hx hb hK hP hD hS 6 0 rfl rfl na hna (by omega) (by decide) (ac_w ad cI cL fi fl (va_up (va_up ai 5 (upd (ai 5) na x)) 6 (upd (ai 6) na t)) al) rfl dX1_addAct_21 (fun H locs hP hD hS => ?_)
  refine lv_aload_n hx hb dX1_addAct_22 rfl (lv_at hl 1 rfl) ?_
  refine va_get (D := D) (ci := 1) (v := .ref (ad 7)) (C := RX1) (T := TX1) (N := 14) hx hb hts hin_X1 hown hK hP 1 rfl rfl 3 (by decide) hf_18 (fun _ h9 => h9) rfl dX1_addAct_23 ?_
  refine lv_iload hx hb dX1_addAct_26 (lv_at hl 0 rfl) ?_
  refine lv_iload_n hx hb dX1_addAct_28 rfl (lv_at hl 4 rfl) ?_
  refine am_iast hx hb hK hP hD hS 7 0 rfl rfl na hna (by omega) (by decide) (ac_w ad cI cL fi fl (va_up (va_up (va_up ai 5 (upd (ai 5) na x)) 6 (upd (ai 6) na t)) 7 (upd (ai 7) na d)) al) rfl dX1_addAct_29 (fun H locs hP hD hS => ?_)
  refine lv_aload_n hx hb dX1_addAct_30 rfl (lv_at hl 1 rfl) ?_
  refine va_get (D := D) (ci := 1) (v := .ref (ad 8)) (C := RX1) (T := TX1) (N := 14) hx hb hts hin_X1 hown hK hP 1 rfl rfl 4 (by decide) hf_21 (fun _ h9 => h9) rfl dX1_addAct_31 ?_
  refine lv_iload hx hb dX1_addAct_34 (lv_at hl 0 rfl) ?_
  refine lv_lload hx hb dX1_addAct_36 (lv_at hl 5 rfl) ?_
  refine am_last hx hb hK hP hD hS 8 1 rfl rfl na hna (by omega) (by decide) (ac_w ad cI cL fi fl (va_up (va_up (va_up ai 5 (upd (ai 5) na x)) 6 (upd (ai 6) na t)) 7 (upd (ai 7) na d)) (va_up al 8 (vp_updL (al 8) na z))) rfl dX1_addAct_38 (fun H locs hP hD hS => ?_)
  refine lv_aload_n hx hb dX1_addAct_39 rfl (lv_at hl 1 rfl) ?_
  refine lv_dup hx hb dX1_addAct_40 rfl ?_
  refine va_get (D := D) (ci := 1) (v := .int (fi 0)) (C := RX1) (T := TX1) (N := 14) hx hb hts hin_X1 hown hK hP 1 rfl rfl 0 (by decide) hf_54 (fun _ h9 => h9) rfl dX1_addAct_41 ?_
  refine lv_iconst (v := 1) hx hb dX1_addAct_44 (by decide) ?_
  refine lv_iadd hx hb dX1_addAct_45 ?_
  refine va_put (D := D) (ci := 1) (v := .int ((fi 0) + 1)) (ty := .int) (C := RX1) (T := TX1) (N := 14) hx hb hts hin_X1 tyX1 tyX1_ok nmX1 hown hK hP hD hS 1 rfl rfl 0 (by decide) hf_54 (fun _ h9 => h9) rfl (by decide +kernel) rfl rfl (Nat.le_of_ble_eq_true rfl) dX1_addAct_46 (fun H locs hP hD hS => ?_)
  have hP : va_P D vwCl (ac_w ad cI cL (upd fi 0 ((fi 0) + 1)) fl (va_up (va_up (va_up ai 5 (upd (ai 5) na x)) 6 (upd (ai 6) na t)) 7 (upd (ai 7) na d)) (va_up al 8 (vp_updL (al 8) na z))) H := hP
  have hD : va_D A (ac_w ad cI cL (upd fi 0 ((fi 0) + 1)) fl (va_up (va_up (va_up ai 5 (upd (ai 5) na x)) 6 (upd (ai 6) na t)) 7 (upd (ai 7) na d)) (va_up al 8 (vp_updL (al 8) na z))) := am_D hD rfl
  refine lv_iload hx hb dX1_addAct_49 (lv_at hl 0 rfl) ?_
  exact am_iretM hx hb hr hlocks hP hS (by rfl) dX1_addAct_51

set_option maxHeartbeats 4000000 in
set_option maxRecDepth 100000 in
theorem c_X1_addNeed (l : Launch) (D : va_G) (ad : Nat → Nat) (cI cL : ClassId) (fi : Nat → Int32) (fl : Nat → Int64) (ai : Nat → Nat → Int32) (al : Nat → Nat → Int64) (A : Nat → Prop) (a : Nat) (b : Nat) (na : Nat) (hna : fi 0 = nI na) (hnl : na ≤ 10) (ha : a < na) (hb2 : b < na) : Met l yX1_addNeed wsX1_addNeed (am_rm 1 21) (va_Pc [.ref (ad 1), .int (nI a), .int (nI b)] (am_M nwL vwCl D A (ac_w ad cI cL fi fl ai al) [(cI, .int), (cL, .long)])) (am_Mv vwCl D (ac_w ad cI cL fi fl (va_up ai 9 (ac_addNeed ((ai 9) a ||| ((1 : Int32) <<< (nI a &&& 31))) (nI b) (ai 9) na)) al) A) 0 0 A := by
  refine am_startM (cc := cX1_addNeed) (maxL := 5) (ret := none) (by decide) rfl (Nat.le_of_ble_eq_true rfl) [(0, .ref (ad 1)), (1, .int (nI a)), (2, .int (nI b))] rfl ?_
  intro p e s m below meth c ls hx hb hr hml hown hts hlocks hK hN hD H locs hP hS hl
  have hown : s.vm.findClass RX1 = some m.cls := hown
  have ht := am_ht hts
  have hin_X1 : ∀ w ∈ u_ws RX1 TX1 14, w ∈ wsX1_addNeed := fun w h => List.mem_cons_of_mem _ (am_inX1 w h)
  have hf_25 := ht 65 (.fieldLink RX1 25 "ApartCost$Product" "needs" "[I") rfl
  have hf_54 := ht 56 (.fieldLink RX1 54 "ApartCost$Product" "acts" "I") rfl
  refine lv_aload_n hx hb dX1_addNeed_0 rfl (lv_at hl 0 rfl) ?_
  refine va_get (D := D) (ci := 1) (v := .ref (ad 9)) (C := RX1) (T := TX1) (N := 14) hx hb hts hin_X1 hown hK hP 1 rfl rfl 5 (by decide) hf_25 (fun _ h9 => h9) rfl dX1_addNeed_1 ?_
  refine lv_iload_n hx hb dX1_addNeed_4 rfl (lv_at hl 1 rfl) ?_
  refine am_iald hx hb hK hP 9 0 rfl rfl a rfl (by omega) (by decide) dX1_addNeed_5 ?_
  refine lv_iconst (v := 1) hx hb dX1_addNeed_6 (by decide) ?_
  refine lv_iload_n hx hb dX1_addNeed_7 rfl (lv_at hl 1 rfl) ?_
  refine lv_ishl hx hb dX1_addNeed_8 ?_
  refine lv_ior hx hb dX1_addNeed_9 ?_
  refine lv_istore_n (lv' := [(3, .int (((ai 9) a) ||| ((1 : Int32) <<< ((nI a) &&& 31)))), (0, .ref (ad 1)), (1, .int (nI a)), (2, .int (nI b))]) hx hb dX1_addNeed_10 rfl hl (by decide) rfl (fun ls hl => ?_)
  refine lv_iconst (v := 0) hx hb dX1_addNeed_11 (by decide) ?_
  refine lv_istore (lv' := [(4, .int 0), (3, .int (((ai 9) a) ||| ((1 : Int32) <<< ((nI a) &&& 31)))), (0, .ref (ad 1)), (1, .int (nI a)), (2, .int (nI b))]) hx hb dX1_addNeed_12 hl (by decide) rfl (fun ls hl => ?_)
  refine am_loop (σ := Nat) (fun q n9 H locs ls => n9 = na - q ∧ q ≤ na ∧ va_P D vwCl (ac_w ad cI cL fi fl (va_up ai 9 (ac_addNeed ((ai 9) a ||| ((1 : Int32) <<< (nI a &&& 31))) (nI b) (ai 9) q)) al) H ∧ va_S A s.heap H locs ∧ lv_has ls 5 [(0, .ref (ad 1)), (1, .int (nI a)), (2, .int (nI b)), (3, .int (((ai 9) a) ||| ((1 : Int32) <<< ((nI a) &&& 31)))), (4, .int (nI q))]) ?_ 0 (na - 0) H locs ls ⟨rfl, (by omega), hP, hS, lv_sub hl [2, 3, 4, 1, 0] rfl⟩
  rintro k n9 H locs ls ⟨hn_14, hk, hP, hS, hl⟩ ih_14
  have hD : va_D A (ac_w ad cI cL fi fl (va_up ai 9 (ac_addNeed ((ai 9) a ||| ((1 : Int32) <<< (nI a &&& 31))) (nI b) (ai 9) k)) al) := am_D hD rfl
  refine lv_iload hx hb dX1_addNeed_14 (lv_at hl 4 rfl) ?_
  refine lv_aload_n hx hb dX1_addNeed_16 rfl (lv_at hl 0 rfl) ?_
  refine va_get (D := D) (ci := 1) (v := .int (fi 0)) (C := RX1) (T := TX1) (N := 14) hx hb hts hin_X1 hown hK hP 1 rfl rfl 0 (by decide) hf_54 (fun _ h9 => h9) rfl dX1_addNeed_17 ?_
  refine lv_icmp_ge (tgt := 60) hx hb dX1_addNeed_20 (by decide) (fun c_20 => ?_) (fun c_20 => ?_)
  · skip
    have hke_20 : na ≤ k := (am_ge hna (by omega) (by omega)).mp c_20
    have hkq_20 : na = k := by omega
    subst hkq_20
    exact am_vretM hx hb hr hlocks hP hS dX1_addNeed_60
  · skip
    have hkl_20 : k < na := Nat.lt_of_not_le (fun z => c_20 ((am_ge hna (by omega) (by omega)).mpr z))
    refine lv_iload hx hb dX1_addNeed_23 (lv_at hl 4 rfl) ?_
    refine lv_iload_n hx hb dX1_addNeed_25 rfl (lv_at hl 2 rfl) ?_
    refine lv_icmp_eq (tgt := 43) hx hb dX1_addNeed_26 (by decide) (fun c_26 => ?_) (fun c_26 => ?_)
    · skip
      refine lv_aload_n hx hb dX1_addNeed_43 rfl (lv_at hl 0 rfl) ?_
      refine va_get (D := D) (ci := 1) (v := .ref (ad 9)) (C := RX1) (T := TX1) (N := 14) hx hb hts hin_X1 hown hK hP 1 rfl rfl 5 (by decide) hf_25 (fun _ h9 => h9) rfl dX1_addNeed_44 ?_
      refine lv_iload hx hb dX1_addNeed_47 (lv_at hl 4 rfl) ?_
      refine lv_dup2_11 hx hb dX1_addNeed_49 rfl rfl ?_
      refine am_iald hx hb hK hP 9 0 rfl rfl k rfl (by omega) (by decide) dX1_addNeed_50 ?_
      refine lv_iload_n hx hb dX1_addNeed_51 rfl (lv_at hl 3 rfl) ?_
      refine lv_ior hx hb dX1_addNeed_52 ?_
      refine am_iast hx hb hK hP hD hS 9 0 rfl rfl k rfl (by omega) (by decide) (ac_w ad cI cL fi fl (va_up ai 9 (upd (ac_addNeed ((ai 9) a ||| ((1 : Int32) <<< (nI a &&& 31))) (nI b) (ai 9) k) k (((ac_addNeed ((ai 9) a ||| ((1 : Int32) <<< (nI a &&& 31))) (nI b) (ai 9) k) k) ||| (((ai 9) a) ||| ((1 : Int32) <<< ((nI a) &&& 31)))))) al) rfl dX1_addNeed_53 (fun H locs hP hD hS => ?_)
      refine lv_iinc (v := nI (k + 1)) (lv' := [(4, .int (nI (k + 1))), (0, .ref (ad 1)), (1, .int (nI a)), (2, .int (nI b)), (3, .int (((ai 9) a) ||| ((1 : Int32) <<< ((nI a) &&& 31))))]) hx hb dX1_addNeed_54 hl (k := 4) rfl (nI_1 k) (by decide) rfl (fun ls hl => ?_)
      refine lv_goto (tgt := 14) hx hb dX1_addNeed_57 (by decide) ?_
      have e_14_0 : (ac_addNeed ((ai 9) a ||| ((1 : Int32) <<< (nI a &&& 31))) (nI b) (ai 9) (k + 1)) = (upd (ac_addNeed ((ai 9) a ||| ((1 : Int32) <<< (nI a &&& 31))) (nI b) (ai 9) k) k (((ac_addNeed ((ai 9) a ||| ((1 : Int32) <<< (nI a &&& 31))) (nI b) (ai 9) k) k) ||| (((ai 9) a) ||| ((1 : Int32) <<< ((nI a) &&& 31))))) := by first | rfl | (simp only [ac_addNeed, c_20, c_26, if_true, if_false, eq_self, not_true_eq_false, not_false_eq_true, ite_true, ite_false, ↓reduceIte]; done) | (simp [ac_addNeed, c_20, c_26]; done)
      refine ih_14 (k + 1) (na - (k + 1)) H locs ls (by omega) ⟨rfl, (by omega), ?_, hS, ?_⟩
      · (try dsimp only); (try rw [e_14_0]); exact hP
      · (try dsimp only); (try rw [e_14_0]); exact lv_sub hl [1, 2, 3, 4, 0] rfl
    · skip
      refine lv_aload_n hx hb dX1_addNeed_29 rfl (lv_at hl 0 rfl) ?_
      refine va_get (D := D) (ci := 1) (v := .ref (ad 9)) (C := RX1) (T := TX1) (N := 14) hx hb hts hin_X1 hown hK hP 1 rfl rfl 5 (by decide) hf_25 (fun _ h9 => h9) rfl dX1_addNeed_30 ?_
      refine lv_iload hx hb dX1_addNeed_33 (lv_at hl 4 rfl) ?_
      refine am_iald hx hb hK hP 9 0 rfl rfl k rfl (by omega) (by decide) dX1_addNeed_35 ?_
      refine lv_iload_n hx hb dX1_addNeed_36 rfl (lv_at hl 2 rfl) ?_
      refine am_callRi (va_Run.run (va_runSN (As := [.int ((ac_addNeed ((ai 9) a ||| ((1 : Int32) <<< (nI a &&& 31))) (nI b) (ai 9) k) k), .int (nI b)]) (rest := []) ⟨hx, hb, hml, hown, hts⟩ (c_X0_has l D _ _ ((ac_addNeed ((ai 9) a ||| ((1 : Int32) <<< (nI a &&& 31))) (nI b) (ai 9) k) k) (nI b)) ⟨va_cnB 2 hts (am_gN (am_in 206 rfl)) rfl rfl rfl (am_nw_at hN 1 rfl) (ht 29 _ rfl) (by decide +kernel) ⟨Nat.le_of_ble_eq_true rfl, Nat.le_of_ble_eq_true rfl⟩, (ht 205 _ rfl), trivial⟩ (am_preSR hP hK hN) rfl rfl hl.1 rfl (lv_room (Nat.le_of_ble_eq_true rfl)) dX1_addNeed_37 ⟨Nat.zero_le _, Nat.zero_le _⟩)) ?_
      refine lv_if_eq (tgt := 54) hx hb dX1_addNeed_40 (by decide) (fun c_40 => ?_) (fun c_40 => ?_)
      · skip
        refine lv_iinc (v := nI (k + 1)) (lv' := [(4, .int (nI (k + 1))), (0, .ref (ad 1)), (1, .int (nI a)), (2, .int (nI b)), (3, .int (((ai 9) a) ||| ((1 : Int32) <<< ((nI a) &&& 31))))]) hx hb dX1_addNeed_54 hl (k := 4) rfl (nI_1 k) (by decide) rfl (fun ls hl => ?_)
        refine lv_goto (tgt := 14) hx hb dX1_addNeed_57 (by decide) ?_
        have e_14_0 : (ac_addNeed ((ai 9) a ||| ((1 : Int32) <<< (nI a &&& 31))) (nI b) (ai 9) (k + 1)) = (ac_addNeed ((ai 9) a ||| ((1 : Int32) <<< (nI a &&& 31))) (nI b) (ai 9) k) := by first | rfl | (simp only [ac_addNeed, c_20, c_26, c_40, if_true, if_false, eq_self, not_true_eq_false, not_false_eq_true, ite_true, ite_false, ↓reduceIte]; done) | (simp [ac_addNeed, c_20, c_26, c_40]; done)
        refine ih_14 (k + 1) (na - (k + 1)) H locs ls (by omega) ⟨rfl, (by omega), ?_, hS, ?_⟩
        · (try dsimp only); (try rw [e_14_0]); exact hP
        · (try dsimp only); (try rw [e_14_0]); exact lv_sub hl [1, 2, 3, 4, 0] rfl
      · skip
        refine lv_aload_n hx hb dX1_addNeed_43 rfl (lv_at hl 0 rfl) ?_
        refine va_get (D := D) (ci := 1) (v := .ref (ad 9)) (C := RX1) (T := TX1) (N := 14) hx hb hts hin_X1 hown hK hP 1 rfl rfl 5 (by decide) hf_25 (fun _ h9 => h9) rfl dX1_addNeed_44 ?_
        refine lv_iload hx hb dX1_addNeed_47 (lv_at hl 4 rfl) ?_
        refine lv_dup2_11 hx hb dX1_addNeed_49 rfl rfl ?_
        refine am_iald hx hb hK hP 9 0 rfl rfl k rfl (by omega) (by decide) dX1_addNeed_50 ?_
        refine lv_iload_n hx hb dX1_addNeed_51 rfl (lv_at hl 3 rfl) ?_
        refine lv_ior hx hb dX1_addNeed_52 ?_
        refine am_iast hx hb hK hP hD hS 9 0 rfl rfl k rfl (by omega) (by decide) (ac_w ad cI cL fi fl (va_up ai 9 (upd (ac_addNeed ((ai 9) a ||| ((1 : Int32) <<< (nI a &&& 31))) (nI b) (ai 9) k) k (((ac_addNeed ((ai 9) a ||| ((1 : Int32) <<< (nI a &&& 31))) (nI b) (ai 9) k) k) ||| (((ai 9) a) ||| ((1 : Int32) <<< ((nI a) &&& 31)))))) al) rfl dX1_addNeed_53 (fun H locs hP hD hS => ?_)
        refine lv_iinc (v := nI (k + 1)) (lv' := [(4, .int (nI (k + 1))), (0, .ref (ad 1)), (1, .int (nI a)), (2, .int (nI b)), (3, .int (((ai 9) a) ||| ((1 : Int32) <<< ((nI a) &&& 31))))]) hx hb dX1_addNeed_54 hl (k := 4) rfl (nI_1 k) (by decide) rfl (fun ls hl => ?_)
        refine lv_goto (tgt := 14) hx hb dX1_addNeed_57 (by decide) ?_
        have e_14_0 : (ac_addNeed ((ai 9) a ||| ((1 : Int32) <<< (nI a &&& 31))) (nI b) (ai 9) (k + 1)) = (upd (ac_addNeed ((ai 9) a ||| ((1 : Int32) <<< (nI a &&& 31))) (nI b) (ai 9) k) k (((ac_addNeed ((ai 9) a ||| ((1 : Int32) <<< (nI a &&& 31))) (nI b) (ai 9) k) k) ||| (((ai 9) a) ||| ((1 : Int32) <<< ((nI a) &&& 31))))) := by first | rfl | (simp only [ac_addNeed, c_20, c_26, c_40, if_true, if_false, eq_self, not_true_eq_false, not_false_eq_true, ite_true, ite_false, ↓reduceIte]; done) | (simp [ac_addNeed, c_20, c_26, c_40]; done)
        refine ih_14 (k + 1) (na - (k + 1)) H locs ls (by omega) ⟨rfl, (by omega), ?_, hS, ?_⟩
        · (try dsimp only); (try rw [e_14_0]); exact hP
        · (try dsimp only); (try rw [e_14_0]); exact lv_sub hl [1, 2, 3, 4, 0] rfl

set_option maxHeartbeats 4000000 in
set_option maxRecDepth 100000 in
theorem c_X1_tellRest (l : Launch) (D : va_G) (ad : Nat → Nat) (cI cL : ClassId) (fi : Nat → Int32) (fl : Nat → Int64) (ai : Nat → Nat → Int32) (al : Nat → Nat → Int64) (A : Nat → Prop) (x : Int32) (z : Int64) (nr : Nat) (hnr : fi 2 = nI nr) (hnrl : nr ≤ 16) : Met l yX1_tellRest wsX1_tellRest (am_rm 1 22) (va_Pc [.ref (ad 1), .int x, .long z] (am_M nwL vwCl D A (ac_w ad cI cL fi fl ai al) [(cI, .int), (cL, .long)])) (am_Mi vwCl D (if ac_place (ai 14) x nr 0 < 16 then 1 else 0) (ac_w ad cI cL (upd fi 2 (if ac_place (ai 14) x nr 0 < 16 then (if ac_place (ai 14) x nr 0 = nr then (fi 2) + 1 else (fi 2)) else (fi 2))) fl (va_up ai 14 (if ac_place (ai 14) x nr 0 < 16 then upd (ai 14) (ac_place (ai 14) x nr 0) x else (ai 14))) (va_up al 15 (if ac_place (ai 14) x nr 0 < 16 then vp_updL (al 15) (ac_place (ai 14) x nr 0) z else (al 15)))) A) 0 0 A := by
  refine am_startM (cc := cX1_tellRest) (maxL := 5) (ret := (some .boolean)) (by decide) rfl (Nat.le_of_ble_eq_true rfl) [(0, .ref (ad 1)), (1, .int x), (2, .long z)] rfl ?_
  intro p e s m below meth c ls hx hb hr hml hown hts hlocks hK hN hD H locs hP hS hl
  have hown : s.vm.findClass RX1 = some m.cls := hown
  have ht := am_ht hts
  have hin_X1 : ∀ w ∈ u_ws RX1 TX1 14, w ∈ wsX1_tellRest := fun w h => List.mem_cons_of_mem _ (am_inX1 w h)
  have hf_40 := ht 81 (.fieldLink RX1 40 "ApartCost$Product" "restParts" "[I") rfl
  have hf_43 := ht 82 (.fieldLink RX1 43 "ApartCost$Product" "restCents" "[J") rfl
  have hf_66 := ht 79 (.fieldLink RX1 66 "ApartCost$Product" "rests" "I") rfl
  have hpb := (ac_place_le (ai 14) x nr 0).2
  refine lv_aload_n hx hb dX1_tellRest_0 rfl (lv_at hl 0 rfl) ?_
  refine lv_iload_n hx hb dX1_tellRest_1 rfl (lv_at hl 1 rfl) ?_
  refine am_callRi (W.runV (As := [.int x]) (rest := []) ⟨hx, hb, hml, hown, hts⟩ (c_X1_placeOfRest l D ad cI cL fi fl ai al x nr hnr hnrl) (cwV 1 hts (am_gV (am_in 239 rfl) (am_in 240 rfl) (am_in 0 rfl) (am_in 30 rfl) (am_in 241 rfl)) rfl rfl rfl (by decide +kernel) ⟨Nat.le_of_ble_eq_true rfl, Nat.le_of_ble_eq_true rfl⟩) (am_preVR 1 1 rfl rfl rfl hP hK hN) rfl rfl hl.1 rfl (lv_room (Nat.le_of_ble_eq_true rfl)) dX1_tellRest_2 ⟨Nat.zero_le _, Nat.zero_le _⟩) ?_
  refine lv_istore (lv' := [(4, .int (nI (ac_place (ai 14) x nr 0))), (0, .ref (ad 1)), (1, .int x), (2, .long z)]) hx hb dX1_tellRest_5 hl (by decide) rfl (fun ls hl => ?_)
  refine lv_iload hx hb dX1_tellRest_7 (lv_at hl 0 rfl) ?_
  refine lv_bipush (v := 16) hx hb dX1_tellRest_9 (by decide) ?_
  refine lv_icmp_lt (tgt := 16) hx hb dX1_tellRest_11 (by decide) (fun c_11 => ?_) (fun c_11 => ?_)
  · skip
    have hpl : ac_place (ai 14) x nr 0 < 16 := (am_lt16 (by omega)).mp c_11
    refine lv_iload hx hb dX1_tellRest_16 (lv_at hl 0 rfl) ?_
    refine lv_aload_n hx hb dX1_tellRest_18 rfl (lv_at hl 1 rfl) ?_
    refine va_get (D := D) (ci := 1) (v := .int (fi 2)) (C := RX1) (T := TX1) (N := 14) hx hb hts hin_X1 hown hK hP 1 rfl rfl 11 (by decide) hf_66 (fun _ h9 => h9) rfl dX1_tellRest_19 ?_
    refine lv_icmp_ne (tgt := 35) hx hb dX1_tellRest_22 (by decide) (fun c_22 => ?_) (fun c_22 => ?_)
    · skip
      have hpe : ¬ ac_place (ai 14) x nr 0 = nr := fun z => c_22 (by rw [hnr, z])
      refine lv_aload_n hx hb dX1_tellRest_35 rfl (lv_at hl 1 rfl) ?_
      refine va_get (D := D) (ci := 1) (v := .ref (ad 14)) (C := RX1) (T := TX1) (N := 14) hx hb hts hin_X1 hown hK hP 1 rfl rfl 12 (by decide) hf_40 (fun _ h9 => h9) rfl dX1_tellRest_36 ?_
      refine lv_iload hx hb dX1_tellRest_39 (lv_at hl 0 rfl) ?_
      refine lv_iload_n hx hb dX1_tellRest_41 rfl (lv_at hl 2 rfl) ?_
      refine am_iast hx hb hK hP hD hS 14 0 rfl rfl (ac_place (ai 14) x nr 0) rfl (by omega) (by decide) (ac_w ad cI cL fi fl (va_up ai 14 (upd (ai 14) (ac_place (ai 14) x nr 0) x)) al) rfl dX1_tellRest_42 (fun H locs hP hD hS => ?_)
      refine lv_aload_n hx hb dX1_tellRest_43 rfl (lv_at hl 1 rfl) ?_
      refine va_get (D := D) (ci := 1) (v := .ref (ad 15)) (C := RX1) (T := TX1) (N := 14) hx hb hts hin_X1 hown hK hP 1 rfl rfl 13 (by decide) hf_43 (fun _ h9 => h9) rfl dX1_tellRest_44 ?_
      refine lv_iload hx hb dX1_tellRest_47 (lv_at hl 0 rfl) ?_
      refine lv_lload_n hx hb dX1_tellRest_49 rfl (lv_at hl 3 rfl) ?_
      refine am_last hx hb hK hP hD hS 15 1 rfl rfl (ac_place (ai 14) x nr 0) rfl (by omega) (by decide) (ac_w ad cI cL fi fl (va_up ai 14 (upd (ai 14) (ac_place (ai 14) x nr 0) x)) (va_up al 15 (vp_updL (al 15) (ac_place (ai 14) x nr 0) z))) rfl dX1_tellRest_50 (fun H locs hP hD hS => ?_)
      refine lv_iconst (v := 1) hx hb dX1_tellRest_51 (by decide) ?_
      exact am_zretM hx hb hr hlocks (Or.inr rfl) (by simp only [if_pos hpl, if_neg hpe]; exact hP) hS (by rw [if_pos hpl]) dX1_tellRest_52
    · skip
      have hpe : ac_place (ai 14) x nr 0 = nr := by have h := c_22; rw [hnr, nI_eq (by omega) (by omega)] at h; exact h
      refine lv_aload_n hx hb dX1_tellRest_25 rfl (lv_at hl 1 rfl) ?_
      refine lv_dup hx hb dX1_tellRest_26 rfl ?_
      refine va_get (D := D) (ci := 1) (v := .int (fi 2)) (C := RX1) (T := TX1) (N := 14) hx hb hts hin_X1 hown hK hP 1 rfl rfl 11 (by decide) hf_66 (fun _ h9 => h9) rfl dX1_tellRest_27 ?_
      refine lv_iconst (v := 1) hx hb dX1_tellRest_30 (by decide) ?_
      refine lv_iadd hx hb dX1_tellRest_31 ?_
      refine va_put (D := D) (ci := 1) (v := .int ((fi 2) + 1)) (ty := .int) (C := RX1) (T := TX1) (N := 14) hx hb hts hin_X1 tyX1 tyX1_ok nmX1 hown hK hP hD hS 1 rfl rfl 11 (by decide) hf_66 (fun _ h9 => h9) rfl (by decide +kernel) rfl rfl (Nat.le_of_ble_eq_true rfl) dX1_tellRest_32 (fun H locs hP hD hS => ?_)
      have hP : va_P D vwCl (ac_w ad cI cL (upd fi 2 ((fi 2) + 1)) fl ai al) H := hP
      have hD : va_D A (ac_w ad cI cL (upd fi 2 ((fi 2) + 1)) fl ai al) := am_D hD rfl
      refine lv_aload_n hx hb dX1_tellRest_35 rfl (lv_at hl 1 rfl) ?_
      refine va_get (D := D) (ci := 1) (v := .ref (ad 14)) (C := RX1) (T := TX1) (N := 14) hx hb hts hin_X1 hown hK hP 1 rfl rfl 12 (by decide) hf_40 (fun _ h9 => h9) rfl dX1_tellRest_36 ?_
      refine lv_iload hx hb dX1_tellRest_39 (lv_at hl 0 rfl) ?_
      refine lv_iload_n hx hb dX1_tellRest_41 rfl (lv_at hl 2 rfl) ?_
      refine am_iast hx hb hK hP hD hS 14 0 rfl rfl (ac_place (ai 14) x nr 0) rfl (by omega) (by decide) (ac_w ad cI cL (upd fi 2 ((fi 2) + 1)) fl (va_up ai 14 (upd (ai 14) (ac_place (ai 14) x nr 0) x)) al) rfl dX1_tellRest_42 (fun H locs hP hD hS => ?_)
      refine lv_aload_n hx hb dX1_tellRest_43 rfl (lv_at hl 1 rfl) ?_
      refine va_get (D := D) (ci := 1) (v := .ref (ad 15)) (C := RX1) (T := TX1) (N := 14) hx hb hts hin_X1 hown hK hP 1 rfl rfl 13 (by decide) hf_43 (fun _ h9 => h9) rfl dX1_tellRest_44 ?_
      refine lv_iload hx hb dX1_tellRest_47 (lv_at hl 0 rfl) ?_
      refine lv_lload_n hx hb dX1_tellRest_49 rfl (lv_at hl 3 rfl) ?_
      refine am_last hx hb hK hP hD hS 15 1 rfl rfl (ac_place (ai 14) x nr 0) rfl (by omega) (by decide) (ac_w ad cI cL (upd fi 2 ((fi 2) + 1)) fl (va_up ai 14 (upd (ai 14) (ac_place (ai 14) x nr 0) x)) (va_up al 15 (vp_updL (al 15) (ac_place (ai 14) x nr 0) z))) rfl dX1_tellRest_50 (fun H locs hP hD hS => ?_)
      refine lv_iconst (v := 1) hx hb dX1_tellRest_51 (by decide) ?_
      exact am_zretM hx hb hr hlocks (Or.inr rfl) (by simp only [if_pos hpl, if_pos hpe]; exact hP) hS (by rw [if_pos hpl]) dX1_tellRest_52
  · skip
    have hpl : ¬ ac_place (ai 14) x nr 0 < 16 := fun z => c_11 ((am_lt16 (by omega)).mpr z)
    refine lv_iconst (v := 0) hx hb dX1_tellRest_14 (by decide) ?_
    exact am_zretM hx hb hr hlocks (Or.inl rfl) (by simp only [if_neg hpl]; exact hP) hS (by rw [if_neg hpl]) dX1_tellRest_15

set_option maxHeartbeats 4000000 in
set_option maxRecDepth 100000 in
theorem c_X2_valueAsTold (l : Launch) (D : va_G) (ad : Nat → Nat) (cI cL : ClassId) (fi : Nat → Int32) (fl : Nat → Int64) (ai : Nat → Nat → Int32) (al : Nat → Nat → Int64) (A : Nat → Prop) : Met l yX2_valueAsTold wsX2_valueAsTold (am_rm 1 21) (va_Pc [.ref (ad 2)] (am_M nwL vwCl D A (ac_w ad cI cL fi fl ai al) [(cI, .int), (cL, .long)])) (am_Mv vwCl D (ac_w ad cI cL fi fl ai (va_up al 16 (ac_vals (al 12) (al 13) (al 16) 12))) A) 0 0 A := by
  refine am_startM (cc := cX2_valueAsTold) (maxL := 2) (ret := none) (by decide) rfl (Nat.le_of_ble_eq_true rfl) [(0, .ref (ad 2))] rfl ?_
  intro p e s m below meth c ls hx hb hr hml hown hts hlocks hK hN hD H locs hP hS hl
  have hown : s.vm.findClass RX2 = some m.cls := hown
  have ht := am_ht hts
  have hin_X2 : ∀ w ∈ u_ws RX2 TX2 4, w ∈ wsX2_valueAsTold := fun w h => List.mem_cons_of_mem _ (am_inX2 w h)
  have hf_21 := ht 106 (.fieldLink RX2 21 "ApartCost$Planner" "product" "LApartCost$Product;") rfl
  have hf_9 := ht 108 (.fieldLink RX2 9 "ApartCost$Planner" "values" "[J") rfl
  refine lv_iconst (v := 0) hx hb dX2_valueAsTold_0 (by decide) ?_
  refine lv_istore_n (lv' := [(1, .int 0), (0, .ref (ad 2))]) hx hb dX2_valueAsTold_1 rfl hl (by decide) rfl (fun ls hl => ?_)
  refine am_loop (σ := Nat) (fun q n9 H locs ls => n9 = 12 - q ∧ q ≤ 12 ∧ va_P D vwCl (ac_w ad cI cL fi fl ai (va_up al 16 (ac_vals (al 12) (al 13) (al 16) q))) H ∧ va_S A s.heap H locs ∧ lv_has ls 2 [(0, .ref (ad 2)), (1, .int (nI q))]) ?_ 0 (12 - 0) H locs ls ⟨rfl, (by omega), hP, hS, lv_sub hl [1, 0] rfl⟩
  rintro k n9 H locs ls ⟨hn_2, hk, hP, hS, hl⟩ ih_2
  have hD : va_D A (ac_w ad cI cL fi fl ai (va_up al 16 (ac_vals (al 12) (al 13) (al 16) k))) := am_D hD rfl
  refine lv_iload_n hx hb dX2_valueAsTold_2 rfl (lv_at hl 1 rfl) ?_
  refine lv_bipush (v := 12) hx hb dX2_valueAsTold_3 (by decide) ?_
  refine lv_icmp_ge (tgt := 28) hx hb dX2_valueAsTold_5 (by decide) (fun c_5 => ?_) (fun c_5 => ?_)
  · skip
    have hke_5 : 12 ≤ k := (am_ge (rfl : (12 : Int32) = nI 12) (by decide) (by omega)).mp c_5
    have hkq_5 : k = 12 := by omega
    subst hkq_5
    exact am_vretM hx hb hr hlocks hP hS dX2_valueAsTold_28
  · skip
    have hkl_5 : k < 12 := Nat.lt_of_not_le (fun z => c_5 ((am_ge (rfl : (12 : Int32) = nI 12) (by decide) (by omega)).mpr z))
    refine lv_aload_n hx hb dX2_valueAsTold_8 rfl (lv_at hl 0 rfl) ?_
    refine va_get (D := D) (ci := 2) (v := .ref (ad 16)) (C := RX2) (T := TX2) (N := 4) hx hb hts hin_X2 hown hK hP 2 rfl rfl 1 (by decide) hf_9 (fun _ h9 => h9) rfl dX2_valueAsTold_9 ?_
    refine lv_iload_n hx hb dX2_valueAsTold_12 rfl (lv_at hl 1 rfl) ?_
    refine lv_aload_n hx hb dX2_valueAsTold_13 rfl (lv_at hl 0 rfl) ?_
    refine va_get (D := D) (ci := 2) (v := .ref (ad 1)) (C := RX2) (T := TX2) (N := 4) hx hb hts hin_X2 hown hK hP 2 rfl rfl 0 (by decide) hf_21 (fun _ h9 => h9) rfl dX2_valueAsTold_14 ?_
    refine lv_iload_n hx hb dX2_valueAsTold_17 rfl (lv_at hl 1 rfl) ?_
    refine am_callRl (W.runV (As := [.int (nI k)]) (rest := [.int (nI k), .ref (ad 16)]) ⟨hx, hb, hml, hown, hts⟩ (c_X1_valueOf l D ad cI cL fi fl ai (va_up al 16 (ac_vals (al 12) (al 13) (al 16) k)) k (by omega)) (cwV 1 hts (am_gV (am_in 285 rfl) (am_in 286 rfl) (am_in 287 rfl) (am_in 30 rfl) (am_in 288 rfl)) rfl rfl rfl (by decide +kernel) ⟨Nat.le_of_ble_eq_true rfl, Nat.le_of_ble_eq_true rfl⟩) (am_preVR 1 1 rfl rfl rfl hP hK hN) rfl rfl hl.1 rfl (lv_room (Nat.le_of_ble_eq_true rfl)) dX2_valueAsTold_18 ⟨Nat.zero_le _, Nat.zero_le _⟩) ?_
    refine am_last hx hb hK hP hD hS 16 1 rfl rfl k rfl (by omega) (by decide) (ac_w ad cI cL fi fl ai (va_up al 16 (vp_updL (ac_vals (al 12) (al 13) (al 16) k) k ((al 12) k * (al 13) k)))) rfl dX2_valueAsTold_21 (fun H locs hP hD hS => ?_)
    refine lv_iinc (v := nI (k + 1)) (lv' := [(1, .int (nI (k + 1))), (0, .ref (ad 2))]) hx hb dX2_valueAsTold_22 hl (k := 1) rfl (nI_1 k) (by decide) rfl (fun ls hl => ?_)
    refine lv_goto (tgt := 2) hx hb dX2_valueAsTold_25 (by decide) ?_
    have e_2_0 : (ac_vals (al 12) (al 13) (al 16) (k + 1)) = (vp_updL (ac_vals (al 12) (al 13) (al 16) k) k ((al 12) k * (al 13) k)) := by first | rfl | (simp only [ac_vals, c_5, if_true, if_false, eq_self, not_true_eq_false, not_false_eq_true, ite_true, ite_false, ↓reduceIte]; done) | (simp [ac_vals, c_5]; done)
    refine ih_2 (k + 1) (12 - (k + 1)) H locs ls (by omega) ⟨rfl, (by omega), ?_, hS, ?_⟩
    · (try dsimp only); (try rw [e_2_0]); exact hP
    · (try dsimp only); (try rw [e_2_0]); exact lv_sub hl [1, 0] rfl

set_option maxHeartbeats 4000000 in
set_option maxRecDepth 100000 in
theorem c_X2_valueByShare (l : Launch) (D : va_G) (ad : Nat → Nat) (cI cL : ClassId) (fi : Nat → Int32) (fl : Nat → Int64) (ai : Nat → Nat → Int32) (al : Nat → Nat → Int64) (A : Nat → Prop) (a : Nat) (z : Int64) (ha : a < 12) : Met l yX2_valueByShare wsX2_valueByShare (am_rm 0 0) (va_Pc [.ref (ad 2), .int (nI a), .long z] (am_M nwL vwCl D A (ac_w ad cI cL fi fl ai al) [(cI, .int), (cL, .long)])) (am_Mv vwCl D (ac_w ad cI cL fi fl ai (va_up al 16 (vp_updL (al 16) a ((al 12) a * z)))) A) 0 0 A := by
  refine am_startM (cc := cX2_valueByShare) (maxL := 4) (ret := none) (by decide) rfl (Nat.le_of_ble_eq_true rfl) [(0, .ref (ad 2)), (1, .int (nI a)), (2, .long z)] rfl ?_
  intro p e s m below meth c ls hx hb hr hml hown hts hlocks hK hN hD H locs hP hS hl
  have hown : s.vm.findClass RX2 = some m.cls := hown
  have ht := am_ht hts
  have hin_X2 : ∀ w ∈ u_ws RX2 TX2 4, w ∈ wsX2_valueByShare := fun w h => List.mem_cons_of_mem _ (am_inX2 w h)
  have hin_X1 : ∀ w ∈ u_ws RX1 TX1 14, w ∈ wsX2_valueByShare := fun w h => List.mem_cons_of_mem _ (am_inX1 w h)
  have hf_21 := ht 106 (.fieldLink RX2 21 "ApartCost$Planner" "product" "LApartCost$Product;") rfl
  have hf_31 := ht 75 (.fieldLink RX2 31 "ApartCost$Product" "worths" "[J") rfl
  have hf_9 := ht 108 (.fieldLink RX2 9 "ApartCost$Planner" "values" "[J") rfl
  refine lv_aload_n hx hb dX2_valueByShare_0 rfl (lv_at hl 0 rfl) ?_
  refine va_get (D := D) (ci := 2) (v := .ref (ad 16)) (C := RX2) (T := TX2) (N := 4) hx hb hts hin_X2 hown hK hP 2 rfl rfl 1 (by decide) hf_9 (fun _ h9 => h9) rfl dX2_valueByShare_1 ?_
  refine lv_iload_n hx hb dX2_valueByShare_4 rfl (lv_at hl 1 rfl) ?_
  refine lv_aload_n hx hb dX2_valueByShare_5 rfl (lv_at hl 0 rfl) ?_
  refine va_get (D := D) (ci := 2) (v := .ref (ad 1)) (C := RX2) (T := TX2) (N := 4) hx hb hts hin_X2 hown hK hP 2 rfl rfl 0 (by decide) hf_21 (fun _ h9 => h9) rfl dX2_valueByShare_6 ?_
  refine va_get (D := D) (ci := 1) (v := .ref (ad 12)) (C := RX1) (T := TX1) (N := 14) hx hb hts hin_X1 hown hK hP 1 rfl rfl 9 (by decide) hf_31 (fun _ h9 => h9) rfl dX2_valueByShare_9 ?_
  refine lv_iload_n hx hb dX2_valueByShare_12 rfl (lv_at hl 1 rfl) ?_
  refine am_lald hx hb hK hP 12 1 rfl rfl a rfl (by omega) (by decide) dX2_valueByShare_13 ?_
  refine lv_lload_n hx hb dX2_valueByShare_14 rfl (lv_at hl 2 rfl) ?_
  refine lv_lmul hx hb dX2_valueByShare_15 ?_
  refine am_last hx hb hK hP hD hS 16 1 rfl rfl a rfl (by omega) (by decide) (ac_w ad cI cL fi fl ai (va_up al 16 (vp_updL (al 16) a (((al 12) a) * z)))) rfl dX2_valueByShare_16 (fun H locs hP hD hS => ?_)
  exact am_vretM hx hb hr hlocks hP hS dX2_valueByShare_17
end
section
set_option maxHeartbeats 4000000 in
set_option maxRecDepth 100000 in
theorem c_X2_setSteps (l : Launch) (D : va_G) (ad : Nat → Nat) (cI cL : ClassId) (fi : Nat → Int32) (fl : Nat → Int64) (ai : Nat → Nat → Int32) (al : Nat → Nat → Int64) (A : Nat → Prop) (na : Nat) (hna : fi 0 = nI na) (hnl : na ≤ 10) (hto : ∀ a, a < na → ∃ t, t < 6 ∧ (ai 6) a = nI t) (hsi : ∀ a, a < na → ∃ t, t < 6 ∧ (ai 7) a = nI t) : Met l yX2_setSteps wsX2_setSteps (am_rm 1 26) (va_Pc [.ref (ad 2)] (am_M nwL vwCl D A (ac_w ad cI cL fi fl ai al) [(cI, .int), (cL, .long)])) (am_Mv vwCl D (ac_w ad cI cL fi fl ai (va_up al 17 (ac_sso (ac_cents (ai 6) (ai 7) (al 8) (al 10) (al 11)) na (al 17) na))) A) 0 0 A := by
  refine am_startM (cc := cX2_setSteps) (maxL := 3) (ret := none) (by decide) rfl (Nat.le_of_ble_eq_true rfl) [(0, .ref (ad 2))] rfl ?_
  intro p e s m below meth c ls hx hb hr hml hown hts hlocks hK hN hD H locs hP hS hl
  have hown : s.vm.findClass RX2 = some m.cls := hown
  have ht := am_ht hts
  have hin_X2 : ∀ w ∈ u_ws RX2 TX2 4, w ∈ wsX2_setSteps := fun w h => List.mem_cons_of_mem _ (am_inX2 w h)
  have hin_X1 : ∀ w ∈ u_ws RX1 TX1 14, w ∈ wsX2_setSteps := fun w h => List.mem_cons_of_mem _ (am_inX1 w h)
  have hf_15 := ht 110 (.fieldLink RX2 15 "ApartCost$Planner" "steps" "[J") rfl
  have hf_21 := ht 106 (.fieldLink RX2 21 "ApartCost$Planner" "product" "LApartCost$Product;") rfl
  have hf_56 := ht 59 (.fieldLink RX2 56 "ApartCost$Product" "acts" "I") rfl
  refine lv_iconst (v := 0) hx hb dX2_setSteps_0 (by decide) ?_
  refine lv_istore_n (lv' := [(1, .int 0), (0, .ref (ad 2))]) hx hb dX2_setSteps_1 rfl hl (by decide) rfl (fun ls hl => ?_)
  refine am_loop (σ := Nat) (fun q n9 H locs ls => n9 = na - q ∧ q ≤ na ∧ va_P D vwCl (ac_w ad cI cL fi fl ai (va_up al 17 (ac_sso (ac_cents (ai 6) (ai 7) (al 8) (al 10) (al 11)) na (al 17) q))) H ∧ va_S A s.heap H locs ∧ lv_has ls 3 [(0, .ref (ad 2)), (1, .int (nI q))]) ?_ 0 (na - 0) H locs ls ⟨rfl, (by omega), hP, hS, lv_sub hl [1, 0] rfl⟩
  rintro b n9 H locs ls ⟨hn_2, hk, hP, hS, hl⟩ ih_2
  have hD : va_D A (ac_w ad cI cL fi fl ai (va_up al 17 (ac_sso (ac_cents (ai 6) (ai 7) (al 8) (al 10) (al 11)) na (al 17) b))) := am_D hD rfl
  refine lv_iload_n hx hb dX2_setSteps_2 rfl (lv_at hl 1 rfl) ?_
  refine lv_aload_n hx hb dX2_setSteps_3 rfl (lv_at hl 0 rfl) ?_
  refine va_get (D := D) (ci := 2) (v := .ref (ad 1)) (C := RX2) (T := TX2) (N := 4) hx hb hts hin_X2 hown hK hP 2 rfl rfl 0 (by decide) hf_21 (fun _ h9 => h9) rfl dX2_setSteps_4 ?_
  refine va_get (D := D) (ci := 1) (v := .int (fi 0)) (C := RX1) (T := TX1) (N := 14) hx hb hts hin_X1 hown hK hP 1 rfl rfl 0 (by decide) hf_56 (fun _ h9 => h9) rfl dX2_setSteps_7 ?_
  refine lv_icmp_ge (tgt := 61) hx hb dX2_setSteps_10 (by decide) (fun c_10 => ?_) (fun c_10 => ?_)
  · skip
    have hke_10 : na ≤ b := (am_ge hna (by omega) (by omega)).mp c_10
    have hkq_10 : na = b := by omega
    subst hkq_10
    exact am_vretM hx hb hr hlocks hP hS dX2_setSteps_61
  · skip
    have hkl_10 : b < na := Nat.lt_of_not_le (fun z => c_10 ((am_ge hna (by omega) (by omega)).mpr z))
    refine lv_iconst (v := (-1)) hx hb dX2_setSteps_13 (by decide) ?_
    refine lv_istore_n (lv' := [(2, .int (-1)), (0, .ref (ad 2)), (1, .int (nI b))]) hx hb dX2_setSteps_14 rfl hl (by decide) rfl (fun ls hl => ?_)
    refine am_loop (σ := Nat) (fun q n9 H locs ls => n9 = na + 1 - q ∧ q ≤ na + 1 ∧ va_P D vwCl (ac_w ad cI cL fi fl ai (va_up al 17 (ac_ssi (ac_cents (ai 6) (ai 7) (al 8) (al 10) (al 11)) b (ac_sso (ac_cents (ai 6) (ai 7) (al 8) (al 10) (al 11)) na (al 17) b) q))) H ∧ va_S A s.heap H locs ∧ lv_has ls 3 [(0, .ref (ad 2)), (1, .int (nI b)), (2, .int (ac_la q))]) ?_ 0 (na + 1 - 0) H locs ls ⟨rfl, (by omega), hP, hS, lv_sub hl [1, 2, 0] rfl⟩
    rintro j n9 H locs ls ⟨hn_15, hjk, hP, hS, hl⟩ ih_15
    have hD : va_D A (ac_w ad cI cL fi fl ai (va_up al 17 (ac_ssi (ac_cents (ai 6) (ai 7) (al 8) (al 10) (al 11)) b (ac_sso (ac_cents (ai 6) (ai 7) (al 8) (al 10) (al 11)) na (al 17) b) j))) := am_D hD rfl
    refine lv_iload_n hx hb dX2_setSteps_15 rfl (lv_at hl 2 rfl) ?_
    refine lv_aload_n hx hb dX2_setSteps_16 rfl (lv_at hl 0 rfl) ?_
    refine va_get (D := D) (ci := 2) (v := .ref (ad 1)) (C := RX2) (T := TX2) (N := 4) hx hb hts hin_X2 hown hK hP 2 rfl rfl 0 (by decide) hf_21 (fun _ h9 => h9) rfl dX2_setSteps_17 ?_
    refine va_get (D := D) (ci := 1) (v := .int (fi 0)) (C := RX1) (T := TX1) (N := 14) hx hb hts hin_X1 hown hK hP 1 rfl rfl 0 (by decide) hf_56 (fun _ h9 => h9) rfl dX2_setSteps_20 ?_
    refine lv_icmp_ge (tgt := 55) hx hb dX2_setSteps_23 (by decide) (fun c_23 => ?_) (fun c_23 => ?_)
    · skip
      have hke_23 : na + 1 ≤ j := (ac_la_ge hna (by omega) (by omega)).mp c_23
      have hkq_23 : j = na + 1 := by omega
      subst hkq_23
      refine lv_iinc (v := nI (b + 1)) (lv' := [(1, .int (nI (b + 1))), (0, .ref (ad 2)), (2, .int (ac_la (na + 1)))]) hx hb dX2_setSteps_55 hl (k := 1) rfl (nI_1 b) (by decide) rfl (fun ls hl => ?_)
      refine lv_goto (tgt := 2) hx hb dX2_setSteps_58 (by decide) ?_
      have e_2_0 : (ac_sso (ac_cents (ai 6) (ai 7) (al 8) (al 10) (al 11)) na (al 17) (b + 1)) = (ac_ssi (ac_cents (ai 6) (ai 7) (al 8) (al 10) (al 11)) b (ac_sso (ac_cents (ai 6) (ai 7) (al 8) (al 10) (al 11)) na (al 17) b) (na + 1)) := by first | rfl | (simp only [ac_sso, c_23, if_true, if_false, eq_self, not_true_eq_false, not_false_eq_true, ite_true, ite_false, ↓reduceIte]; done) | (simp [ac_sso, c_23]; done)
      refine ih_2 (b + 1) (na - (b + 1)) H locs ls (by omega) ⟨rfl, (by omega), ?_, hS, ?_⟩
      · (try dsimp only); (try rw [e_2_0]); exact hP
      · (try dsimp only); (try rw [e_2_0]); exact lv_sub hl [1, 0] rfl
    · skip
      have hkl_23 : j < na + 1 := Nat.lt_of_not_le (fun z => c_23 ((ac_la_ge hna (by omega) (by omega)).mpr z))
      refine lv_aload_n hx hb dX2_setSteps_26 rfl (lv_at hl 0 rfl) ?_
      refine va_get (D := D) (ci := 2) (v := .ref (ad 17)) (C := RX2) (T := TX2) (N := 4) hx hb hts hin_X2 hown hK hP 2 rfl rfl 2 (by decide) hf_15 (fun _ h9 => h9) rfl dX2_setSteps_27 ?_
      refine lv_iload_n hx hb dX2_setSteps_30 rfl (lv_at hl 2 rfl) ?_
      refine lv_iload_n hx hb dX2_setSteps_31 rfl (lv_at hl 1 rfl) ?_
      refine am_callRi (W.runS (As := [.int (ac_la j), .int (nI b)]) (rest := [.ref (ad 17)]) ⟨hx, hb, hml, hown, hts⟩ (c_X2_stepPlace l D _ _ j b (by omega) (by omega)) (va_cwS 2 hts (am_gS (am_in 296 rfl) (am_in 297 rfl) (am_in 32 rfl) (am_in 298 rfl)) rfl rfl rfl (by decide +kernel) ⟨Nat.le_of_ble_eq_true rfl, Nat.le_of_ble_eq_true rfl⟩) (am_preSR hP hK hN) rfl rfl hl.1 rfl (lv_room (Nat.le_of_ble_eq_true rfl)) dX2_setSteps_32 ⟨Nat.zero_le _, Nat.zero_le _⟩) ?_
      refine lv_aload_n hx hb dX2_setSteps_35 rfl (lv_at hl 0 rfl) ?_
      refine va_get (D := D) (ci := 2) (v := .ref (ad 1)) (C := RX2) (T := TX2) (N := 4) hx hb hts hin_X2 hown hK hP 2 rfl rfl 0 (by decide) hf_21 (fun _ h9 => h9) rfl dX2_setSteps_36 ?_
      refine lv_iload_n hx hb dX2_setSteps_39 rfl (lv_at hl 2 rfl) ?_
      refine lv_iload_n hx hb dX2_setSteps_40 rfl (lv_at hl 1 rfl) ?_
      refine am_callRl (W.runV (As := [.int (ac_la j), .int (nI b)]) (rest := [.int (nI (ac_pl j b)), .ref (ad 17)]) ⟨hx, hb, hml, hown, hts⟩ (c_X1_centsOfStep l D ad cI cL fi fl ai (va_up al 17 (ac_ssi (ac_cents (ai 6) (ai 7) (al 8) (al 10) (al 11)) b (ac_sso (ac_cents (ai 6) (ai 7) (al 8) (al 10) (al 11)) na (al 17) b) j)) j b na hna hnl hto hsi (by omega) (by omega)) (cwV 2 hts (am_gV (am_in 299 rfl) (am_in 300 rfl) (am_in 301 rfl) (am_in 30 rfl) (am_in 302 rfl)) rfl rfl rfl (by decide +kernel) ⟨Nat.le_of_ble_eq_true rfl, Nat.le_of_ble_eq_true rfl⟩) (am_preVR 1 1 rfl rfl rfl hP hK hN) rfl rfl hl.1 rfl (lv_room (Nat.le_of_ble_eq_true rfl)) dX2_setSteps_41 ⟨Nat.zero_le _, Nat.zero_le _⟩) ?_
      refine lv_ldc2 (v := 27720) hx hb hown (ht 303 _ rfl) dX2_setSteps_44 ?_
      refine lv_lmul hx hb dX2_setSteps_47 ?_
      refine am_last hx hb hK hP hD hS 17 1 rfl rfl (ac_pl j b) rfl (ac_pl_lt (by omega) (by omega)) (by decide) (ac_w ad cI cL fi fl ai (va_up al 17 (vp_updL (ac_ssi (ac_cents (ai 6) (ai 7) (al 8) (al 10) (al 11)) b (ac_sso (ac_cents (ai 6) (ai 7) (al 8) (al 10) (al 11)) na (al 17) b) j) (ac_pl j b) ((ac_cents (ai 6) (ai 7) (al 8) (al 10) (al 11) j b) * 27720)))) rfl dX2_setSteps_48 (fun H locs hP hD hS => ?_)
      refine lv_iinc (v := ac_la (j + 1)) (lv' := [(2, .int (ac_la (j + 1))), (0, .ref (ad 2)), (1, .int (nI b))]) hx hb dX2_setSteps_49 hl (k := 2) rfl (ac_la_inc j) (by decide) rfl (fun ls hl => ?_)
      refine lv_goto (tgt := 15) hx hb dX2_setSteps_52 (by decide) ?_
      have e_15_0 : (ac_ssi (ac_cents (ai 6) (ai 7) (al 8) (al 10) (al 11)) b (ac_sso (ac_cents (ai 6) (ai 7) (al 8) (al 10) (al 11)) na (al 17) b) (j + 1)) = (vp_updL (ac_ssi (ac_cents (ai 6) (ai 7) (al 8) (al 10) (al 11)) b (ac_sso (ac_cents (ai 6) (ai 7) (al 8) (al 10) (al 11)) na (al 17) b) j) (ac_pl j b) ((ac_cents (ai 6) (ai 7) (al 8) (al 10) (al 11) j b) * 27720)) := by first | rfl | (simp only [ac_ssi, c_23, if_true, if_false, eq_self, not_true_eq_false, not_false_eq_true, ite_true, ite_false, ↓reduceIte]; done) | (simp [ac_ssi, c_23]; done)
      refine ih_15 (j + 1) (na + 1 - (j + 1)) H locs ls (by omega) ⟨rfl, (by omega), ?_, hS, ?_⟩
      · (try dsimp only); (try rw [e_15_0]); exact hP
      · (try dsimp only); (try rw [e_15_0]); exact lv_sub hl [1, 2, 0] rfl

set_option maxHeartbeats 4000000 in
set_option maxRecDepth 100000 in
theorem c_X2_setMost (l : Launch) (D : va_G) (ad : Nat → Nat) (cI cL : ClassId) (fi : Nat → Int32) (fl : Nat → Int64) (ai : Nat → Nat → Int32) (al : Nat → Nat → Int64) (A : Nat → Prop) (sn : Nat) (na : Nat) (nr : Nat) (hna : fi 0 = nI na) (hnl : na ≤ 10) (hnr : fi 2 = nI nr) (hnrl : nr ≤ 16) (hsn : sn < 1024) : Met l yX2_setMost wsX2_setMost (am_rm 4 90) (va_Pc [.ref (ad 2), .int (nI sn)] (am_M nwL vwCl D A (ac_w ad cI cL fi fl ai al) [(cI, .int), (cL, .long)])) (am_Mv vwCl D (ac_w ad cI cL fi fl ai (va_up al 18 (ac_setMost (ai 5) (ai 14) (ai 9) (al 15) (al 16) (al 17) (fi 1) na nr sn (al 18)))) A) 0 0 A := by
  refine am_startM (cc := cX2_setMost) (maxL := 7) (ret := none) (by decide) rfl (Nat.le_of_ble_eq_true rfl) [(0, .ref (ad 2)), (1, .int (nI sn))] rfl ?_
  intro p e s m below meth c ls hx hb hr hml hown hts hlocks hK hN hD H locs hP hS hl
  have hown : s.vm.findClass RX2 = some m.cls := hown
  have ht := am_ht hts
  have hin_X2 : ∀ w ∈ u_ws RX2 TX2 4, w ∈ wsX2_setMost := fun w h => List.mem_cons_of_mem _ (am_inX2 w h)
  have hin_X1 : ∀ w ∈ u_ws RX1 TX1 14, w ∈ wsX2_setMost := fun w h => List.mem_cons_of_mem _ (am_inX1 w h)
  have hf_18 := ht 111 (.fieldLink RX2 18 "ApartCost$Planner" "most" "[J") rfl
  have hf_21 := ht 106 (.fieldLink RX2 21 "ApartCost$Planner" "product" "LApartCost$Product;") rfl
  have hf_56 := ht 59 (.fieldLink RX2 56 "ApartCost$Product" "acts" "I") rfl
  refine lv_aload_n hx hb dX2_setMost_0 rfl (lv_at hl 0 rfl) ?_
  refine va_get (D := D) (ci := 2) (v := .ref (ad 1)) (C := RX2) (T := TX2) (N := 4) hx hb hts hin_X2 hown hK hP 2 rfl rfl 0 (by decide) hf_21 (fun _ h9 => h9) rfl dX2_setMost_1 ?_
  refine lv_iload_n hx hb dX2_setMost_4 rfl (lv_at hl 1 rfl) ?_
  refine am_callRi (W.runV (As := [.int (nI sn)]) (rest := []) ⟨hx, hb, hml, hown, hts⟩ (c_X1_lastsOf l D ad cI cL fi fl ai al (nI sn) na hna hnl) (cwV 1 hts (am_gV (am_in 308 rfl) (am_in 265 rfl) (am_in 266 rfl) (am_in 30 rfl) (am_in 267 rfl)) rfl rfl rfl (by decide +kernel) ⟨Nat.le_of_ble_eq_true rfl, Nat.le_of_ble_eq_true rfl⟩) (am_preVR 1 1 rfl rfl rfl hP hK hN) rfl rfl hl.1 rfl (lv_room (Nat.le_of_ble_eq_true rfl)) dX2_setMost_5 ⟨Nat.zero_le _, Nat.zero_le _⟩) ?_
  refine lv_istore_n (lv' := [(2, .int (ac_lasts (ai 9) na (nI sn))), (0, .ref (ad 2)), (1, .int (nI sn))]) hx hb dX2_setMost_8 rfl hl (by decide) rfl (fun ls hl => ?_)
  refine lv_iload_n hx hb dX2_setMost_9 rfl (lv_at hl 0 rfl) ?_
  refine lv_if_ne (tgt := 14) hx hb dX2_setMost_10 (by decide) (fun c_10 => ?_) (fun c_10 => ?_)
  · skip
    refine lv_aload_n hx hb dX2_setMost_14 rfl (lv_at hl 1 rfl) ?_
    refine va_get (D := D) (ci := 2) (v := .ref (ad 1)) (C := RX2) (T := TX2) (N := 4) hx hb hts hin_X2 hown hK hP 2 rfl rfl 0 (by decide) hf_21 (fun _ h9 => h9) rfl dX2_setMost_15 ?_
    refine lv_iload_n hx hb dX2_setMost_18 rfl (lv_at hl 2 rfl) ?_
    refine am_callRi (W.runV (As := [.int (nI sn)]) (rest := []) ⟨hx, hb, hml, hown, hts⟩ (c_X1_nextsOf l D ad cI cL fi fl ai al (nI sn) na hna hnl) (cwV 1 hts (am_gV (am_in 309 rfl) (am_in 310 rfl) (am_in 311 rfl) (am_in 30 rfl) (am_in 312 rfl)) rfl rfl rfl (by decide +kernel) ⟨Nat.le_of_ble_eq_true rfl, Nat.le_of_ble_eq_true rfl⟩) (am_preVR 1 1 rfl rfl rfl hP hK hN) rfl rfl hl.1 rfl (lv_room (Nat.le_of_ble_eq_true rfl)) dX2_setMost_19 ⟨Nat.zero_le _, Nat.zero_le _⟩) ?_
    refine lv_istore_n (lv' := [(3, .int (ac_nexts (ai 9) (nI sn) na)), (2, .int (ac_lasts (ai 9) na (nI sn))), (0, .ref (ad 2)), (1, .int (nI sn))]) hx hb dX2_setMost_22 rfl hl (by decide) rfl (fun ls hl => ?_)
    refine lv_aload_n hx hb dX2_setMost_23 rfl (lv_at hl 2 rfl) ?_
    refine lv_iload_n hx hb dX2_setMost_24 rfl (lv_at hl 3 rfl) ?_
    refine am_callRl (W.runV (As := [.int (nI sn)]) (rest := []) ⟨hx, hb, hml, hown, hts⟩ (c_X2_endOf l D ad cI cL fi fl ai al (nI sn) na nr hna hnl hnr hnrl) (cwV 1 hts (am_gV (am_in 313 rfl) (am_in 314 rfl) (am_in 4 rfl) (am_in 32 rfl) (am_in 315 rfl)) rfl rfl rfl (by decide +kernel) ⟨Nat.le_of_ble_eq_true rfl, Nat.le_of_ble_eq_true rfl⟩) (am_preVR 2 2 rfl rfl rfl hP hK hN) rfl rfl hl.1 rfl (lv_room (Nat.le_of_ble_eq_true rfl)) dX2_setMost_25 ⟨Nat.zero_le _, Nat.zero_le _⟩) ?_
    refine lv_lstore (lv' := [(4, .long (ac_end (ai 5) (ai 14) (al 15) (al 16) (fi 1) na nr (nI sn))), (3, .int (ac_nexts (ai 9) (nI sn) na)), (2, .int (ac_lasts (ai 9) na (nI sn))), (0, .ref (ad 2)), (1, .int (nI sn))]) hx hb dX2_setMost_28 hl (by decide) rfl (fun ls hl => ?_)
    refine lv_iconst (v := 0) hx hb dX2_setMost_30 (by decide) ?_
    refine lv_istore (lv' := [(6, .int 0), (4, .long (ac_end (ai 5) (ai 14) (al 15) (al 16) (fi 1) na nr (nI sn))), (3, .int (ac_nexts (ai 9) (nI sn) na)), (2, .int (ac_lasts (ai 9) na (nI sn))), (0, .ref (ad 2)), (1, .int (nI sn))]) hx hb dX2_setMost_31 hl (by decide) rfl (fun ls hl => ?_)
    refine am_loop (σ := Nat) (fun q n9 H locs ls => n9 = na - q ∧ q ≤ na ∧ va_P D vwCl (ac_w ad cI cL fi fl ai (va_up al 18 (ac_sml (al 17) sn (ac_lasts (ai 9) na (nI sn)) (ac_nexts (ai 9) (nI sn) na) (ac_end (ai 5) (ai 14) (al 15) (al 16) (fi 1) na nr (nI sn)) na (al 18) q))) H ∧ va_S A s.heap H locs ∧ lv_has ls 7 [(0, .ref (ad 2)), (1, .int (nI sn)), (2, .int (ac_lasts (ai 9) na (nI sn))), (3, .int (ac_nexts (ai 9) (nI sn) na)), (4, .long (ac_end (ai 5) (ai 14) (al 15) (al 16) (fi 1) na nr (nI sn))), (6, .int (nI q))]) ?_ 0 (na - 0) H locs ls ⟨rfl, (by omega), hP, hS, lv_sub hl [4, 5, 3, 2, 1, 0] rfl⟩
    rintro k n9 H locs ls ⟨hn_33, hk, hP, hS, hl⟩ ih_33
    have hD : va_D A (ac_w ad cI cL fi fl ai (va_up al 18 (ac_sml (al 17) sn (ac_lasts (ai 9) na (nI sn)) (ac_nexts (ai 9) (nI sn) na) (ac_end (ai 5) (ai 14) (al 15) (al 16) (fi 1) na nr (nI sn)) na (al 18) k))) := am_D hD rfl
    refine lv_iload hx hb dX2_setMost_33 (lv_at hl 5 rfl) ?_
    refine lv_aload_n hx hb dX2_setMost_35 rfl (lv_at hl 0 rfl) ?_
    refine va_get (D := D) (ci := 2) (v := .ref (ad 1)) (C := RX2) (T := TX2) (N := 4) hx hb hts hin_X2 hown hK hP 2 rfl rfl 0 (by decide) hf_21 (fun _ h9 => h9) rfl dX2_setMost_36 ?_
    refine va_get (D := D) (ci := 1) (v := .int (fi 0)) (C := RX1) (T := TX1) (N := 14) hx hb hts hin_X1 hown hK hP 1 rfl rfl 0 (by decide) hf_56 (fun _ h9 => h9) rfl dX2_setMost_39 ?_
    refine lv_icmp_ge (tgt := 82) hx hb dX2_setMost_42 (by decide) (fun c_42 => ?_) (fun c_42 => ?_)
    · skip
      have hke_42 : na ≤ k := (am_ge hna (by omega) (by omega)).mp c_42
      have hkq_42 : na = k := by omega
      subst hkq_42
      exact am_vretM hx hb hr hlocks (by simp only [ac_setMost, if_neg c_10]; exact hP) hS dX2_setMost_82
    · skip
      have hkl_42 : k < na := Nat.lt_of_not_le (fun z => c_42 ((am_ge hna (by omega) (by omega)).mpr z))
      refine lv_iload_n hx hb dX2_setMost_45 rfl (lv_at hl 2 rfl) ?_
      refine lv_iload hx hb dX2_setMost_46 (lv_at hl 5 rfl) ?_
      refine am_callRi (va_Run.run (va_runSN (As := [.int (ac_lasts (ai 9) na (nI sn)), .int (nI k)]) (rest := []) ⟨hx, hb, hml, hown, hts⟩ (c_X0_has l D _ _ (ac_lasts (ai 9) na (nI sn)) (nI k)) ⟨va_cnB 2 hts (am_gN (am_in 206 rfl)) rfl rfl rfl (am_nw_at hN 2 rfl) (ht 29 _ rfl) (by decide +kernel) ⟨Nat.le_of_ble_eq_true rfl, Nat.le_of_ble_eq_true rfl⟩, (ht 205 _ rfl), trivial⟩ (am_preSR hP hK hN) rfl rfl hl.1 rfl (lv_room (Nat.le_of_ble_eq_true rfl)) dX2_setMost_48 ⟨Nat.zero_le _, Nat.zero_le _⟩)) ?_
      refine lv_if_eq (tgt := 76) hx hb dX2_setMost_51 (by decide) (fun c_51 => ?_) (fun c_51 => ?_)
      · skip
        refine lv_iinc (v := nI (k + 1)) (lv' := [(6, .int (nI (k + 1))), (0, .ref (ad 2)), (1, .int (nI sn)), (2, .int (ac_lasts (ai 9) na (nI sn))), (3, .int (ac_nexts (ai 9) (nI sn) na)), (4, .long (ac_end (ai 5) (ai 14) (al 15) (al 16) (fi 1) na nr (nI sn)))]) hx hb dX2_setMost_76 hl (k := 5) rfl (nI_1 k) (by decide) rfl (fun ls hl => ?_)
        refine lv_goto (tgt := 33) hx hb dX2_setMost_79 (by decide) ?_
        have e_33_0 : (ac_sml (al 17) sn (ac_lasts (ai 9) na (nI sn)) (ac_nexts (ai 9) (nI sn) na) (ac_end (ai 5) (ai 14) (al 15) (al 16) (fi 1) na nr (nI sn)) na (al 18) (k + 1)) = (ac_sml (al 17) sn (ac_lasts (ai 9) na (nI sn)) (ac_nexts (ai 9) (nI sn) na) (ac_end (ai 5) (ai 14) (al 15) (al 16) (fi 1) na nr (nI sn)) na (al 18) k) := by first | rfl | (simp only [ac_sml, c_42, c_51, if_true, if_false, eq_self, not_true_eq_false, not_false_eq_true, ite_true, ite_false, ↓reduceIte]; done) | (simp [ac_sml, c_42, c_51]; done)
        refine ih_33 (k + 1) (na - (k + 1)) H locs ls (by omega) ⟨rfl, (by omega), ?_, hS, ?_⟩
        · (try dsimp only); (try rw [e_33_0]); exact hP
        · (try dsimp only); (try rw [e_33_0]); exact lv_sub hl [1, 2, 3, 4, 5, 0] rfl
      · skip
        refine lv_aload_n hx hb dX2_setMost_54 rfl (lv_at hl 0 rfl) ?_
        refine va_get (D := D) (ci := 2) (v := .ref (ad 18)) (C := RX2) (T := TX2) (N := 4) hx hb hts hin_X2 hown hK hP 2 rfl rfl 3 (by decide) hf_18 (fun _ h9 => h9) rfl dX2_setMost_55 ?_
        refine lv_iload_n hx hb dX2_setMost_58 rfl (lv_at hl 1 rfl) ?_
        refine lv_bipush (v := 10) hx hb dX2_setMost_59 (by decide) ?_
        refine lv_imul hx hb dX2_setMost_61 ?_
        refine lv_iload hx hb dX2_setMost_62 (lv_at hl 5 rfl) ?_
        refine lv_iadd hx hb dX2_setMost_64 ?_
        refine lv_aload_n hx hb dX2_setMost_65 rfl (lv_at hl 0 rfl) ?_
        refine lv_iload hx hb dX2_setMost_66 (lv_at hl 5 rfl) ?_
        refine lv_iload_n hx hb dX2_setMost_68 rfl (lv_at hl 1 rfl) ?_
        refine lv_iload_n hx hb dX2_setMost_69 rfl (lv_at hl 3 rfl) ?_
        refine lv_lload hx hb dX2_setMost_70 (lv_at hl 4 rfl) ?_
        refine am_callRl (W.runV (As := [.int (nI k), .int (nI sn), .int (ac_nexts (ai 9) (nI sn) na), .long (ac_end (ai 5) (ai 14) (al 15) (al 16) (fi 1) na nr (nI sn))]) (rest := [.int (((nI sn) * 10) + (nI k)), .ref (ad 18)]) ⟨hx, hb, hml, hown, hts⟩ (c_X2_mostFrom l D ad cI cL fi fl ai (va_up al 18 (ac_sml (al 17) sn (ac_lasts (ai 9) na (nI sn)) (ac_nexts (ai 9) (nI sn) na) (ac_end (ai 5) (ai 14) (al 15) (al 16) (fi 1) na nr (nI sn)) na (al 18) k)) (k + 1) sn (ac_nexts (ai 9) (nI sn) na) (ac_end (ai 5) (ai 14) (al 15) (al 16) (fi 1) na nr (nI sn)) na hna hnl (by omega) hsn) (cwV 4 hts (am_gV (am_in 329 rfl) (am_in 330 rfl) (am_in 5 rfl) (am_in 32 rfl) (am_in 331 rfl)) rfl rfl rfl (by decide +kernel) ⟨Nat.le_of_ble_eq_true rfl, Nat.le_of_ble_eq_true rfl⟩) (am_preVR 2 2 rfl rfl rfl hP hK hN) rfl rfl hl.1 rfl (lv_room (Nat.le_of_ble_eq_true rfl)) dX2_setMost_72 ⟨Nat.zero_le _, Nat.zero_le _⟩) ?_
        refine am_last hx hb hK hP hD hS 18 1 rfl rfl (sn * 10 + k) (am_ix10 sn k) (by omega) (by decide) (ac_w ad cI cL fi fl ai (va_up al 18 (vp_updL (ac_sml (al 17) sn (ac_lasts (ai 9) na (nI sn)) (ac_nexts (ai 9) (nI sn) na) (ac_end (ai 5) (ai 14) (al 15) (al 16) (fi 1) na nr (nI sn)) na (al 18) k) (sn * 10 + k) (ac_mfrom (ac_sml (al 17) sn (ac_lasts (ai 9) na (nI sn)) (ac_nexts (ai 9) (nI sn) na) (ac_end (ai 5) (ai 14) (al 15) (al 16) (fi 1) na nr (nI sn)) na (al 18) k) (al 17) (k + 1) sn (ac_nexts (ai 9) (nI sn) na) (ac_end (ai 5) (ai 14) (al 15) (al 16) (fi 1) na nr (nI sn)) na)))) rfl dX2_setMost_75 (fun H locs hP hD hS => ?_)
        refine lv_iinc (v := nI (k + 1)) (lv' := [(6, .int (nI (k + 1))), (0, .ref (ad 2)), (1, .int (nI sn)), (2, .int (ac_lasts (ai 9) na (nI sn))), (3, .int (ac_nexts (ai 9) (nI sn) na)), (4, .long (ac_end (ai 5) (ai 14) (al 15) (al 16) (fi 1) na nr (nI sn)))]) hx hb dX2_setMost_76 hl (k := 5) rfl (nI_1 k) (by decide) rfl (fun ls hl => ?_)
        refine lv_goto (tgt := 33) hx hb dX2_setMost_79 (by decide) ?_
        have e_33_0 : (ac_sml (al 17) sn (ac_lasts (ai 9) na (nI sn)) (ac_nexts (ai 9) (nI sn) na) (ac_end (ai 5) (ai 14) (al 15) (al 16) (fi 1) na nr (nI sn)) na (al 18) (k + 1)) = (vp_updL (ac_sml (al 17) sn (ac_lasts (ai 9) na (nI sn)) (ac_nexts (ai 9) (nI sn) na) (ac_end (ai 5) (ai 14) (al 15) (al 16) (fi 1) na nr (nI sn)) na (al 18) k) (sn * 10 + k) (ac_mfrom (ac_sml (al 17) sn (ac_lasts (ai 9) na (nI sn)) (ac_nexts (ai 9) (nI sn) na) (ac_end (ai 5) (ai 14) (al 15) (al 16) (fi 1) na nr (nI sn)) na (al 18) k) (al 17) (k + 1) sn (ac_nexts (ai 9) (nI sn) na) (ac_end (ai 5) (ai 14) (al 15) (al 16) (fi 1) na nr (nI sn)) na)) := by first | rfl | (simp only [ac_sml, c_42, c_51, if_true, if_false, eq_self, not_true_eq_false, not_false_eq_true, ite_true, ite_false, ↓reduceIte]; done) | (simp [ac_sml, c_42, c_51]; done)
        refine ih_33 (k + 1) (na - (k + 1)) H locs ls (by omega) ⟨rfl, (by omega), ?_, hS, ?_⟩
        · (try dsimp only); (try rw [e_33_0]); exact hP
        · (try dsimp only); (try rw [e_33_0]); exact lv_sub hl [1, 2, 3, 4, 5, 0] rfl
  · skip
    exact am_vretM hx hb hr hlocks (by simp only [ac_setMost, if_pos c_10]; exact hP) hS dX2_setMost_13

set_option maxHeartbeats 4000000 in
set_option maxRecDepth 100000 in
theorem c_X2_greatestGain (l : Launch) (D : va_G) (ad : Nat → Nat) (cI cL : ClassId) (fi : Nat → Int32) (fl : Nat → Int64) (ai : Nat → Nat → Int32) (al : Nat → Nat → Int64) (A : Nat → Prop) (na : Nat) (nr : Nat) (hna : fi 0 = nI na) (hnl : na ≤ 10) (hnr : fi 2 = nI nr) (hnrl : nr ≤ 16) (hto : ∀ a, a < na → ∃ t, t < 6 ∧ (ai 6) a = nI t) (hsi : ∀ a, a < na → ∃ t, t < 6 ∧ (ai 7) a = nI t) : Met l yX2_greatestGain wsX2_greatestGain (am_rm 5 116) (va_Pc [.ref (ad 2)] (am_M nwL vwCl D A (ac_w ad cI cL fi fl ai al) [(cI, .int), (cL, .long)])) (am_Ml vwCl D (ac_rg fi ai al na nr) (ac_w ad cI cL fi fl ai (va_up (va_up al 17 (ac_rs ai al na)) 18 (ac_rd fi ai al na nr))) A) 0 0 A := by
  refine am_startM (cc := cX2_greatestGain) (maxL := 2) (ret := (some .long)) (by decide) rfl (Nat.le_of_ble_eq_true rfl) [(0, .ref (ad 2))] rfl ?_
  intro p e s m below meth c ls hx hb hr hml hown hts hlocks hK hN hD H locs hP hS hl
  have hown : s.vm.findClass RX2 = some m.cls := hown
  have ht := am_ht hts
  have hin_X2 : ∀ w ∈ u_ws RX2 TX2 4, w ∈ wsX2_greatestGain := fun w h => List.mem_cons_of_mem _ (am_inX2 w h)
  have hf_21 := ht 106 (.fieldLink RX2 21 "ApartCost$Planner" "product" "LApartCost$Product;") rfl
  have hp2 := am_p2 hnl
  refine lv_aload_n hx hb dX2_greatestGain_0 rfl (lv_at hl 0 rfl) ?_
  refine am_callMv (va_runV (As := []) (rest := []) ⟨hx, hb, hml, hown, hts⟩ (c_X2_setSteps l D ad cI cL fi fl ai al A na hna hnl hto hsi) (cwV 0 hts (am_gV (am_in 293 rfl) (am_in 294 rfl) (am_in 2 rfl) (am_in 32 rfl) (am_in 295 rfl)) rfl rfl rfl (by decide +kernel) ⟨Nat.le_of_ble_eq_true rfl, Nat.le_of_ble_eq_true rfl⟩) (am_preVM 2 2 rfl rfl rfl hP hK hN hD) rfl rfl hl.1 rfl (lv_room (Nat.le_of_ble_eq_true rfl)) dX2_greatestGain_1 ⟨Nat.zero_le _, Nat.zero_le _⟩) hS (fun H locs hP hS => ?_)
  have hP : va_P D vwCl (ac_w ad cI cL fi fl ai (va_up al 17 (ac_sso (ac_cents (ai 6) (ai 7) (al 8) (al 10) (al 11)) na (al 17) na))) H := hP
  have hD : va_D A (ac_w ad cI cL fi fl ai (va_up al 17 (ac_sso (ac_cents (ai 6) (ai 7) (al 8) (al 10) (al 11)) na (al 17) na))) := am_D hD rfl
  refine lv_aload_n hx hb dX2_greatestGain_4 rfl (lv_at hl 0 rfl) ?_
  refine va_get (D := D) (ci := 2) (v := .ref (ad 1)) (C := RX2) (T := TX2) (N := 4) hx hb hts hin_X2 hown hK hP 2 rfl rfl 0 (by decide) hf_21 (fun _ h9 => h9) rfl dX2_greatestGain_5 ?_
  refine am_callRi (W.runV (As := []) (rest := []) ⟨hx, hb, hml, hown, hts⟩ (c_X1_allActs l D ad cI cL fi fl ai (va_up al 17 (ac_sso (ac_cents (ai 6) (ai 7) (al 8) (al 10) (al 11)) na (al 17) na))) (cwV 0 hts (am_gV (am_in 304 rfl) (am_in 261 rfl) (am_in 262 rfl) (am_in 30 rfl) (am_in 263 rfl)) rfl rfl rfl (by decide +kernel) ⟨Nat.le_of_ble_eq_true rfl, Nat.le_of_ble_eq_true rfl⟩) (am_preVR 1 1 rfl rfl rfl hP hK hN) rfl rfl hl.1 rfl (lv_room (Nat.le_of_ble_eq_true rfl)) dX2_greatestGain_8 ⟨Nat.zero_le _, Nat.zero_le _⟩) ?_
  refine am_topi (am_all hna hnl) ?_
  refine lv_istore_n (lv' := [(1, .int (nI (2 ^ na - 1))), (0, .ref (ad 2))]) hx hb dX2_greatestGain_11 rfl hl (by decide) rfl (fun ls hl => ?_)
  refine am_loop (σ := (Nat) × (Nat → Int64)) (fun q n9 H locs ls => n9 = q.1 ∧ q.1 ≤ 2 ^ na - 1 ∧ ac_down (ai 5) (ai 14) (ai 9) (al 15) (al 16) (ac_sso (ac_cents (ai 6) (ai 7) (al 8) (al 10) (al 11)) na (al 17) na) (fi 1) na nr q.1 q.2 = ac_down (ai 5) (ai 14) (ai 9) (al 15) (al 16) (ac_sso (ac_cents (ai 6) (ai 7) (al 8) (al 10) (al 11)) na (al 17) na) (fi 1) na nr (2 ^ na - 1) (al 18) ∧ va_P D vwCl (ac_w ad cI cL fi fl ai (va_up (va_up al 17 (ac_sso (ac_cents (ai 6) (ai 7) (al 8) (al 10) (al 11)) na (al 17) na)) 18 q.2)) H ∧ va_S A s.heap H locs ∧ lv_has ls 2 [(0, .ref (ad 2)), (1, .int (nI q.1))]) ?_ (2 ^ na - 1, (al 18)) ((2 ^ na - 1)) H locs ls ⟨rfl, (by omega), rfl, hP, hS, lv_sub hl [1, 0] rfl⟩
  rintro ⟨sn, ff⟩ n9 H locs ls ⟨hn_12, hsk, hf, hP, hS, hl⟩ ih_12
  dsimp only at hn_12 hsk hf hP hl
  have hD : va_D A (ac_w ad cI cL fi fl ai (va_up (va_up al 17 (ac_sso (ac_cents (ai 6) (ai 7) (al 8) (al 10) (al 11)) na (al 17) na)) 18 ff)) := am_D hD rfl
  refine lv_iload_n hx hb dX2_greatestGain_12 rfl (lv_at hl 1 rfl) ?_
  refine lv_if_le (tgt := 27) hx hb dX2_greatestGain_13 (by decide) (fun c_13 => ?_) (fun c_13 => ?_)
  · skip
    have hs0 : 0 = sn := by have h := c_13; rw [show (0 : Int32) = nI 0 from rfl, nI_leI (by omega) (by omega)] at h; omega
    subst hs0
    have hf2 : ff = ac_down (ai 5) (ai 14) (ai 9) (al 15) (al 16) (ac_sso (ac_cents (ai 6) (ai 7) (al 8) (al 10) (al 11)) na (al 17) na) (fi 1) na nr (2 ^ na - 1) (al 18) := hf
    subst hf2
    refine lv_aload_n hx hb dX2_greatestGain_27 rfl (lv_at hl 0 rfl) ?_
    refine lv_iconst (v := (-1)) hx hb dX2_greatestGain_28 (by decide) ?_
    refine lv_iconst (v := 0) hx hb dX2_greatestGain_29 (by decide) ?_
    refine lv_aload_n hx hb dX2_greatestGain_30 rfl (lv_at hl 0 rfl) ?_
    refine va_get (D := D) (ci := 2) (v := .ref (ad 1)) (C := RX2) (T := TX2) (N := 4) hx hb hts hin_X2 hown hK hP 2 rfl rfl 0 (by decide) hf_21 (fun _ h9 => h9) rfl dX2_greatestGain_31 ?_
    refine lv_iconst (v := 0) hx hb dX2_greatestGain_34 (by decide) ?_
    refine am_callRi (W.runV (As := [.int 0]) (rest := [.int 0, .int (-1), .ref (ad 2)]) ⟨hx, hb, hml, hown, hts⟩ (c_X1_nextsOf l D ad cI cL fi fl ai (va_up (va_up al 17 (ac_sso (ac_cents (ai 6) (ai 7) (al 8) (al 10) (al 11)) na (al 17) na)) 18 (ac_down (ai 5) (ai 14) (ai 9) (al 15) (al 16) (ac_sso (ac_cents (ai 6) (ai 7) (al 8) (al 10) (al 11)) na (al 17) na) (fi 1) na nr (2 ^ na - 1) (al 18))) 0 na hna hnl) (cwV 1 hts (am_gV (am_in 309 rfl) (am_in 310 rfl) (am_in 311 rfl) (am_in 30 rfl) (am_in 312 rfl)) rfl rfl rfl (by decide +kernel) ⟨Nat.le_of_ble_eq_true rfl, Nat.le_of_ble_eq_true rfl⟩) (am_preVR 1 1 rfl rfl rfl hP hK hN) rfl rfl hl.1 rfl (lv_room (Nat.le_of_ble_eq_true rfl)) dX2_greatestGain_35 ⟨Nat.zero_le _, Nat.zero_le _⟩) ?_
    refine lv_aload_n hx hb dX2_greatestGain_38 rfl (lv_at hl 0 rfl) ?_
    refine lv_iconst (v := 0) hx hb dX2_greatestGain_39 (by decide) ?_
    refine am_callRl (W.runV (As := [.int 0]) (rest := [.int (ac_nexts (ai 9) 0 na), .int 0, .int (-1), .ref (ad 2)]) ⟨hx, hb, hml, hown, hts⟩ (c_X2_endOf l D ad cI cL fi fl ai (va_up (va_up al 17 (ac_sso (ac_cents (ai 6) (ai 7) (al 8) (al 10) (al 11)) na (al 17) na)) 18 (ac_down (ai 5) (ai 14) (ai 9) (al 15) (al 16) (ac_sso (ac_cents (ai 6) (ai 7) (al 8) (al 10) (al 11)) na (al 17) na) (fi 1) na nr (2 ^ na - 1) (al 18))) 0 na nr hna hnl hnr hnrl) (cwV 1 hts (am_gV (am_in 313 rfl) (am_in 314 rfl) (am_in 4 rfl) (am_in 32 rfl) (am_in 315 rfl)) rfl rfl rfl (by decide +kernel) ⟨Nat.le_of_ble_eq_true rfl, Nat.le_of_ble_eq_true rfl⟩) (am_preVR 2 2 rfl rfl rfl hP hK hN) rfl rfl hl.1 rfl (lv_room (Nat.le_of_ble_eq_true rfl)) dX2_greatestGain_40 ⟨Nat.zero_le _, Nat.zero_le _⟩) ?_
    refine am_callRl (W.runV (As := [.int (-1), .int 0, .int (ac_nexts (ai 9) 0 na), .long (ac_end (ai 5) (ai 14) (al 15) (al 16) (fi 1) na nr 0)]) (rest := []) ⟨hx, hb, hml, hown, hts⟩ (c_X2_mostFrom l D ad cI cL fi fl ai (va_up (va_up al 17 (ac_sso (ac_cents (ai 6) (ai 7) (al 8) (al 10) (al 11)) na (al 17) na)) 18 (ac_down (ai 5) (ai 14) (ai 9) (al 15) (al 16) (ac_sso (ac_cents (ai 6) (ai 7) (al 8) (al 10) (al 11)) na (al 17) na) (fi 1) na nr (2 ^ na - 1) (al 18))) 0 0 (ac_nexts (ai 9) 0 na) (ac_end (ai 5) (ai 14) (al 15) (al 16) (fi 1) na nr 0) na hna hnl (by omega) (by omega)) (cwV 4 hts (am_gV (am_in 329 rfl) (am_in 330 rfl) (am_in 5 rfl) (am_in 32 rfl) (am_in 331 rfl)) rfl rfl rfl (by decide +kernel) ⟨Nat.le_of_ble_eq_true rfl, Nat.le_of_ble_eq_true rfl⟩) (am_preVR 2 2 rfl rfl rfl hP hK hN) rfl rfl hl.1 rfl (lv_room (Nat.le_of_ble_eq_true rfl)) dX2_greatestGain_43 ⟨Nat.zero_le _, Nat.zero_le _⟩) ?_
    exact am_lretM hx hb hr hlocks hP hS rfl dX2_greatestGain_46
  · skip
    obtain ⟨sm, rfl⟩ : ∃ z, sn = z + 1 := by cases sn with | zero => exact absurd (show nI 0 ≤ 0 from by decide +kernel) c_13 | succ z => exact ⟨z, rfl⟩
    refine lv_aload_n hx hb dX2_greatestGain_16 rfl (lv_at hl 0 rfl) ?_
    refine lv_iload_n hx hb dX2_greatestGain_17 rfl (lv_at hl 1 rfl) ?_
    refine am_callMv (va_runV (As := [.int (nI (sm + 1))]) (rest := []) ⟨hx, hb, hml, hown, hts⟩ (c_X2_setMost l D ad cI cL fi fl ai (va_up (va_up al 17 (ac_sso (ac_cents (ai 6) (ai 7) (al 8) (al 10) (al 11)) na (al 17) na)) 18 ff) A (sm + 1) na nr hna hnl hnr hnrl (by omega)) (cwV 1 hts (am_gV (am_in 305 rfl) (am_in 306 rfl) (am_in 3 rfl) (am_in 32 rfl) (am_in 307 rfl)) rfl rfl rfl (by decide +kernel) ⟨Nat.le_of_ble_eq_true rfl, Nat.le_of_ble_eq_true rfl⟩) (am_preVM 2 2 rfl rfl rfl hP hK hN hD) rfl rfl hl.1 rfl (lv_room (Nat.le_of_ble_eq_true rfl)) dX2_greatestGain_18 ⟨Nat.zero_le _, Nat.zero_le _⟩) hS (fun H locs hP hS => ?_)
    have hP : va_P D vwCl (ac_w ad cI cL fi fl ai (va_up (va_up al 17 (ac_sso (ac_cents (ai 6) (ai 7) (al 8) (al 10) (al 11)) na (al 17) na)) 18 (ac_setMost (ai 5) (ai 14) (ai 9) (al 15) (al 16) (ac_sso (ac_cents (ai 6) (ai 7) (al 8) (al 10) (al 11)) na (al 17) na) (fi 1) na nr (sm + 1) ff))) H := hP
    have hD : va_D A (ac_w ad cI cL fi fl ai (va_up (va_up al 17 (ac_sso (ac_cents (ai 6) (ai 7) (al 8) (al 10) (al 11)) na (al 17) na)) 18 (ac_setMost (ai 5) (ai 14) (ai 9) (al 15) (al 16) (ac_sso (ac_cents (ai 6) (ai 7) (al 8) (al 10) (al 11)) na (al 17) na) (fi 1) na nr (sm + 1) ff))) := am_D hD rfl
    refine lv_iinc (v := nI sm) (lv' := [(1, .int (nI sm)), (0, .ref (ad 2))]) hx hb dX2_greatestGain_21 hl (k := 1) rfl (pk_m1 sm) (by decide) rfl (fun ls hl => ?_)
    refine lv_goto (tgt := 12) hx hb dX2_greatestGain_24 (by decide) ?_
    refine ih_12 (sm, (ac_setMost (ai 5) (ai 14) (ai 9) (al 15) (al 16) (ac_sso (ac_cents (ai 6) (ai 7) (al 8) (al 10) (al 11)) na (al 17) na) (fi 1) na nr (sm + 1) ff)) (sm) H locs ls (by omega) ⟨rfl, (by omega), hf, ?_, hS, ?_⟩
    · exact hP
    · exact lv_sub hl [1, 0] rfl
end
section
set_option maxHeartbeats 4000000 in
set_option maxRecDepth 100000 in
theorem c_X3_keepParts (l : Launch) (D : va_G) (ad : Nat → Nat) (cI cL : ClassId) (fi : Nat → Int32) (fl : Nat → Int64) (ai : Nat → Nat → Int32) (al : Nat → Nat → Int64) (A : Nat → Prop) (na : Nat) (hna : fi 0 = nI na) (hnl : na ≤ 10) : Met l yX3_keepParts wsX3_keepParts (am_rm 3 65) (va_Pc [.ref (ad 3), .ref (ad 2)] (am_M nwL vwCl D A (ac_w ad cI cL fi fl ai al) [(cI, .int), (cL, .long)])) (am_Mv vwCl D (ac_w ad cI cL (upd fi 7 (ac_freed (ai 5) (fi 6) na)) fl ai (va_up al 20 (ac_brg (al 16) (ac_whole (ai 5) (fi 1) na (fi 6)) (al 20) 12))) A) 0 0 A := by
  refine am_startM (cc := cX3_keepParts) (maxL := 4) (ret := none) (by decide) rfl (Nat.le_of_ble_eq_true rfl) [(0, .ref (ad 3)), (1, .ref (ad 2))] rfl ?_
  intro p e s m below meth c ls hx hb hr hml hown hts hlocks hK hN hD H locs hP hS hl
  have hown : s.vm.findClass RX3 = some m.cls := hown
  have ht := am_ht hts
  have hin_X3 : ∀ w ∈ u_ws RX3 TX3 8, w ∈ wsX3_keepParts := fun w h => List.mem_cons_of_mem _ (am_inX3 w h)
  have hin_X2 : ∀ w ∈ u_ws RX2 TX2 4, w ∈ wsX3_keepParts := fun w h => List.mem_cons_of_mem _ (am_inX2 w h)
  have hf_15 := ht 134 (.fieldLink RX3 15 "ApartCost$Found" "brought" "[J") rfl
  have hf_23 := ht 127 (.fieldLink RX3 23 "ApartCost$Found" "set" "I") rfl
  have hf_43 := ht 107 (.fieldLink RX3 43 "ApartCost$Planner" "product" "LApartCost$Product;") rfl
  have hf_53 := ht 129 (.fieldLink RX3 53 "ApartCost$Found" "free" "I") rfl
  have hf_63 := ht 109 (.fieldLink RX3 63 "ApartCost$Planner" "values" "[J") rfl
  refine lv_aload_n hx hb dX3_keepParts_0 rfl (lv_at hl 0 rfl) ?_
  refine lv_aload_n hx hb dX3_keepParts_1 rfl (lv_at hl 1 rfl) ?_
  refine va_get (D := D) (ci := 2) (v := .ref (ad 1)) (C := RX2) (T := TX2) (N := 4) hx hb hts hin_X2 hown hK hP 2 rfl rfl 0 (by decide) hf_43 (fun _ h9 => h9) rfl dX3_keepParts_2 ?_
  refine lv_aload_n hx hb dX3_keepParts_5 rfl (lv_at hl 0 rfl) ?_
  refine va_get (D := D) (ci := 3) (v := .int (fi 6)) (C := RX3) (T := TX3) (N := 8) hx hb hts hin_X3 hown hK hP 3 rfl rfl 3 (by decide) hf_23 (fun _ h9 => h9) rfl dX3_keepParts_6 ?_
  refine am_callRi (W.runV (As := [.int (fi 6)]) (rest := [.ref (ad 3)]) ⟨hx, hb, hml, hown, hts⟩ (c_X1_freedBy l D ad cI cL fi fl ai al (fi 6) na hna hnl) (cwV 1 hts (am_gV (am_in 349 rfl) (am_in 321 rfl) (am_in 322 rfl) (am_in 30 rfl) (am_in 323 rfl)) rfl rfl rfl (by decide +kernel) ⟨Nat.le_of_ble_eq_true rfl, Nat.le_of_ble_eq_true rfl⟩) (am_preVR 1 1 rfl rfl rfl hP hK hN) rfl rfl hl.1 rfl (lv_room (Nat.le_of_ble_eq_true rfl)) dX3_keepParts_9 ⟨Nat.zero_le _, Nat.zero_le _⟩) ?_
  refine va_put (D := D) (ci := 3) (v := .int (ac_freed (ai 5) (fi 6) na)) (ty := .int) (C := RX3) (T := TX3) (N := 8) hx hb hts hin_X3 tyX3 tyX3_ok nmX3 hown hK hP hD hS 3 rfl rfl 4 (by decide) hf_53 (fun _ h9 => h9) rfl (by decide +kernel) rfl rfl (Nat.le_of_ble_eq_true rfl) dX3_keepParts_12 (fun H locs hP hD hS => ?_)
  have hP : va_P D vwCl (ac_w ad cI cL (upd fi 7 (ac_freed (ai 5) (fi 6) na)) fl ai al) H := hP
  have hD : va_D A (ac_w ad cI cL (upd fi 7 (ac_freed (ai 5) (fi 6) na)) fl ai al) := am_D hD rfl
  refine lv_aload_n hx hb dX3_keepParts_15 rfl (lv_at hl 1 rfl) ?_
  refine va_get (D := D) (ci := 2) (v := .ref (ad 1)) (C := RX2) (T := TX2) (N := 4) hx hb hts hin_X2 hown hK hP 2 rfl rfl 0 (by decide) hf_43 (fun _ h9 => h9) rfl dX3_keepParts_16 ?_
  refine lv_aload_n hx hb dX3_keepParts_19 rfl (lv_at hl 0 rfl) ?_
  refine va_get (D := D) (ci := 3) (v := .int (fi 6)) (C := RX3) (T := TX3) (N := 8) hx hb hts hin_X3 hown hK hP 3 rfl rfl 3 (by decide) hf_23 (fun _ h9 => h9) rfl dX3_keepParts_20 ?_
  refine am_callRi (W.runV (As := [.int (fi 6)]) (rest := []) ⟨hx, hb, hml, hown, hts⟩ (c_X1_wholeBy l D ad cI cL (upd fi 7 (ac_freed (ai 5) (fi 6) na)) fl ai al (fi 6) na hna hnl) (cwV 1 hts (am_gV (am_in 350 rfl) (am_in 317 rfl) (am_in 318 rfl) (am_in 30 rfl) (am_in 319 rfl)) rfl rfl rfl (by decide +kernel) ⟨Nat.le_of_ble_eq_true rfl, Nat.le_of_ble_eq_true rfl⟩) (am_preVR 1 1 rfl rfl rfl hP hK hN) rfl rfl hl.1 rfl (lv_room (Nat.le_of_ble_eq_true rfl)) dX3_keepParts_23 ⟨Nat.zero_le _, Nat.zero_le _⟩) ?_
  refine lv_istore_n (lv' := [(2, .int (ac_whole (ai 5) (fi 1) na (fi 6))), (0, .ref (ad 3)), (1, .ref (ad 2))]) hx hb dX3_keepParts_26 rfl hl (by decide) rfl (fun ls hl => ?_)
  refine lv_iconst (v := 0) hx hb dX3_keepParts_27 (by decide) ?_
  refine lv_istore_n (lv' := [(3, .int 0), (2, .int (ac_whole (ai 5) (fi 1) na (fi 6))), (0, .ref (ad 3)), (1, .ref (ad 2))]) hx hb dX3_keepParts_28 rfl hl (by decide) rfl (fun ls hl => ?_)
  refine am_loop (σ := Nat) (fun q n9 H locs ls => n9 = 12 - q ∧ q ≤ 12 ∧ va_P D vwCl (ac_w ad cI cL (upd fi 7 (ac_freed (ai 5) (fi 6) na)) fl ai (va_up al 20 (ac_brg (al 16) (ac_whole (ai 5) (fi 1) na (fi 6)) (al 20) q))) H ∧ va_S A s.heap H locs ∧ lv_has ls 4 [(0, .ref (ad 3)), (1, .ref (ad 2)), (2, .int (ac_whole (ai 5) (fi 1) na (fi 6))), (3, .int (nI q))]) ?_ 0 (12 - 0) H locs ls ⟨rfl, (by omega), hP, hS, lv_sub hl [2, 3, 1, 0] rfl⟩
  rintro k n9 H locs ls ⟨hn_29, hk, hP, hS, hl⟩ ih_29
  have hD : va_D A (ac_w ad cI cL (upd fi 7 (ac_freed (ai 5) (fi 6) na)) fl ai (va_up al 20 (ac_brg (al 16) (ac_whole (ai 5) (fi 1) na (fi 6)) (al 20) k))) := am_D hD rfl
  refine lv_iload_n hx hb dX3_keepParts_29 rfl (lv_at hl 3 rfl) ?_
  refine lv_bipush (v := 12) hx hb dX3_keepParts_30 (by decide) ?_
  refine lv_icmp_ge (tgt := 65) hx hb dX3_keepParts_32 (by decide) (fun c_32 => ?_) (fun c_32 => ?_)
  · skip
    have hke_32 : 12 ≤ k := (am_ge (rfl : (12 : Int32) = nI 12) (by decide) (by omega)).mp c_32
    have hkq_32 : k = 12 := by omega
    subst hkq_32
    exact am_vretM hx hb hr hlocks hP hS dX3_keepParts_65
  · skip
    have hkl_32 : k < 12 := Nat.lt_of_not_le (fun z => c_32 ((am_ge (rfl : (12 : Int32) = nI 12) (by decide) (by omega)).mpr z))
    refine lv_aload_n hx hb dX3_keepParts_35 rfl (lv_at hl 0 rfl) ?_
    refine va_get (D := D) (ci := 3) (v := .ref (ad 20)) (C := RX3) (T := TX3) (N := 8) hx hb hts hin_X3 hown hK hP 3 rfl rfl 7 (by decide) hf_15 (fun _ h9 => h9) rfl dX3_keepParts_36 ?_
    refine lv_iload_n hx hb dX3_keepParts_39 rfl (lv_at hl 3 rfl) ?_
    refine lv_iload_n hx hb dX3_keepParts_40 rfl (lv_at hl 2 rfl) ?_
    refine lv_iload_n hx hb dX3_keepParts_41 rfl (lv_at hl 3 rfl) ?_
    refine am_callRi (va_Run.run (va_runSN (As := [.int (ac_whole (ai 5) (fi 1) na (fi 6)), .int (nI k)]) (rest := [.int (nI k), .ref (ad 20)]) ⟨hx, hb, hml, hown, hts⟩ (c_X0_has l D _ _ (ac_whole (ai 5) (fi 1) na (fi 6)) (nI k)) ⟨va_cnB 2 hts (am_gN (am_in 206 rfl)) rfl rfl rfl (am_nw_at hN 3 rfl) (ht 29 _ rfl) (by decide +kernel) ⟨Nat.le_of_ble_eq_true rfl, Nat.le_of_ble_eq_true rfl⟩, (ht 205 _ rfl), trivial⟩ (am_preSR hP hK hN) rfl rfl hl.1 rfl (lv_room (Nat.le_of_ble_eq_true rfl)) dX3_keepParts_42 ⟨Nat.zero_le _, Nat.zero_le _⟩)) ?_
    refine lv_if_eq (tgt := 57) hx hb dX3_keepParts_45 (by decide) (fun c_45 => ?_) (fun c_45 => ?_)
    · skip
      refine lv_lconst (v := 0) hx hb dX3_keepParts_57 (by decide) ?_
      refine am_last hx hb hK hP hD hS 20 1 rfl rfl k rfl (by omega) (by decide) (ac_w ad cI cL (upd fi 7 (ac_freed (ai 5) (fi 6) na)) fl ai (va_up al 20 (vp_updL (ac_brg (al 16) (ac_whole (ai 5) (fi 1) na (fi 6)) (al 20) k) k 0))) rfl dX3_keepParts_58 (fun H locs hP hD hS => ?_)
      refine lv_iinc (v := nI (k + 1)) (lv' := [(3, .int (nI (k + 1))), (0, .ref (ad 3)), (1, .ref (ad 2)), (2, .int (ac_whole (ai 5) (fi 1) na (fi 6)))]) hx hb dX3_keepParts_59 hl (k := 3) rfl (nI_1 k) (by decide) rfl (fun ls hl => ?_)
      refine lv_goto (tgt := 29) hx hb dX3_keepParts_62 (by decide) ?_
      have e_29_0 : (ac_brg (al 16) (ac_whole (ai 5) (fi 1) na (fi 6)) (al 20) (k + 1)) = (vp_updL (ac_brg (al 16) (ac_whole (ai 5) (fi 1) na (fi 6)) (al 20) k) k 0) := by first | rfl | (simp only [ac_brg, c_32, c_45, if_true, if_false, eq_self, not_true_eq_false, not_false_eq_true, ite_true, ite_false, ↓reduceIte]; done) | (simp [ac_brg, c_32, c_45]; done)
      refine ih_29 (k + 1) (12 - (k + 1)) H locs ls (by omega) ⟨rfl, (by omega), ?_, hS, ?_⟩
      · (try dsimp only); (try rw [e_29_0]); exact hP
      · (try dsimp only); (try rw [e_29_0]); exact lv_sub hl [1, 2, 3, 0] rfl
    · skip
      refine lv_aload_n hx hb dX3_keepParts_48 rfl (lv_at hl 1 rfl) ?_
      refine va_get (D := D) (ci := 2) (v := .ref (ad 16)) (C := RX2) (T := TX2) (N := 4) hx hb hts hin_X2 hown hK hP 2 rfl rfl 1 (by decide) hf_63 (fun _ h9 => h9) rfl dX3_keepParts_49 ?_
      refine lv_iload_n hx hb dX3_keepParts_52 rfl (lv_at hl 3 rfl) ?_
      refine am_lald hx hb hK hP 16 1 rfl rfl k rfl (by omega) (by decide) dX3_keepParts_53 ?_
      refine lv_goto (tgt := 58) hx hb dX3_keepParts_54 (by decide) ?_
      refine am_last hx hb hK hP hD hS 20 1 rfl rfl k rfl (by omega) (by decide) (ac_w ad cI cL (upd fi 7 (ac_freed (ai 5) (fi 6) na)) fl ai (va_up al 20 (vp_updL (ac_brg (al 16) (ac_whole (ai 5) (fi 1) na (fi 6)) (al 20) k) k ((al 16) k)))) rfl dX3_keepParts_58 (fun H locs hP hD hS => ?_)
      refine lv_iinc (v := nI (k + 1)) (lv' := [(3, .int (nI (k + 1))), (0, .ref (ad 3)), (1, .ref (ad 2)), (2, .int (ac_whole (ai 5) (fi 1) na (fi 6)))]) hx hb dX3_keepParts_59 hl (k := 3) rfl (nI_1 k) (by decide) rfl (fun ls hl => ?_)
      refine lv_goto (tgt := 29) hx hb dX3_keepParts_62 (by decide) ?_
      have e_29_0 : (ac_brg (al 16) (ac_whole (ai 5) (fi 1) na (fi 6)) (al 20) (k + 1)) = (vp_updL (ac_brg (al 16) (ac_whole (ai 5) (fi 1) na (fi 6)) (al 20) k) k ((al 16) k)) := by first | rfl | (simp only [ac_brg, c_32, c_45, if_true, if_false, eq_self, not_true_eq_false, not_false_eq_true, ite_true, ite_false, ↓reduceIte]; done) | (simp [ac_brg, c_32, c_45]; done)
      refine ih_29 (k + 1) (12 - (k + 1)) H locs ls (by omega) ⟨rfl, (by omega), ?_, hS, ?_⟩
      · (try dsimp only); (try rw [e_29_0]); exact hP
      · (try dsimp only); (try rw [e_29_0]); exact lv_sub hl [1, 2, 3, 0] rfl

set_option maxHeartbeats 4000000 in
set_option maxRecDepth 100000 in
theorem c_X3_keepRow (l : Launch) (D : va_G) (ad : Nat → Nat) (cI cL : ClassId) (fi : Nat → Int32) (fl : Nat → Int64) (ai : Nat → Nat → Int32) (al : Nat → Nat → Int64) (A : Nat → Prop) (na : Nat) (nr : Nat) (hna : fi 0 = nI na) (hnl : na ≤ 10) (hnr : fi 2 = nI nr) (hnrl : nr ≤ 16) : Met l yX3_keepRow wsX3_keepRow (am_rm 5 118) (va_Pc [.ref (ad 3), .ref (ad 2)] (am_M nwL vwCl D A (ac_w ad cI cL fi fl ai al) [(cI, .int), (cL, .long)])) (am_Mv vwCl D (ac_w ad cI cL (upd (upd (upd (upd (upd fi 3 1) 4 1) 5 (nI (ac_rk fi ai al na nr).2.1)) 6 (nI (ac_rk fi ai al na nr).2.2)) 7 (ac_freed (ai 5) (nI (ac_rk fi ai al na nr).2.2) na)) fl (va_up ai 19 ((ac_rk fi ai al na nr).1)) (va_up al 20 (ac_rb fi ai al na (nI (ac_rk fi ai al na nr).2.2)))) A) 0 0 A := by
  refine am_startM (cc := cX3_keepRow) (maxL := 3) (ret := none) (by decide) rfl (Nat.le_of_ble_eq_true rfl) [(0, .ref (ad 3)), (1, .ref (ad 2))] rfl ?_
  intro p e s m below meth c ls hx hb hr hml hown hts hlocks hK hN hD H locs hP hS hl
  have hown : s.vm.findClass RX3 = some m.cls := hown
  have ht := am_ht hts
  have hin_X3 : ∀ w ∈ u_ws RX3 TX3 8, w ∈ wsX3_keepRow := fun w h => List.mem_cons_of_mem _ (am_inX3 w h)
  have hf_19 := ht 125 (.fieldLink RX3 19 "ApartCost$Found" "length" "I") rfl
  have hf_23 := ht 127 (.fieldLink RX3 23 "ApartCost$Found" "set" "I") rfl
  have hf_36 := ht 121 (.fieldLink RX3 36 "ApartCost$Found" "any" "Z") rfl
  have hf_40 := ht 124 (.fieldLink RX3 40 "ApartCost$Found" "upToDate" "Z") rfl
  have hf_9 := ht 132 (.fieldLink RX3 9 "ApartCost$Found" "row" "[I") rfl
  refine lv_aload_n hx hb dX3_keepRow_0 rfl (lv_at hl 0 rfl) ?_
  refine lv_iconst (v := 0) hx hb dX3_keepRow_1 (by decide) ?_
  refine va_put (D := D) (ci := 3) (v := .int 0) (ty := .int) (C := RX3) (T := TX3) (N := 8) hx hb hts hin_X3 tyX3 tyX3_ok nmX3 hown hK hP hD hS 3 rfl rfl 2 (by decide) hf_19 (fun _ h9 => h9) rfl (by decide +kernel) rfl rfl (Nat.le_of_ble_eq_true rfl) dX3_keepRow_2 (fun H locs hP hD hS => ?_)
  have hP : va_P D vwCl (ac_w ad cI cL (upd fi 5 0) fl ai al) H := hP
  have hD : va_D A (ac_w ad cI cL (upd fi 5 0) fl ai al) := am_D hD rfl
  refine lv_aload_n hx hb dX3_keepRow_5 rfl (lv_at hl 0 rfl) ?_
  refine lv_iconst (v := 0) hx hb dX3_keepRow_6 (by decide) ?_
  refine va_put (D := D) (ci := 3) (v := .int 0) (ty := .int) (C := RX3) (T := TX3) (N := 8) hx hb hts hin_X3 tyX3 tyX3_ok nmX3 hown hK hP hD hS 3 rfl rfl 3 (by decide) hf_23 (fun _ h9 => h9) rfl (by decide +kernel) rfl rfl (Nat.le_of_ble_eq_true rfl) dX3_keepRow_7 (fun H locs hP hD hS => ?_)
  have hP : va_P D vwCl (ac_w ad cI cL (upd (upd fi 5 0) 6 0) fl ai al) H := hP
  have hD : va_D A (ac_w ad cI cL (upd (upd fi 5 0) 6 0) fl ai al) := am_D hD rfl
  refine lv_aload_n hx hb dX3_keepRow_10 rfl (lv_at hl 1 rfl) ?_
  refine lv_iconst (v := 0) hx hb dX3_keepRow_11 (by decide) ?_
  refine lv_iconst (v := (-1)) hx hb dX3_keepRow_12 (by decide) ?_
  refine am_callRi (W.runV (As := [.int 0, .int (-1)]) (rest := []) ⟨hx, hb, hml, hown, hts⟩ (c_X2_bestNext l D ad cI cL (upd (upd fi 5 0) 6 0) fl ai al 0 0 na nr hna hnl hnr hnrl (by omega) (by omega)) (cwV 2 hts (am_gV (am_in 342 rfl) (am_in 343 rfl) (am_in 344 rfl) (am_in 32 rfl) (am_in 345 rfl)) rfl rfl rfl (by decide +kernel) ⟨Nat.le_of_ble_eq_true rfl, Nat.le_of_ble_eq_true rfl⟩) (am_preVR 2 2 rfl rfl rfl hP hK hN) rfl rfl hl.1 rfl (lv_room (Nat.le_of_ble_eq_true rfl)) dX3_keepRow_13 ⟨Nat.zero_le _, Nat.zero_le _⟩) ?_
  refine lv_istore_n (lv' := [(2, .int (ac_la (ac_bn (ai 5) (ai 14) (ai 9) (al 15) (al 16) (al 17) (al 18) (fi 1) na nr 0 0))), (0, .ref (ad 3)), (1, .ref (ad 2))]) hx hb dX3_keepRow_16 rfl hl (by decide) rfl (fun ls hl => ?_)
  refine am_loop (σ := (Nat → Int32) × (Nat) × (Nat) × (Nat)) (fun q n9 H locs ls => n9 = 10 - q.2.1 ∧ q.2.1 ≤ 10 ∧ q.2.2.1 < 1024 ∧ q.2.2.2 ≤ na ∧ ac_kr (ac_bn (ai 5) (ai 14) (ai 9) (al 15) (al 16) (al 17) (al 18) (fi 1) na nr) (10 - q.2.1) q.1 q.2.1 q.2.2.1 q.2.2.2 = (ac_kr (ac_bn (ai 5) (ai 14) (ai 9) (al 15) (al 16) (al 17) (al 18) (fi 1) na nr) 10 (ai 19) 0 0 ((ac_bn (ai 5) (ai 14) (ai 9) (al 15) (al 16) (al 17) (al 18) (fi 1) na nr) 0 0)) ∧ va_P D vwCl (ac_w ad cI cL (upd (upd fi 5 (nI q.2.1)) 6 (nI q.2.2.1)) fl (va_up ai 19 q.1) al) H ∧ va_S A s.heap H locs ∧ lv_has ls 3 [(0, .ref (ad 3)), (1, .ref (ad 2)), (2, .int (ac_la q.2.2.2))]) ?_ ((ai 19), 0, 0, (ac_bn (ai 5) (ai 14) (ai 9) (al 15) (al 16) (al 17) (al 18) (fi 1) na nr) 0 0) (10 - 0) H locs ls ⟨rfl, (by first | omega | (dsimp only; omega)), (by first | omega | (dsimp only; omega)), (ac_bn_le _ _ _ _ _ _ _ _ _ _ _ _), rfl, hP, hS, lv_sub hl [1, 2, 0] rfl⟩
  rintro ⟨rw9, ln, sn, j⟩ n9 H locs ls ⟨hn_17, hln, hsn, hj, hm, hP, hS, hl⟩ ih_17
  dsimp only at hn_17 hln hsn hj hm hP hl
  have hD : va_D A (ac_w ad cI cL (upd (upd fi 5 (nI ln)) 6 (nI sn)) fl (va_up ai 19 rw9) al) := am_D hD rfl
  refine lv_iload_n hx hb dX3_keepRow_17 rfl (lv_at hl 2 rfl) ?_
  refine lv_iconst (v := (-1)) hx hb dX3_keepRow_18 (by decide) ?_
  refine lv_icmp_eq (tgt := 76) hx hb dX3_keepRow_19 (by decide) (fun c_19 => ?_) (fun c_19 => ?_)
  · skip
    obtain rfl : j = 0 := by cases j with | zero => rfl | succ z => exact absurd c_19 (ac_la_ne z (by omega))
    have hm : (rw9, ln, sn) = (ac_kr (ac_bn (ai 5) (ai 14) (ai 9) (al 15) (al 16) (al 17) (al 18) (fi 1) na nr) 10 (ai 19) 0 0 ((ac_bn (ai 5) (ai 14) (ai 9) (al 15) (al 16) (al 17) (al 18) (fi 1) na nr) 0 0)) := by rw [← hm, ac_kr_0]
    have hrow : rw9 = (ac_kr (ac_bn (ai 5) (ai 14) (ai 9) (al 15) (al 16) (al 17) (al 18) (fi 1) na nr) 10 (ai 19) 0 0 ((ac_bn (ai 5) (ai 14) (ai 9) (al 15) (al 16) (al 17) (al 18) (fi 1) na nr) 0 0)).1 := by rw [← hm]
    have hlen9 : ln = (ac_kr (ac_bn (ai 5) (ai 14) (ai 9) (al 15) (al 16) (al 17) (al 18) (fi 1) na nr) 10 (ai 19) 0 0 ((ac_bn (ai 5) (ai 14) (ai 9) (al 15) (al 16) (al 17) (al 18) (fi 1) na nr) 0 0)).2.1 := by rw [← hm]
    have hset9 : sn = (ac_kr (ac_bn (ai 5) (ai 14) (ai 9) (al 15) (al 16) (al 17) (al 18) (fi 1) na nr) 10 (ai 19) 0 0 ((ac_bn (ai 5) (ai 14) (ai 9) (al 15) (al 16) (al 17) (al 18) (fi 1) na nr) 0 0)).2.2 := by rw [← hm]
    subst hrow hlen9 hset9
    refine lv_aload_n hx hb dX3_keepRow_76 rfl (lv_at hl 0 rfl) ?_
    refine lv_aload_n hx hb dX3_keepRow_77 rfl (lv_at hl 1 rfl) ?_
    refine am_callMv (va_runV (As := [.ref (ad 2)]) (rest := []) ⟨hx, hb, hml, hown, hts⟩ (c_X3_keepParts l D ad cI cL (upd (upd fi 5 (nI (ac_kr (ac_bn (ai 5) (ai 14) (ai 9) (al 15) (al 16) (al 17) (al 18) (fi 1) na nr) 10 (ai 19) 0 0 ((ac_bn (ai 5) (ai 14) (ai 9) (al 15) (al 16) (al 17) (al 18) (fi 1) na nr) 0 0)).2.1)) 6 (nI (ac_kr (ac_bn (ai 5) (ai 14) (ai 9) (al 15) (al 16) (al 17) (al 18) (fi 1) na nr) 10 (ai 19) 0 0 ((ac_bn (ai 5) (ai 14) (ai 9) (al 15) (al 16) (al 17) (al 18) (fi 1) na nr) 0 0)).2.2)) fl (va_up ai 19 (ac_kr (ac_bn (ai 5) (ai 14) (ai 9) (al 15) (al 16) (al 17) (al 18) (fi 1) na nr) 10 (ai 19) 0 0 ((ac_bn (ai 5) (ai 14) (ai 9) (al 15) (al 16) (al 17) (al 18) (fi 1) na nr) 0 0)).1) al A na hna hnl) (cwV 1 hts (am_gV (am_in 346 rfl) (am_in 347 rfl) (am_in 7 rfl) (am_in 33 rfl) (am_in 348 rfl)) rfl rfl rfl (by decide +kernel) ⟨Nat.le_of_ble_eq_true rfl, Nat.le_of_ble_eq_true rfl⟩) (am_preVM 3 3 rfl rfl rfl hP hK hN hD) rfl rfl hl.1 rfl (lv_room (Nat.le_of_ble_eq_true rfl)) dX3_keepRow_78 ⟨Nat.zero_le _, Nat.zero_le _⟩) hS (fun H locs hP hS => ?_)
    have hP : va_P D vwCl (ac_w ad cI cL (upd (upd (upd fi 5 (nI (ac_kr (ac_bn (ai 5) (ai 14) (ai 9) (al 15) (al 16) (al 17) (al 18) (fi 1) na nr) 10 (ai 19) 0 0 ((ac_bn (ai 5) (ai 14) (ai 9) (al 15) (al 16) (al 17) (al 18) (fi 1) na nr) 0 0)).2.1)) 6 (nI (ac_kr (ac_bn (ai 5) (ai 14) (ai 9) (al 15) (al 16) (al 17) (al 18) (fi 1) na nr) 10 (ai 19) 0 0 ((ac_bn (ai 5) (ai 14) (ai 9) (al 15) (al 16) (al 17) (al 18) (fi 1) na nr) 0 0)).2.2)) 7 (ac_freed (ai 5) (nI (ac_kr (ac_bn (ai 5) (ai 14) (ai 9) (al 15) (al 16) (al 17) (al 18) (fi 1) na nr) 10 (ai 19) 0 0 ((ac_bn (ai 5) (ai 14) (ai 9) (al 15) (al 16) (al 17) (al 18) (fi 1) na nr) 0 0)).2.2) na)) fl (va_up ai 19 (ac_kr (ac_bn (ai 5) (ai 14) (ai 9) (al 15) (al 16) (al 17) (al 18) (fi 1) na nr) 10 (ai 19) 0 0 ((ac_bn (ai 5) (ai 14) (ai 9) (al 15) (al 16) (al 17) (al 18) (fi 1) na nr) 0 0)).1) (va_up al 20 (ac_brg (al 16) (ac_whole (ai 5) (fi 1) na (nI (ac_kr (ac_bn (ai 5) (ai 14) (ai 9) (al 15) (al 16) (al 17) (al 18) (fi 1) na nr) 10 (ai 19) 0 0 ((ac_bn (ai 5) (ai 14) (ai 9) (al 15) (al 16) (al 17) (al 18) (fi 1) na nr) 0 0)).2.2)) (al 20) 12))) H := hP
    have hD : va_D A (ac_w ad cI cL (upd (upd (upd fi 5 (nI (ac_kr (ac_bn (ai 5) (ai 14) (ai 9) (al 15) (al 16) (al 17) (al 18) (fi 1) na nr) 10 (ai 19) 0 0 ((ac_bn (ai 5) (ai 14) (ai 9) (al 15) (al 16) (al 17) (al 18) (fi 1) na nr) 0 0)).2.1)) 6 (nI (ac_kr (ac_bn (ai 5) (ai 14) (ai 9) (al 15) (al 16) (al 17) (al 18) (fi 1) na nr) 10 (ai 19) 0 0 ((ac_bn (ai 5) (ai 14) (ai 9) (al 15) (al 16) (al 17) (al 18) (fi 1) na nr) 0 0)).2.2)) 7 (ac_freed (ai 5) (nI (ac_kr (ac_bn (ai 5) (ai 14) (ai 9) (al 15) (al 16) (al 17) (al 18) (fi 1) na nr) 10 (ai 19) 0 0 ((ac_bn (ai 5) (ai 14) (ai 9) (al 15) (al 16) (al 17) (al 18) (fi 1) na nr) 0 0)).2.2) na)) fl (va_up ai 19 (ac_kr (ac_bn (ai 5) (ai 14) (ai 9) (al 15) (al 16) (al 17) (al 18) (fi 1) na nr) 10 (ai 19) 0 0 ((ac_bn (ai 5) (ai 14) (ai 9) (al 15) (al 16) (al 17) (al 18) (fi 1) na nr) 0 0)).1) (va_up al 20 (ac_brg (al 16) (ac_whole (ai 5) (fi 1) na (nI (ac_kr (ac_bn (ai 5) (ai 14) (ai 9) (al 15) (al 16) (al 17) (al 18) (fi 1) na nr) 10 (ai 19) 0 0 ((ac_bn (ai 5) (ai 14) (ai 9) (al 15) (al 16) (al 17) (al 18) (fi 1) na nr) 0 0)).2.2)) (al 20) 12))) := am_D hD rfl
    refine lv_aload_n hx hb dX3_keepRow_81 rfl (lv_at hl 0 rfl) ?_
    refine lv_iconst (v := 1) hx hb dX3_keepRow_82 (by decide) ?_
    refine va_put (D := D) (ci := 3) (v := .int 1) (ty := .boolean) (C := RX3) (T := TX3) (N := 8) hx hb hts hin_X3 tyX3 tyX3_ok nmX3 hown hK hP hD hS 3 rfl rfl 0 (by decide) hf_36 (fun _ h9 => h9) rfl (by decide +kernel) rfl rfl (Nat.le_of_ble_eq_true rfl) dX3_keepRow_83 (fun H locs hP hD hS => ?_)
    have hP : va_P D vwCl (ac_w ad cI cL (upd (upd (upd (upd fi 3 1) 5 (nI (ac_kr (ac_bn (ai 5) (ai 14) (ai 9) (al 15) (al 16) (al 17) (al 18) (fi 1) na nr) 10 (ai 19) 0 0 ((ac_bn (ai 5) (ai 14) (ai 9) (al 15) (al 16) (al 17) (al 18) (fi 1) na nr) 0 0)).2.1)) 6 (nI (ac_kr (ac_bn (ai 5) (ai 14) (ai 9) (al 15) (al 16) (al 17) (al 18) (fi 1) na nr) 10 (ai 19) 0 0 ((ac_bn (ai 5) (ai 14) (ai 9) (al 15) (al 16) (al 17) (al 18) (fi 1) na nr) 0 0)).2.2)) 7 (ac_freed (ai 5) (nI (ac_kr (ac_bn (ai 5) (ai 14) (ai 9) (al 15) (al 16) (al 17) (al 18) (fi 1) na nr) 10 (ai 19) 0 0 ((ac_bn (ai 5) (ai 14) (ai 9) (al 15) (al 16) (al 17) (al 18) (fi 1) na nr) 0 0)).2.2) na)) fl (va_up ai 19 (ac_kr (ac_bn (ai 5) (ai 14) (ai 9) (al 15) (al 16) (al 17) (al 18) (fi 1) na nr) 10 (ai 19) 0 0 ((ac_bn (ai 5) (ai 14) (ai 9) (al 15) (al 16) (al 17) (al 18) (fi 1) na nr) 0 0)).1) (va_up al 20 (ac_brg (al 16) (ac_whole (ai 5) (fi 1) na (nI (ac_kr (ac_bn (ai 5) (ai 14) (ai 9) (al 15) (al 16) (al 17) (al 18) (fi 1) na nr) 10 (ai 19) 0 0 ((ac_bn (ai 5) (ai 14) (ai 9) (al 15) (al 16) (al 17) (al 18) (fi 1) na nr) 0 0)).2.2)) (al 20) 12))) H := hP
    have hD : va_D A (ac_w ad cI cL (upd (upd (upd (upd fi 3 1) 5 (nI (ac_kr (ac_bn (ai 5) (ai 14) (ai 9) (al 15) (al 16) (al 17) (al 18) (fi 1) na nr) 10 (ai 19) 0 0 ((ac_bn (ai 5) (ai 14) (ai 9) (al 15) (al 16) (al 17) (al 18) (fi 1) na nr) 0 0)).2.1)) 6 (nI (ac_kr (ac_bn (ai 5) (ai 14) (ai 9) (al 15) (al 16) (al 17) (al 18) (fi 1) na nr) 10 (ai 19) 0 0 ((ac_bn (ai 5) (ai 14) (ai 9) (al 15) (al 16) (al 17) (al 18) (fi 1) na nr) 0 0)).2.2)) 7 (ac_freed (ai 5) (nI (ac_kr (ac_bn (ai 5) (ai 14) (ai 9) (al 15) (al 16) (al 17) (al 18) (fi 1) na nr) 10 (ai 19) 0 0 ((ac_bn (ai 5) (ai 14) (ai 9) (al 15) (al 16) (al 17) (al 18) (fi 1) na nr) 0 0)).2.2) na)) fl (va_up ai 19 (ac_kr (ac_bn (ai 5) (ai 14) (ai 9) (al 15) (al 16) (al 17) (al 18) (fi 1) na nr) 10 (ai 19) 0 0 ((ac_bn (ai 5) (ai 14) (ai 9) (al 15) (al 16) (al 17) (al 18) (fi 1) na nr) 0 0)).1) (va_up al 20 (ac_brg (al 16) (ac_whole (ai 5) (fi 1) na (nI (ac_kr (ac_bn (ai 5) (ai 14) (ai 9) (al 15) (al 16) (al 17) (al 18) (fi 1) na nr) 10 (ai 19) 0 0 ((ac_bn (ai 5) (ai 14) (ai 9) (al 15) (al 16) (al 17) (al 18) (fi 1) na nr) 0 0)).2.2)) (al 20) 12))) := am_D hD rfl
    refine lv_aload_n hx hb dX3_keepRow_86 rfl (lv_at hl 0 rfl) ?_
    refine lv_iconst (v := 1) hx hb dX3_keepRow_87 (by decide) ?_
    refine va_put (D := D) (ci := 3) (v := .int 1) (ty := .boolean) (C := RX3) (T := TX3) (N := 8) hx hb hts hin_X3 tyX3 tyX3_ok nmX3 hown hK hP hD hS 3 rfl rfl 1 (by decide) hf_40 (fun _ h9 => h9) rfl (by decide +kernel) rfl rfl (Nat.le_of_ble_eq_true rfl) dX3_keepRow_88 (fun H locs hP hD hS => ?_)
    have hP : va_P D vwCl (ac_w ad cI cL (upd (upd (upd (upd (upd fi 3 1) 4 1) 5 (nI (ac_kr (ac_bn (ai 5) (ai 14) (ai 9) (al 15) (al 16) (al 17) (al 18) (fi 1) na nr) 10 (ai 19) 0 0 ((ac_bn (ai 5) (ai 14) (ai 9) (al 15) (al 16) (al 17) (al 18) (fi 1) na nr) 0 0)).2.1)) 6 (nI (ac_kr (ac_bn (ai 5) (ai 14) (ai 9) (al 15) (al 16) (al 17) (al 18) (fi 1) na nr) 10 (ai 19) 0 0 ((ac_bn (ai 5) (ai 14) (ai 9) (al 15) (al 16) (al 17) (al 18) (fi 1) na nr) 0 0)).2.2)) 7 (ac_freed (ai 5) (nI (ac_kr (ac_bn (ai 5) (ai 14) (ai 9) (al 15) (al 16) (al 17) (al 18) (fi 1) na nr) 10 (ai 19) 0 0 ((ac_bn (ai 5) (ai 14) (ai 9) (al 15) (al 16) (al 17) (al 18) (fi 1) na nr) 0 0)).2.2) na)) fl (va_up ai 19 (ac_kr (ac_bn (ai 5) (ai 14) (ai 9) (al 15) (al 16) (al 17) (al 18) (fi 1) na nr) 10 (ai 19) 0 0 ((ac_bn (ai 5) (ai 14) (ai 9) (al 15) (al 16) (al 17) (al 18) (fi 1) na nr) 0 0)).1) (va_up al 20 (ac_brg (al 16) (ac_whole (ai 5) (fi 1) na (nI (ac_kr (ac_bn (ai 5) (ai 14) (ai 9) (al 15) (al 16) (al 17) (al 18) (fi 1) na nr) 10 (ai 19) 0 0 ((ac_bn (ai 5) (ai 14) (ai 9) (al 15) (al 16) (al 17) (al 18) (fi 1) na nr) 0 0)).2.2)) (al 20) 12))) H := hP
    have hD : va_D A (ac_w ad cI cL (upd (upd (upd (upd (upd fi 3 1) 4 1) 5 (nI (ac_kr (ac_bn (ai 5) (ai 14) (ai 9) (al 15) (al 16) (al 17) (al 18) (fi 1) na nr) 10 (ai 19) 0 0 ((ac_bn (ai 5) (ai 14) (ai 9) (al 15) (al 16) (al 17) (al 18) (fi 1) na nr) 0 0)).2.1)) 6 (nI (ac_kr (ac_bn (ai 5) (ai 14) (ai 9) (al 15) (al 16) (al 17) (al 18) (fi 1) na nr) 10 (ai 19) 0 0 ((ac_bn (ai 5) (ai 14) (ai 9) (al 15) (al 16) (al 17) (al 18) (fi 1) na nr) 0 0)).2.2)) 7 (ac_freed (ai 5) (nI (ac_kr (ac_bn (ai 5) (ai 14) (ai 9) (al 15) (al 16) (al 17) (al 18) (fi 1) na nr) 10 (ai 19) 0 0 ((ac_bn (ai 5) (ai 14) (ai 9) (al 15) (al 16) (al 17) (al 18) (fi 1) na nr) 0 0)).2.2) na)) fl (va_up ai 19 (ac_kr (ac_bn (ai 5) (ai 14) (ai 9) (al 15) (al 16) (al 17) (al 18) (fi 1) na nr) 10 (ai 19) 0 0 ((ac_bn (ai 5) (ai 14) (ai 9) (al 15) (al 16) (al 17) (al 18) (fi 1) na nr) 0 0)).1) (va_up al 20 (ac_brg (al 16) (ac_whole (ai 5) (fi 1) na (nI (ac_kr (ac_bn (ai 5) (ai 14) (ai 9) (al 15) (al 16) (al 17) (al 18) (fi 1) na nr) 10 (ai 19) 0 0 ((ac_bn (ai 5) (ai 14) (ai 9) (al 15) (al 16) (al 17) (al 18) (fi 1) na nr) 0 0)).2.2)) (al 20) 12))) := am_D hD rfl
    exact am_vretM hx hb hr hlocks hP hS dX3_keepRow_91
  · skip
    obtain ⟨a, rfl⟩ : ∃ z, j = z + 1 := by cases j with | zero => exact absurd rfl c_19 | succ z => exact ⟨z, rfl⟩
    have hl : lv_has ls 3 [(0, .ref (ad 3)), (1, .ref (ad 2)), (2, .int (nI a))] := hl
    refine lv_aload_n hx hb dX3_keepRow_22 rfl (lv_at hl 0 rfl) ?_
    refine va_get (D := D) (ci := 3) (v := .int (nI ln)) (C := RX3) (T := TX3) (N := 8) hx hb hts hin_X3 hown hK hP 3 rfl rfl 2 (by decide) hf_19 (fun _ h9 => h9) rfl dX3_keepRow_23 ?_
    refine lv_bipush (v := 10) hx hb dX3_keepRow_26 (by decide) ?_
    refine lv_icmp_ge (tgt := 76) hx hb dX3_keepRow_28 (by decide) (fun c_28 => ?_) (fun c_28 => ?_)
    · skip
      have hl9 : ln = 10 := by have h := c_28; rw [show (10 : Int32) = nI 10 from rfl, nI_leI (by omega) (by omega)] at h; omega
      have hm : (rw9, ln, sn) = (ac_kr (ac_bn (ai 5) (ai 14) (ai 9) (al 15) (al 16) (al 17) (al 18) (fi 1) na nr) 10 (ai 19) 0 0 ((ac_bn (ai 5) (ai 14) (ai 9) (al 15) (al 16) (al 17) (al 18) (fi 1) na nr) 0 0)) := by rw [← hm, hl9]; rfl
      have hrow : rw9 = (ac_kr (ac_bn (ai 5) (ai 14) (ai 9) (al 15) (al 16) (al 17) (al 18) (fi 1) na nr) 10 (ai 19) 0 0 ((ac_bn (ai 5) (ai 14) (ai 9) (al 15) (al 16) (al 17) (al 18) (fi 1) na nr) 0 0)).1 := by rw [← hm]
      have hlen9 : ln = (ac_kr (ac_bn (ai 5) (ai 14) (ai 9) (al 15) (al 16) (al 17) (al 18) (fi 1) na nr) 10 (ai 19) 0 0 ((ac_bn (ai 5) (ai 14) (ai 9) (al 15) (al 16) (al 17) (al 18) (fi 1) na nr) 0 0)).2.1 := by rw [← hm]
      have hset9 : sn = (ac_kr (ac_bn (ai 5) (ai 14) (ai 9) (al 15) (al 16) (al 17) (al 18) (fi 1) na nr) 10 (ai 19) 0 0 ((ac_bn (ai 5) (ai 14) (ai 9) (al 15) (al 16) (al 17) (al 18) (fi 1) na nr) 0 0)).2.2 := by rw [← hm]
      subst hrow hlen9 hset9
      refine lv_aload_n hx hb dX3_keepRow_76 rfl (lv_at hl 0 rfl) ?_
      refine lv_aload_n hx hb dX3_keepRow_77 rfl (lv_at hl 1 rfl) ?_
      refine am_callMv (va_runV (As := [.ref (ad 2)]) (rest := []) ⟨hx, hb, hml, hown, hts⟩ (c_X3_keepParts l D ad cI cL (upd (upd fi 5 (nI (ac_kr (ac_bn (ai 5) (ai 14) (ai 9) (al 15) (al 16) (al 17) (al 18) (fi 1) na nr) 10 (ai 19) 0 0 ((ac_bn (ai 5) (ai 14) (ai 9) (al 15) (al 16) (al 17) (al 18) (fi 1) na nr) 0 0)).2.1)) 6 (nI (ac_kr (ac_bn (ai 5) (ai 14) (ai 9) (al 15) (al 16) (al 17) (al 18) (fi 1) na nr) 10 (ai 19) 0 0 ((ac_bn (ai 5) (ai 14) (ai 9) (al 15) (al 16) (al 17) (al 18) (fi 1) na nr) 0 0)).2.2)) fl (va_up ai 19 (ac_kr (ac_bn (ai 5) (ai 14) (ai 9) (al 15) (al 16) (al 17) (al 18) (fi 1) na nr) 10 (ai 19) 0 0 ((ac_bn (ai 5) (ai 14) (ai 9) (al 15) (al 16) (al 17) (al 18) (fi 1) na nr) 0 0)).1) al A na hna hnl) (cwV 1 hts (am_gV (am_in 346 rfl) (am_in 347 rfl) (am_in 7 rfl) (am_in 33 rfl) (am_in 348 rfl)) rfl rfl rfl (by decide +kernel) ⟨Nat.le_of_ble_eq_true rfl, Nat.le_of_ble_eq_true rfl⟩) (am_preVM 3 3 rfl rfl rfl hP hK hN hD) rfl rfl hl.1 rfl (lv_room (Nat.le_of_ble_eq_true rfl)) dX3_keepRow_78 ⟨Nat.zero_le _, Nat.zero_le _⟩) hS (fun H locs hP hS => ?_)
      have hP : va_P D vwCl (ac_w ad cI cL (upd (upd (upd fi 5 (nI (ac_kr (ac_bn (ai 5) (ai 14) (ai 9) (al 15) (al 16) (al 17) (al 18) (fi 1) na nr) 10 (ai 19) 0 0 ((ac_bn (ai 5) (ai 14) (ai 9) (al 15) (al 16) (al 17) (al 18) (fi 1) na nr) 0 0)).2.1)) 6 (nI (ac_kr (ac_bn (ai 5) (ai 14) (ai 9) (al 15) (al 16) (al 17) (al 18) (fi 1) na nr) 10 (ai 19) 0 0 ((ac_bn (ai 5) (ai 14) (ai 9) (al 15) (al 16) (al 17) (al 18) (fi 1) na nr) 0 0)).2.2)) 7 (ac_freed (ai 5) (nI (ac_kr (ac_bn (ai 5) (ai 14) (ai 9) (al 15) (al 16) (al 17) (al 18) (fi 1) na nr) 10 (ai 19) 0 0 ((ac_bn (ai 5) (ai 14) (ai 9) (al 15) (al 16) (al 17) (al 18) (fi 1) na nr) 0 0)).2.2) na)) fl (va_up ai 19 (ac_kr (ac_bn (ai 5) (ai 14) (ai 9) (al 15) (al 16) (al 17) (al 18) (fi 1) na nr) 10 (ai 19) 0 0 ((ac_bn (ai 5) (ai 14) (ai 9) (al 15) (al 16) (al 17) (al 18) (fi 1) na nr) 0 0)).1) (va_up al 20 (ac_brg (al 16) (ac_whole (ai 5) (fi 1) na (nI (ac_kr (ac_bn (ai 5) (ai 14) (ai 9) (al 15) (al 16) (al 17) (al 18) (fi 1) na nr) 10 (ai 19) 0 0 ((ac_bn (ai 5) (ai 14) (ai 9) (al 15) (al 16) (al 17) (al 18) (fi 1) na nr) 0 0)).2.2)) (al 20) 12))) H := hP
      have hD : va_D A (ac_w ad cI cL (upd (upd (upd fi 5 (nI (ac_kr (ac_bn (ai 5) (ai 14) (ai 9) (al 15) (al 16) (al 17) (al 18) (fi 1) na nr) 10 (ai 19) 0 0 ((ac_bn (ai 5) (ai 14) (ai 9) (al 15) (al 16) (al 17) (al 18) (fi 1) na nr) 0 0)).2.1)) 6 (nI (ac_kr (ac_bn (ai 5) (ai 14) (ai 9) (al 15) (al 16) (al 17) (al 18) (fi 1) na nr) 10 (ai 19) 0 0 ((ac_bn (ai 5) (ai 14) (ai 9) (al 15) (al 16) (al 17) (al 18) (fi 1) na nr) 0 0)).2.2)) 7 (ac_freed (ai 5) (nI (ac_kr (ac_bn (ai 5) (ai 14) (ai 9) (al 15) (al 16) (al 17) (al 18) (fi 1) na nr) 10 (ai 19) 0 0 ((ac_bn (ai 5) (ai 14) (ai 9) (al 15) (al 16) (al 17) (al 18) (fi 1) na nr) 0 0)).2.2) na)) fl (va_up ai 19 (ac_kr (ac_bn (ai 5) (ai 14) (ai 9) (al 15) (al 16) (al 17) (al 18) (fi 1) na nr) 10 (ai 19) 0 0 ((ac_bn (ai 5) (ai 14) (ai 9) (al 15) (al 16) (al 17) (al 18) (fi 1) na nr) 0 0)).1) (va_up al 20 (ac_brg (al 16) (ac_whole (ai 5) (fi 1) na (nI (ac_kr (ac_bn (ai 5) (ai 14) (ai 9) (al 15) (al 16) (al 17) (al 18) (fi 1) na nr) 10 (ai 19) 0 0 ((ac_bn (ai 5) (ai 14) (ai 9) (al 15) (al 16) (al 17) (al 18) (fi 1) na nr) 0 0)).2.2)) (al 20) 12))) := am_D hD rfl
      refine lv_aload_n hx hb dX3_keepRow_81 rfl (lv_at hl 0 rfl) ?_
      refine lv_iconst (v := 1) hx hb dX3_keepRow_82 (by decide) ?_
      refine va_put (D := D) (ci := 3) (v := .int 1) (ty := .boolean) (C := RX3) (T := TX3) (N := 8) hx hb hts hin_X3 tyX3 tyX3_ok nmX3 hown hK hP hD hS 3 rfl rfl 0 (by decide) hf_36 (fun _ h9 => h9) rfl (by decide +kernel) rfl rfl (Nat.le_of_ble_eq_true rfl) dX3_keepRow_83 (fun H locs hP hD hS => ?_)
      have hP : va_P D vwCl (ac_w ad cI cL (upd (upd (upd (upd fi 3 1) 5 (nI (ac_kr (ac_bn (ai 5) (ai 14) (ai 9) (al 15) (al 16) (al 17) (al 18) (fi 1) na nr) 10 (ai 19) 0 0 ((ac_bn (ai 5) (ai 14) (ai 9) (al 15) (al 16) (al 17) (al 18) (fi 1) na nr) 0 0)).2.1)) 6 (nI (ac_kr (ac_bn (ai 5) (ai 14) (ai 9) (al 15) (al 16) (al 17) (al 18) (fi 1) na nr) 10 (ai 19) 0 0 ((ac_bn (ai 5) (ai 14) (ai 9) (al 15) (al 16) (al 17) (al 18) (fi 1) na nr) 0 0)).2.2)) 7 (ac_freed (ai 5) (nI (ac_kr (ac_bn (ai 5) (ai 14) (ai 9) (al 15) (al 16) (al 17) (al 18) (fi 1) na nr) 10 (ai 19) 0 0 ((ac_bn (ai 5) (ai 14) (ai 9) (al 15) (al 16) (al 17) (al 18) (fi 1) na nr) 0 0)).2.2) na)) fl (va_up ai 19 (ac_kr (ac_bn (ai 5) (ai 14) (ai 9) (al 15) (al 16) (al 17) (al 18) (fi 1) na nr) 10 (ai 19) 0 0 ((ac_bn (ai 5) (ai 14) (ai 9) (al 15) (al 16) (al 17) (al 18) (fi 1) na nr) 0 0)).1) (va_up al 20 (ac_brg (al 16) (ac_whole (ai 5) (fi 1) na (nI (ac_kr (ac_bn (ai 5) (ai 14) (ai 9) (al 15) (al 16) (al 17) (al 18) (fi 1) na nr) 10 (ai 19) 0 0 ((ac_bn (ai 5) (ai 14) (ai 9) (al 15) (al 16) (al 17) (al 18) (fi 1) na nr) 0 0)).2.2)) (al 20) 12))) H := hP
      have hD : va_D A (ac_w ad cI cL (upd (upd (upd (upd fi 3 1) 5 (nI (ac_kr (ac_bn (ai 5) (ai 14) (ai 9) (al 15) (al 16) (al 17) (al 18) (fi 1) na nr) 10 (ai 19) 0 0 ((ac_bn (ai 5) (ai 14) (ai 9) (al 15) (al 16) (al 17) (al 18) (fi 1) na nr) 0 0)).2.1)) 6 (nI (ac_kr (ac_bn (ai 5) (ai 14) (ai 9) (al 15) (al 16) (al 17) (al 18) (fi 1) na nr) 10 (ai 19) 0 0 ((ac_bn (ai 5) (ai 14) (ai 9) (al 15) (al 16) (al 17) (al 18) (fi 1) na nr) 0 0)).2.2)) 7 (ac_freed (ai 5) (nI (ac_kr (ac_bn (ai 5) (ai 14) (ai 9) (al 15) (al 16) (al 17) (al 18) (fi 1) na nr) 10 (ai 19) 0 0 ((ac_bn (ai 5) (ai 14) (ai 9) (al 15) (al 16) (al 17) (al 18) (fi 1) na nr) 0 0)).2.2) na)) fl (va_up ai 19 (ac_kr (ac_bn (ai 5) (ai 14) (ai 9) (al 15) (al 16) (al 17) (al 18) (fi 1) na nr) 10 (ai 19) 0 0 ((ac_bn (ai 5) (ai 14) (ai 9) (al 15) (al 16) (al 17) (al 18) (fi 1) na nr) 0 0)).1) (va_up al 20 (ac_brg (al 16) (ac_whole (ai 5) (fi 1) na (nI (ac_kr (ac_bn (ai 5) (ai 14) (ai 9) (al 15) (al 16) (al 17) (al 18) (fi 1) na nr) 10 (ai 19) 0 0 ((ac_bn (ai 5) (ai 14) (ai 9) (al 15) (al 16) (al 17) (al 18) (fi 1) na nr) 0 0)).2.2)) (al 20) 12))) := am_D hD rfl
      refine lv_aload_n hx hb dX3_keepRow_86 rfl (lv_at hl 0 rfl) ?_
      refine lv_iconst (v := 1) hx hb dX3_keepRow_87 (by decide) ?_
      refine va_put (D := D) (ci := 3) (v := .int 1) (ty := .boolean) (C := RX3) (T := TX3) (N := 8) hx hb hts hin_X3 tyX3 tyX3_ok nmX3 hown hK hP hD hS 3 rfl rfl 1 (by decide) hf_40 (fun _ h9 => h9) rfl (by decide +kernel) rfl rfl (Nat.le_of_ble_eq_true rfl) dX3_keepRow_88 (fun H locs hP hD hS => ?_)
      have hP : va_P D vwCl (ac_w ad cI cL (upd (upd (upd (upd (upd fi 3 1) 4 1) 5 (nI (ac_kr (ac_bn (ai 5) (ai 14) (ai 9) (al 15) (al 16) (al 17) (al 18) (fi 1) na nr) 10 (ai 19) 0 0 ((ac_bn (ai 5) (ai 14) (ai 9) (al 15) (al 16) (al 17) (al 18) (fi 1) na nr) 0 0)).2.1)) 6 (nI (ac_kr (ac_bn (ai 5) (ai 14) (ai 9) (al 15) (al 16) (al 17) (al 18) (fi 1) na nr) 10 (ai 19) 0 0 ((ac_bn (ai 5) (ai 14) (ai 9) (al 15) (al 16) (al 17) (al 18) (fi 1) na nr) 0 0)).2.2)) 7 (ac_freed (ai 5) (nI (ac_kr (ac_bn (ai 5) (ai 14) (ai 9) (al 15) (al 16) (al 17) (al 18) (fi 1) na nr) 10 (ai 19) 0 0 ((ac_bn (ai 5) (ai 14) (ai 9) (al 15) (al 16) (al 17) (al 18) (fi 1) na nr) 0 0)).2.2) na)) fl (va_up ai 19 (ac_kr (ac_bn (ai 5) (ai 14) (ai 9) (al 15) (al 16) (al 17) (al 18) (fi 1) na nr) 10 (ai 19) 0 0 ((ac_bn (ai 5) (ai 14) (ai 9) (al 15) (al 16) (al 17) (al 18) (fi 1) na nr) 0 0)).1) (va_up al 20 (ac_brg (al 16) (ac_whole (ai 5) (fi 1) na (nI (ac_kr (ac_bn (ai 5) (ai 14) (ai 9) (al 15) (al 16) (al 17) (al 18) (fi 1) na nr) 10 (ai 19) 0 0 ((ac_bn (ai 5) (ai 14) (ai 9) (al 15) (al 16) (al 17) (al 18) (fi 1) na nr) 0 0)).2.2)) (al 20) 12))) H := hP
      have hD : va_D A (ac_w ad cI cL (upd (upd (upd (upd (upd fi 3 1) 4 1) 5 (nI (ac_kr (ac_bn (ai 5) (ai 14) (ai 9) (al 15) (al 16) (al 17) (al 18) (fi 1) na nr) 10 (ai 19) 0 0 ((ac_bn (ai 5) (ai 14) (ai 9) (al 15) (al 16) (al 17) (al 18) (fi 1) na nr) 0 0)).2.1)) 6 (nI (ac_kr (ac_bn (ai 5) (ai 14) (ai 9) (al 15) (al 16) (al 17) (al 18) (fi 1) na nr) 10 (ai 19) 0 0 ((ac_bn (ai 5) (ai 14) (ai 9) (al 15) (al 16) (al 17) (al 18) (fi 1) na nr) 0 0)).2.2)) 7 (ac_freed (ai 5) (nI (ac_kr (ac_bn (ai 5) (ai 14) (ai 9) (al 15) (al 16) (al 17) (al 18) (fi 1) na nr) 10 (ai 19) 0 0 ((ac_bn (ai 5) (ai 14) (ai 9) (al 15) (al 16) (al 17) (al 18) (fi 1) na nr) 0 0)).2.2) na)) fl (va_up ai 19 (ac_kr (ac_bn (ai 5) (ai 14) (ai 9) (al 15) (al 16) (al 17) (al 18) (fi 1) na nr) 10 (ai 19) 0 0 ((ac_bn (ai 5) (ai 14) (ai 9) (al 15) (al 16) (al 17) (al 18) (fi 1) na nr) 0 0)).1) (va_up al 20 (ac_brg (al 16) (ac_whole (ai 5) (fi 1) na (nI (ac_kr (ac_bn (ai 5) (ai 14) (ai 9) (al 15) (al 16) (al 17) (al 18) (fi 1) na nr) 10 (ai 19) 0 0 ((ac_bn (ai 5) (ai 14) (ai 9) (al 15) (al 16) (al 17) (al 18) (fi 1) na nr) 0 0)).2.2)) (al 20) 12))) := am_D hD rfl
      exact am_vretM hx hb hr hlocks hP hS dX3_keepRow_91
    · skip
      have hl9 : ln < 10 := Nat.lt_of_not_le (fun z => c_28 (by rw [show (10 : Int32) = nI 10 from rfl, nI_leI (by omega) (by omega)]; exact z))
      refine lv_aload_n hx hb dX3_keepRow_31 rfl (lv_at hl 0 rfl) ?_
      refine va_get (D := D) (ci := 3) (v := .ref (ad 19)) (C := RX3) (T := TX3) (N := 8) hx hb hts hin_X3 hown hK hP 3 rfl rfl 6 (by decide) hf_9 (fun _ h9 => h9) rfl dX3_keepRow_32 ?_
      refine lv_aload_n hx hb dX3_keepRow_35 rfl (lv_at hl 0 rfl) ?_
      refine va_get (D := D) (ci := 3) (v := .int (nI ln)) (C := RX3) (T := TX3) (N := 8) hx hb hts hin_X3 hown hK hP 3 rfl rfl 2 (by decide) hf_19 (fun _ h9 => h9) rfl dX3_keepRow_36 ?_
      refine lv_iload_n hx hb dX3_keepRow_39 rfl (lv_at hl 2 rfl) ?_
      refine am_iast hx hb hK hP hD hS 19 0 rfl rfl ln rfl (by omega) (by decide) (ac_w ad cI cL (upd (upd fi 5 (nI ln)) 6 (nI sn)) fl (va_up ai 19 (upd rw9 ln (nI a))) al) rfl dX3_keepRow_40 (fun H locs hP hD hS => ?_)
      refine lv_aload_n hx hb dX3_keepRow_41 rfl (lv_at hl 0 rfl) ?_
      refine lv_dup hx hb dX3_keepRow_42 rfl ?_
      refine va_get (D := D) (ci := 3) (v := .int (nI ln)) (C := RX3) (T := TX3) (N := 8) hx hb hts hin_X3 hown hK hP 3 rfl rfl 2 (by decide) hf_19 (fun _ h9 => h9) rfl dX3_keepRow_43 ?_
      refine lv_iconst (v := 1) hx hb dX3_keepRow_46 (by decide) ?_
      refine lv_iadd hx hb dX3_keepRow_47 ?_
      refine am_topi (nI_1 ln) ?_
      refine va_put (D := D) (ci := 3) (v := .int (nI (ln + 1))) (ty := .int) (C := RX3) (T := TX3) (N := 8) hx hb hts hin_X3 tyX3 tyX3_ok nmX3 hown hK hP hD hS 3 rfl rfl 2 (by decide) hf_19 (fun _ h9 => h9) rfl (by decide +kernel) rfl rfl (Nat.le_of_ble_eq_true rfl) dX3_keepRow_48 (fun H locs hP hD hS => ?_)
      have hP : va_P D vwCl (ac_w ad cI cL (upd (upd fi 5 (nI (ln + 1))) 6 (nI sn)) fl (va_up ai 19 (upd rw9 ln (nI a))) al) H := hP
      have hD : va_D A (ac_w ad cI cL (upd (upd fi 5 (nI (ln + 1))) 6 (nI sn)) fl (va_up ai 19 (upd rw9 ln (nI a))) al) := am_D hD rfl
      refine lv_aload_n hx hb dX3_keepRow_51 rfl (lv_at hl 0 rfl) ?_
      refine lv_dup hx hb dX3_keepRow_52 rfl ?_
      refine va_get (D := D) (ci := 3) (v := .int (nI sn)) (C := RX3) (T := TX3) (N := 8) hx hb hts hin_X3 hown hK hP 3 rfl rfl 3 (by decide) hf_23 (fun _ h9 => h9) rfl dX3_keepRow_53 ?_
      refine lv_iconst (v := 1) hx hb dX3_keepRow_56 (by decide) ?_
      refine lv_iload_n hx hb dX3_keepRow_57 rfl (lv_at hl 2 rfl) ?_
      refine lv_ishl hx hb dX3_keepRow_58 ?_
      refine lv_ior hx hb dX3_keepRow_59 ?_
      refine am_topi (by rw [am_shl1 a (by omega), am_or] : nI sn ||| ((1 : Int32) <<< (nI a &&& 31)) = nI (sn ||| 2 ^ a)) ?_
      refine va_put (D := D) (ci := 3) (v := .int (nI (sn ||| 2 ^ a))) (ty := .int) (C := RX3) (T := TX3) (N := 8) hx hb hts hin_X3 tyX3 tyX3_ok nmX3 hown hK hP hD hS 3 rfl rfl 3 (by decide) hf_23 (fun _ h9 => h9) rfl (by decide +kernel) rfl rfl (Nat.le_of_ble_eq_true rfl) dX3_keepRow_60 (fun H locs hP hD hS => ?_)
      have hP : va_P D vwCl (ac_w ad cI cL (upd (upd fi 5 (nI (ln + 1))) 6 (nI (sn ||| 2 ^ a))) fl (va_up ai 19 (upd rw9 ln (nI a))) al) H := hP
      have hD : va_D A (ac_w ad cI cL (upd (upd fi 5 (nI (ln + 1))) 6 (nI (sn ||| 2 ^ a))) fl (va_up ai 19 (upd rw9 ln (nI a))) al) := am_D hD rfl
      refine lv_aload_n hx hb dX3_keepRow_63 rfl (lv_at hl 1 rfl) ?_
      refine lv_aload_n hx hb dX3_keepRow_64 rfl (lv_at hl 0 rfl) ?_
      refine va_get (D := D) (ci := 3) (v := .int (nI (sn ||| 2 ^ a))) (C := RX3) (T := TX3) (N := 8) hx hb hts hin_X3 hown hK hP 3 rfl rfl 3 (by decide) hf_23 (fun _ h9 => h9) rfl dX3_keepRow_65 ?_
      refine lv_iload_n hx hb dX3_keepRow_68 rfl (lv_at hl 2 rfl) ?_
      refine am_callRi (W.runV (As := [.int (nI (sn ||| 2 ^ a)), .int (nI a)]) (rest := []) ⟨hx, hb, hml, hown, hts⟩ (c_X2_bestNext l D ad cI cL (upd (upd fi 5 (nI (ln + 1))) 6 (nI (sn ||| 2 ^ a))) fl (va_up ai 19 (upd rw9 ln (nI a))) al (sn ||| 2 ^ a) (a + 1) na nr hna hnl hnr hnrl (by omega) (am_or_lt hsn (by omega))) (cwV 2 hts (am_gV (am_in 342 rfl) (am_in 343 rfl) (am_in 344 rfl) (am_in 32 rfl) (am_in 345 rfl)) rfl rfl rfl (by decide +kernel) ⟨Nat.le_of_ble_eq_true rfl, Nat.le_of_ble_eq_true rfl⟩) (am_preVR 2 2 rfl rfl rfl hP hK hN) rfl rfl hl.1 rfl (lv_room (Nat.le_of_ble_eq_true rfl)) dX3_keepRow_69 ⟨Nat.zero_le _, Nat.zero_le _⟩) ?_
      refine lv_istore_n (lv' := [(2, .int (ac_la (ac_bn (ai 5) (ai 14) (ai 9) (al 15) (al 16) (al 17) (al 18) (fi 1) na nr (sn ||| 2 ^ a) (a + 1)))), (0, .ref (ad 3)), (1, .ref (ad 2))]) hx hb dX3_keepRow_72 rfl hl (by decide) rfl (fun ls hl => ?_)
      refine lv_goto (tgt := 17) hx hb dX3_keepRow_73 (by decide) ?_
      have e_17_0 : ac_la ((ac_bn (ai 5) (ai 14) (ai 9) (al 15) (al 16) (al 17) (al 18) (fi 1) na nr) (sn ||| 2 ^ a) (a + 1)) = ac_la (ac_bn (ai 5) (ai 14) (ai 9) (al 15) (al 16) (al 17) (al 18) (fi 1) na nr (sn ||| 2 ^ a) (a + 1)) := by first | rfl | (simp only [c_19, c_28, if_true, if_false, eq_self, not_true_eq_false, not_false_eq_true, ite_true, ite_false, ↓reduceIte]; done) | (simp [c_19, c_28]; done)
      refine ih_17 (upd rw9 ln (nI a), ln + 1, sn ||| 2 ^ a, (ac_bn (ai 5) (ai 14) (ai 9) (al 15) (al 16) (al 17) (al 18) (fi 1) na nr) (sn ||| 2 ^ a) (a + 1)) (10 - (ln + 1)) H locs ls (by first | omega | (dsimp only; omega)) ⟨rfl, (by first | omega | (dsimp only; omega)), (am_or_lt hsn (by omega)), (ac_bn_le _ _ _ _ _ _ _ _ _ _ _ _), (by dsimp only; rw [← hm, show 10 - ln = (10 - (ln + 1)) + 1 by omega]; rfl), ?_, hS, ?_⟩
      · (try dsimp only); (try rw [e_17_0]); exact hP
      · (try dsimp only); (try rw [e_17_0]); exact lv_sub hl [1, 2, 0] rfl
end
section
set_option maxHeartbeats 4000000 in
set_option maxRecDepth 100000 in
theorem c_X4_setLimits (l : Launch) (D : va_G) (ad : Nat → Nat) (cI cL : ClassId) (fi : Nat → Int32) (fl : Nat → Int64) (ai : Nat → Nat → Int32) (al : Nat → Nat → Int64) (A : Nat → Prop) (na : Nat) (hna : fi 0 = nI na) (hnl : na ≤ 10) : Met l yX4_setLimits wsX4_setLimits (am_rm 1 21) (va_Pc [.ref (ad 4)] (am_M nwL vwCl D A (ac_w ad cI cL fi fl ai al) [(cI, .int), (cL, .long)])) (am_Mv vwCl D (ac_w ad cI cL fi (vp_updL (vp_updL fl 1 (ac_tot (al 8) (fi 8) na + 1)) 2 (ac_least (al 8) (fi 8) (fi 9) na)) ai al) A) 0 0 A := by
  refine am_startM (cc := cX4_setLimits) (maxL := 6) (ret := none) (by decide) rfl (Nat.le_of_ble_eq_true rfl) [(0, .ref (ad 4))] rfl ?_
  intro p e s m below meth c ls hx hb hr hml hown hts hlocks hK hN hD H locs hP hS hl
  have hown : s.vm.findClass RX4 = some m.cls := hown
  have ht := am_ht hts
  have hin_X4 : ∀ w ∈ u_ws RX4 TX4 8, w ∈ wsX4_setLimits := fun w h => List.mem_cons_of_mem _ (am_inX4 w h)
  have hin_X1 : ∀ w ∈ u_ws RX1 TX1 14, w ∈ wsX4_setLimits := fun w h => List.mem_cons_of_mem _ (am_inX1 w h)
  have hf_22 := ht 155 (.fieldLink RX4 22 "ApartCost$Line" "product" "LApartCost$Product;") rfl
  have hf_32 := ht 158 (.fieldLink RX4 32 "ApartCost$Line" "set" "I") rfl
  have hf_36 := ht 159 (.fieldLink RX4 36 "ApartCost$Line" "stations" "I") rfl
  have hf_49 := ht 160 (.fieldLink RX4 49 "ApartCost$Line" "longest" "J") rfl
  have hf_53 := ht 58 (.fieldLink RX4 53 "ApartCost$Product" "acts" "I") rfl
  have hf_62 := ht 64 (.fieldLink RX4 62 "ApartCost$Product" "cents" "[J") rfl
  have hf_71 := ht 161 (.fieldLink RX4 71 "ApartCost$Line" "least" "J") rfl
  refine lv_lconst (v := 0) hx hb dX4_setLimits_0 (by decide) ?_
  refine lv_lstore_n (lv' := [(1, .long 0), (0, .ref (ad 4))]) hx hb dX4_setLimits_1 rfl hl (by decide) rfl (fun ls hl => ?_)
  refine lv_lconst (v := 0) hx hb dX4_setLimits_2 (by decide) ?_
  refine lv_lstore_n (lv' := [(3, .long 0), (1, .long 0), (0, .ref (ad 4))]) hx hb dX4_setLimits_3 rfl hl (by decide) rfl (fun ls hl => ?_)
  refine lv_iconst (v := 0) hx hb dX4_setLimits_4 (by decide) ?_
  refine lv_istore (lv' := [(5, .int 0), (3, .long 0), (1, .long 0), (0, .ref (ad 4))]) hx hb dX4_setLimits_5 hl (by decide) rfl (fun ls hl => ?_)
  refine am_loop (σ := Nat) (fun q n9 H locs ls => n9 = na - q ∧ q ≤ na ∧ va_P D vwCl (ac_w ad cI cL fi fl ai al) H ∧ va_S A s.heap H locs ∧ lv_has ls 6 [(0, .ref (ad 4)), (1, .long (ac_tot (al 8) (fi 8) q)), (3, .long (ac_dear (al 8) (fi 8) q)), (5, .int (nI q))]) ?_ 0 (na - 0) H locs ls ⟨rfl, (by omega), hP, hS, lv_sub hl [3, 2, 1, 0] rfl⟩
  rintro k n9 H locs ls ⟨hn_7, hk, hP, hS, hl⟩ ih_7
  have hD : va_D A (ac_w ad cI cL fi fl ai al) := am_D hD rfl
  refine lv_iload hx hb dX4_setLimits_7 (lv_at hl 3 rfl) ?_
  refine lv_aload_n hx hb dX4_setLimits_9 rfl (lv_at hl 0 rfl) ?_
  refine va_get (D := D) (ci := 4) (v := .ref (ad 1)) (C := RX4) (T := TX4) (N := 8) hx hb hts hin_X4 hown hK hP 4 rfl rfl 1 (by decide) hf_22 (fun _ h9 => h9) rfl dX4_setLimits_10 ?_
  refine va_get (D := D) (ci := 1) (v := .int (fi 0)) (C := RX1) (T := TX1) (N := 14) hx hb hts hin_X1 hown hK hP 1 rfl rfl 0 (by decide) hf_53 (fun _ h9 => h9) rfl dX4_setLimits_13 ?_
  refine lv_icmp_ge (tgt := 65) hx hb dX4_setLimits_16 (by decide) (fun c_16 => ?_) (fun c_16 => ?_)
  · skip
    have hke_16 : na ≤ k := (am_ge hna (by omega) (by omega)).mp c_16
    have hkq_16 : na = k := by omega
    subst hkq_16
    refine lv_aload_n hx hb dX4_setLimits_65 rfl (lv_at hl 0 rfl) ?_
    refine lv_lload_n hx hb dX4_setLimits_66 rfl (lv_at hl 1 rfl) ?_
    refine lv_lconst (v := 1) hx hb dX4_setLimits_67 (by decide) ?_
    refine lv_ladd hx hb dX4_setLimits_68 ?_
    refine va_put (D := D) (ci := 4) (v := .long ((ac_tot (al 8) (fi 8) na) + 1)) (ty := .long) (C := RX4) (T := TX4) (N := 8) hx hb hts hin_X4 tyX4 tyX4_ok nmX4 hown hK hP hD hS 4 rfl rfl 6 (by decide) hf_49 (fun _ h9 => h9) rfl (by decide +kernel) rfl rfl (Nat.le_of_ble_eq_true rfl) dX4_setLimits_69 (fun H locs hP hD hS => ?_)
    have hP : va_P D vwCl (ac_w ad cI cL fi (vp_updL fl 1 ((ac_tot (al 8) (fi 8) na) + 1)) ai al) H := hP
    have hD : va_D A (ac_w ad cI cL fi (vp_updL fl 1 ((ac_tot (al 8) (fi 8) na) + 1)) ai al) := am_D hD rfl
    refine lv_aload_n hx hb dX4_setLimits_72 rfl (lv_at hl 0 rfl) ?_
    refine lv_aload_n hx hb dX4_setLimits_73 rfl (lv_at hl 0 rfl) ?_
    refine va_get (D := D) (ci := 4) (v := .int (fi 9)) (C := RX4) (T := TX4) (N := 8) hx hb hts hin_X4 hown hK hP 4 rfl rfl 5 (by decide) hf_36 (fun _ h9 => h9) rfl dX4_setLimits_74 ?_
    refine lv_if_le (tgt := 102) hx hb dX4_setLimits_77 (by decide) (fun c_77 => ?_) (fun c_77 => ?_)
    · skip
      refine lv_lload_n hx hb dX4_setLimits_102 rfl (lv_at hl 1 rfl) ?_
      refine va_put (D := D) (ci := 4) (v := .long (ac_tot (al 8) (fi 8) na)) (ty := .long) (C := RX4) (T := TX4) (N := 8) hx hb hts hin_X4 tyX4 tyX4_ok nmX4 hown hK hP hD hS 4 rfl rfl 7 (by decide) hf_71 (fun _ h9 => h9) rfl (by decide +kernel) rfl rfl (Nat.le_of_ble_eq_true rfl) dX4_setLimits_103 (fun H locs hP hD hS => ?_)
      have hP : va_P D vwCl (ac_w ad cI cL fi (vp_updL (vp_updL fl 1 ((ac_tot (al 8) (fi 8) na) + 1)) 2 (ac_tot (al 8) (fi 8) na)) ai al) H := hP
      have hD : va_D A (ac_w ad cI cL fi (vp_updL (vp_updL fl 1 ((ac_tot (al 8) (fi 8) na) + 1)) 2 (ac_tot (al 8) (fi 8) na)) ai al) := am_D hD rfl
      exact am_vretM hx hb hr hlocks (by simp only [ac_least, if_pos c_77]; exact hP) hS dX4_setLimits_106
    · skip
      refine lv_lload_n hx hb dX4_setLimits_80 rfl (lv_at hl 2 rfl) ?_
      refine lv_lload_n hx hb dX4_setLimits_81 rfl (lv_at hl 1 rfl) ?_
      refine lv_aload_n hx hb dX4_setLimits_82 rfl (lv_at hl 0 rfl) ?_
      refine va_get (D := D) (ci := 4) (v := .int (fi 9)) (C := RX4) (T := TX4) (N := 8) hx hb hts hin_X4 hown hK hP 4 rfl rfl 5 (by decide) hf_36 (fun _ h9 => h9) rfl dX4_setLimits_83 ?_
      refine lv_i2l (v := (fi 9).toInt64) hx hb dX4_setLimits_86 rfl ?_
      refine lv_ladd hx hb dX4_setLimits_87 ?_
      refine lv_lconst (v := 1) hx hb dX4_setLimits_88 (by decide) ?_
      refine lv_lsub hx hb dX4_setLimits_89 ?_
      refine lv_aload_n hx hb dX4_setLimits_90 rfl (lv_at hl 0 rfl) ?_
      refine va_get (D := D) (ci := 4) (v := .int (fi 9)) (C := RX4) (T := TX4) (N := 8) hx hb hts hin_X4 hown hK hP 4 rfl rfl 5 (by decide) hf_36 (fun _ h9 => h9) rfl dX4_setLimits_91 ?_
      refine lv_i2l (v := (fi 9).toInt64) hx hb dX4_setLimits_94 rfl ?_
      refine lv_ldiv hx hb dX4_setLimits_95 (am_ne0 c_77) ?_
      refine va_mmax_long hx hb (hml.trans hl.1.symm) hown (ht 400 _ rfl) (ht 336 _ rfl) (ht 37 _ rfl) (ht 337 _ rfl) (Nat.le_of_ble_eq_true rfl) (Nat.le_of_ble_eq_true rfl) (Nat.zero_le _) (Nat.zero_le _) dX4_setLimits_96 ?_
      refine am_topl (y := ac_max (ac_dear (al 8) (fi 8) na) ((((ac_tot (al 8) (fi 8) na) + ((fi 9).toInt64)) - 1) / ((fi 9).toInt64))) rfl ?_
      refine lv_goto (tgt := 103) hx hb dX4_setLimits_99 (by decide) ?_
      refine va_put (D := D) (ci := 4) (v := .long (ac_max (ac_dear (al 8) (fi 8) na) ((((ac_tot (al 8) (fi 8) na) + ((fi 9).toInt64)) - 1) / ((fi 9).toInt64)))) (ty := .long) (C := RX4) (T := TX4) (N := 8) hx hb hts hin_X4 tyX4 tyX4_ok nmX4 hown hK hP hD hS 4 rfl rfl 7 (by decide) hf_71 (fun _ h9 => h9) rfl (by decide +kernel) rfl rfl (Nat.le_of_ble_eq_true rfl) dX4_setLimits_103 (fun H locs hP hD hS => ?_)
      have hP : va_P D vwCl (ac_w ad cI cL fi (vp_updL (vp_updL fl 1 ((ac_tot (al 8) (fi 8) na) + 1)) 2 (ac_max (ac_dear (al 8) (fi 8) na) ((((ac_tot (al 8) (fi 8) na) + ((fi 9).toInt64)) - 1) / ((fi 9).toInt64)))) ai al) H := hP
      have hD : va_D A (ac_w ad cI cL fi (vp_updL (vp_updL fl 1 ((ac_tot (al 8) (fi 8) na) + 1)) 2 (ac_max (ac_dear (al 8) (fi 8) na) ((((ac_tot (al 8) (fi 8) na) + ((fi 9).toInt64)) - 1) / ((fi 9).toInt64)))) ai al) := am_D hD rfl
      exact am_vretM hx hb hr hlocks (by simp only [ac_least, if_neg c_77]; exact hP) hS dX4_setLimits_106
  · skip
    have hkl_16 : k < na := Nat.lt_of_not_le (fun z => c_16 ((am_ge hna (by omega) (by omega)).mpr z))
    refine lv_aload_n hx hb dX4_setLimits_19 rfl (lv_at hl 0 rfl) ?_
    refine va_get (D := D) (ci := 4) (v := .int (fi 8)) (C := RX4) (T := TX4) (N := 8) hx hb hts hin_X4 hown hK hP 4 rfl rfl 4 (by decide) hf_32 (fun _ h9 => h9) rfl dX4_setLimits_20 ?_
    refine lv_iload hx hb dX4_setLimits_23 (lv_at hl 3 rfl) ?_
    refine am_callRi (va_Run.run (va_runSN (As := [.int (fi 8), .int (nI k)]) (rest := []) ⟨hx, hb, hml, hown, hts⟩ (c_X0_has l D _ _ (fi 8) (nI k)) ⟨va_cnB 2 hts (am_gN (am_in 206 rfl)) rfl rfl rfl (am_nw_at hN 4 rfl) (ht 29 _ rfl) (by decide +kernel) ⟨Nat.le_of_ble_eq_true rfl, Nat.le_of_ble_eq_true rfl⟩, (ht 205 _ rfl), trivial⟩ (am_preSR hP hK hN) rfl rfl hl.1 rfl (lv_room (Nat.le_of_ble_eq_true rfl)) dX4_setLimits_25 ⟨Nat.zero_le _, Nat.zero_le _⟩)) ?_
    refine lv_if_eq (tgt := 59) hx hb dX4_setLimits_28 (by decide) (fun c_28 => ?_) (fun c_28 => ?_)
    · skip
      refine lv_iinc (v := nI (k + 1)) (lv' := [(5, .int (nI (k + 1))), (0, .ref (ad 4)), (1, .long (ac_tot (al 8) (fi 8) k)), (3, .long (ac_dear (al 8) (fi 8) k))]) hx hb dX4_setLimits_59 hl (k := 3) rfl (nI_1 k) (by decide) rfl (fun ls hl => ?_)
      refine lv_goto (tgt := 7) hx hb dX4_setLimits_62 (by decide) ?_
      have e_7_0 : ac_tot (al 8) (fi 8) (k + 1) = ac_tot (al 8) (fi 8) k := by first | rfl | (simp only [ac_tot, ac_dear, c_16, c_28, if_true, if_false, eq_self, not_true_eq_false, not_false_eq_true, ite_true, ite_false, ↓reduceIte]; done) | (simp [ac_tot, ac_dear, c_16, c_28]; done)
      have e_7_1 : ac_dear (al 8) (fi 8) (k + 1) = ac_dear (al 8) (fi 8) k := by first | rfl | (simp only [ac_tot, ac_dear, c_16, c_28, if_true, if_false, eq_self, not_true_eq_false, not_false_eq_true, ite_true, ite_false, ↓reduceIte]; done) | (simp [ac_tot, ac_dear, c_16, c_28]; done)
      refine ih_7 (k + 1) (na - (k + 1)) H locs ls (by omega) ⟨rfl, (by omega), ?_, hS, ?_⟩
      · (try dsimp only); (try rw [e_7_0] ; try rw [e_7_1]); exact hP
      · (try dsimp only); (try rw [e_7_0] ; try rw [e_7_1]); exact lv_sub hl [1, 2, 3, 0] rfl
    · skip
      refine lv_lload_n hx hb dX4_setLimits_31 rfl (lv_at hl 1 rfl) ?_
      refine lv_aload_n hx hb dX4_setLimits_32 rfl (lv_at hl 0 rfl) ?_
      refine va_get (D := D) (ci := 4) (v := .ref (ad 1)) (C := RX4) (T := TX4) (N := 8) hx hb hts hin_X4 hown hK hP 4 rfl rfl 1 (by decide) hf_22 (fun _ h9 => h9) rfl dX4_setLimits_33 ?_
      refine va_get (D := D) (ci := 1) (v := .ref (ad 8)) (C := RX1) (T := TX1) (N := 14) hx hb hts hin_X1 hown hK hP 1 rfl rfl 4 (by decide) hf_62 (fun _ h9 => h9) rfl dX4_setLimits_36 ?_
      refine lv_iload hx hb dX4_setLimits_39 (lv_at hl 3 rfl) ?_
      refine am_lald hx hb hK hP 8 1 rfl rfl k rfl (by omega) (by decide) dX4_setLimits_41 ?_
      refine lv_ladd hx hb dX4_setLimits_42 ?_
      refine lv_lstore_n (lv' := [(1, .long ((ac_tot (al 8) (fi 8) k) + ((al 8) k))), (0, .ref (ad 4)), (3, .long (ac_dear (al 8) (fi 8) k)), (5, .int (nI k))]) hx hb dX4_setLimits_43 rfl hl (by decide) rfl (fun ls hl => ?_)
      refine lv_lload_n hx hb dX4_setLimits_44 rfl (lv_at hl 2 rfl) ?_
      refine lv_aload_n hx hb dX4_setLimits_45 rfl (lv_at hl 1 rfl) ?_
      refine va_get (D := D) (ci := 4) (v := .ref (ad 1)) (C := RX4) (T := TX4) (N := 8) hx hb hts hin_X4 hown hK hP 4 rfl rfl 1 (by decide) hf_22 (fun _ h9 => h9) rfl dX4_setLimits_46 ?_
      refine va_get (D := D) (ci := 1) (v := .ref (ad 8)) (C := RX1) (T := TX1) (N := 14) hx hb hts hin_X1 hown hK hP 1 rfl rfl 4 (by decide) hf_62 (fun _ h9 => h9) rfl dX4_setLimits_49 ?_
      refine lv_iload hx hb dX4_setLimits_52 (lv_at hl 3 rfl) ?_
      refine am_lald hx hb hK hP 8 1 rfl rfl k rfl (by omega) (by decide) dX4_setLimits_54 ?_
      refine va_mmax_long hx hb (hml.trans hl.1.symm) hown (ht 400 _ rfl) (ht 336 _ rfl) (ht 37 _ rfl) (ht 337 _ rfl) (Nat.le_of_ble_eq_true rfl) (Nat.le_of_ble_eq_true rfl) (Nat.zero_le _) (Nat.zero_le _) dX4_setLimits_55 ?_
      refine am_topl (y := ac_max (ac_dear (al 8) (fi 8) k) ((al 8) k)) rfl ?_
      refine lv_lstore_n (lv' := [(3, .long (ac_max (ac_dear (al 8) (fi 8) k) ((al 8) k))), (1, .long ((ac_tot (al 8) (fi 8) k) + ((al 8) k))), (0, .ref (ad 4)), (5, .int (nI k))]) hx hb dX4_setLimits_58 rfl hl (by decide) rfl (fun ls hl => ?_)
      refine lv_iinc (v := nI (k + 1)) (lv' := [(5, .int (nI (k + 1))), (3, .long (ac_max (ac_dear (al 8) (fi 8) k) ((al 8) k))), (1, .long ((ac_tot (al 8) (fi 8) k) + ((al 8) k))), (0, .ref (ad 4))]) hx hb dX4_setLimits_59 hl (k := 3) rfl (nI_1 k) (by decide) rfl (fun ls hl => ?_)
      refine lv_goto (tgt := 7) hx hb dX4_setLimits_62 (by decide) ?_
      have e_7_0 : ac_tot (al 8) (fi 8) (k + 1) = (ac_tot (al 8) (fi 8) k) + ((al 8) k) := by first | rfl | (simp only [ac_tot, ac_dear, c_16, c_28, if_true, if_false, eq_self, not_true_eq_false, not_false_eq_true, ite_true, ite_false, ↓reduceIte]; done) | (simp [ac_tot, ac_dear, c_16, c_28]; done)
      have e_7_1 : ac_dear (al 8) (fi 8) (k + 1) = ac_max (ac_dear (al 8) (fi 8) k) ((al 8) k) := by first | rfl | (simp only [ac_tot, ac_dear, c_16, c_28, if_true, if_false, eq_self, not_true_eq_false, not_false_eq_true, ite_true, ite_false, ↓reduceIte]; done) | (simp [ac_tot, ac_dear, c_16, c_28]; done)
      refine ih_7 (k + 1) (na - (k + 1)) H locs ls (by omega) ⟨rfl, (by omega), ?_, hS, ?_⟩
      · (try dsimp only); (try rw [e_7_0] ; try rw [e_7_1]); exact hP
      · (try dsimp only); (try rw [e_7_0] ; try rw [e_7_1]); exact lv_sub hl [3, 2, 1, 0] rfl

set_option maxHeartbeats 4000000 in
set_option maxRecDepth 100000 in
theorem c_X4_keepTrial (l : Launch) (D : va_G) (ad : Nat → Nat) (cI cL : ClassId) (fi : Nat → Int32) (fl : Nat → Int64) (ai : Nat → Nat → Int32) (al : Nat → Nat → Int64) (A : Nat → Prop) (z : Int64) (na : Nat) (hna : fi 0 = nI na) (hnl : na ≤ 10) : Met l yX4_keepTrial wsX4_keepTrial (am_rm 1 21) (va_Pc [.ref (ad 4), .long z] (am_M nwL vwCl D A (ac_w ad cI cL fi fl ai al) [(cI, .int), (cL, .long)])) (am_Mv vwCl D (ac_w ad cI cL fi (vp_updL fl 1 z) (va_up ai 21 (ac_keep (fi 8) (ai 22) (ai 21) na)) al) A) 0 0 A := by
  refine am_startM (cc := cX4_keepTrial) (maxL := 4) (ret := none) (by decide) rfl (Nat.le_of_ble_eq_true rfl) [(0, .ref (ad 4)), (1, .long z)] rfl ?_
  intro p e s m below meth c ls hx hb hr hml hown hts hlocks hK hN hD H locs hP hS hl
  have hown : s.vm.findClass RX4 = some m.cls := hown
  have ht := am_ht hts
  have hin_X4 : ∀ w ∈ u_ws RX4 TX4 8, w ∈ wsX4_keepTrial := fun w h => List.mem_cons_of_mem _ (am_inX4 w h)
  have hin_X1 : ∀ w ∈ u_ws RX1 TX1 14, w ∈ wsX4_keepTrial := fun w h => List.mem_cons_of_mem _ (am_inX1 w h)
  have hf_15 := ht 156 (.fieldLink RX4 15 "ApartCost$Line" "trial" "[I") rfl
  have hf_22 := ht 155 (.fieldLink RX4 22 "ApartCost$Line" "product" "LApartCost$Product;") rfl
  have hf_32 := ht 158 (.fieldLink RX4 32 "ApartCost$Line" "set" "I") rfl
  have hf_49 := ht 160 (.fieldLink RX4 49 "ApartCost$Line" "longest" "J") rfl
  have hf_53 := ht 58 (.fieldLink RX4 53 "ApartCost$Product" "acts" "I") rfl
  have hf_9 := ht 153 (.fieldLink RX4 9 "ApartCost$Line" "told" "[I") rfl
  refine lv_aload_n hx hb dX4_keepTrial_0 rfl (lv_at hl 0 rfl) ?_
  refine lv_lload_n hx hb dX4_keepTrial_1 rfl (lv_at hl 1 rfl) ?_
  refine va_put (D := D) (ci := 4) (v := .long z) (ty := .long) (C := RX4) (T := TX4) (N := 8) hx hb hts hin_X4 tyX4 tyX4_ok nmX4 hown hK hP hD hS 4 rfl rfl 6 (by decide) hf_49 (fun _ h9 => h9) rfl (by decide +kernel) rfl rfl (Nat.le_of_ble_eq_true rfl) dX4_keepTrial_2 (fun H locs hP hD hS => ?_)
  have hP : va_P D vwCl (ac_w ad cI cL fi (vp_updL fl 1 z) ai al) H := hP
  have hD : va_D A (ac_w ad cI cL fi (vp_updL fl 1 z) ai al) := am_D hD rfl
  refine lv_iconst (v := 0) hx hb dX4_keepTrial_5 (by decide) ?_
  refine lv_istore_n (lv' := [(3, .int 0), (0, .ref (ad 4)), (1, .long z)]) hx hb dX4_keepTrial_6 rfl hl (by decide) rfl (fun ls hl => ?_)
  refine am_loop (σ := Nat) (fun q n9 H locs ls => n9 = na - q ∧ q ≤ na ∧ va_P D vwCl (ac_w ad cI cL fi (vp_updL fl 1 z) (va_up ai 21 (ac_keep (fi 8) (ai 22) (ai 21) q)) al) H ∧ va_S A s.heap H locs ∧ lv_has ls 4 [(0, .ref (ad 4)), (1, .long z), (3, .int (nI q))]) ?_ 0 (na - 0) H locs ls ⟨rfl, (by omega), hP, hS, lv_sub hl [1, 2, 0] rfl⟩
  rintro k n9 H locs ls ⟨hn_7, hk, hP, hS, hl⟩ ih_7
  have hD : va_D A (ac_w ad cI cL fi (vp_updL fl 1 z) (va_up ai 21 (ac_keep (fi 8) (ai 22) (ai 21) k)) al) := am_D hD rfl
  refine lv_iload_n hx hb dX4_keepTrial_7 rfl (lv_at hl 2 rfl) ?_
  refine lv_aload_n hx hb dX4_keepTrial_8 rfl (lv_at hl 0 rfl) ?_
  refine va_get (D := D) (ci := 4) (v := .ref (ad 1)) (C := RX4) (T := TX4) (N := 8) hx hb hts hin_X4 hown hK hP 4 rfl rfl 1 (by decide) hf_22 (fun _ h9 => h9) rfl dX4_keepTrial_9 ?_
  refine va_get (D := D) (ci := 1) (v := .int (fi 0)) (C := RX1) (T := TX1) (N := 14) hx hb hts hin_X1 hown hK hP 1 rfl rfl 0 (by decide) hf_53 (fun _ h9 => h9) rfl dX4_keepTrial_12 ?_
  refine lv_icmp_ge (tgt := 51) hx hb dX4_keepTrial_15 (by decide) (fun c_15 => ?_) (fun c_15 => ?_)
  · skip
    have hke_15 : na ≤ k := (am_ge hna (by omega) (by omega)).mp c_15
    have hkq_15 : na = k := by omega
    subst hkq_15
    exact am_vretM hx hb hr hlocks hP hS dX4_keepTrial_51
  · skip
    have hkl_15 : k < na := Nat.lt_of_not_le (fun z => c_15 ((am_ge hna (by omega) (by omega)).mpr z))
    refine lv_aload_n hx hb dX4_keepTrial_18 rfl (lv_at hl 0 rfl) ?_
    refine va_get (D := D) (ci := 4) (v := .ref (ad 21)) (C := RX4) (T := TX4) (N := 8) hx hb hts hin_X4 hown hK hP 4 rfl rfl 0 (by decide) hf_9 (fun _ h9 => h9) rfl dX4_keepTrial_19 ?_
    refine lv_iload_n hx hb dX4_keepTrial_22 rfl (lv_at hl 2 rfl) ?_
    refine lv_aload_n hx hb dX4_keepTrial_23 rfl (lv_at hl 0 rfl) ?_
    refine va_get (D := D) (ci := 4) (v := .int (fi 8)) (C := RX4) (T := TX4) (N := 8) hx hb hts hin_X4 hown hK hP 4 rfl rfl 4 (by decide) hf_32 (fun _ h9 => h9) rfl dX4_keepTrial_24 ?_
    refine lv_iload_n hx hb dX4_keepTrial_27 rfl (lv_at hl 2 rfl) ?_
    refine am_callRi (va_Run.run (va_runSN (As := [.int (fi 8), .int (nI k)]) (rest := [.int (nI k), .ref (ad 21)]) ⟨hx, hb, hml, hown, hts⟩ (c_X0_has l D _ _ (fi 8) (nI k)) ⟨va_cnB 2 hts (am_gN (am_in 206 rfl)) rfl rfl rfl (am_nw_at hN 4 rfl) (ht 29 _ rfl) (by decide +kernel) ⟨Nat.le_of_ble_eq_true rfl, Nat.le_of_ble_eq_true rfl⟩, (ht 205 _ rfl), trivial⟩ (am_preSR hP hK hN) rfl rfl hl.1 rfl (lv_room (Nat.le_of_ble_eq_true rfl)) dX4_keepTrial_28 ⟨Nat.zero_le _, Nat.zero_le _⟩)) ?_
    refine lv_if_eq (tgt := 43) hx hb dX4_keepTrial_31 (by decide) (fun c_31 => ?_) (fun c_31 => ?_)
    · skip
      refine lv_iconst (v := (-1)) hx hb dX4_keepTrial_43 (by decide) ?_
      refine am_iast hx hb hK hP hD hS 21 0 rfl rfl k rfl (by omega) (by decide) (ac_w ad cI cL fi (vp_updL fl 1 z) (va_up ai 21 (upd (ac_keep (fi 8) (ai 22) (ai 21) k) k (-1))) al) rfl dX4_keepTrial_44 (fun H locs hP hD hS => ?_)
      refine lv_iinc (v := nI (k + 1)) (lv' := [(3, .int (nI (k + 1))), (0, .ref (ad 4)), (1, .long z)]) hx hb dX4_keepTrial_45 hl (k := 2) rfl (nI_1 k) (by decide) rfl (fun ls hl => ?_)
      refine lv_goto (tgt := 7) hx hb dX4_keepTrial_48 (by decide) ?_
      have e_7_0 : (ac_keep (fi 8) (ai 22) (ai 21) (k + 1)) = (upd (ac_keep (fi 8) (ai 22) (ai 21) k) k (-1)) := by first | rfl | (simp only [ac_keep, c_15, c_31, if_true, if_false, eq_self, not_true_eq_false, not_false_eq_true, ite_true, ite_false, ↓reduceIte]; done) | (simp [ac_keep, c_15, c_31]; done)
      refine ih_7 (k + 1) (na - (k + 1)) H locs ls (by omega) ⟨rfl, (by omega), ?_, hS, ?_⟩
      · (try dsimp only); (try rw [e_7_0]); exact hP
      · (try dsimp only); (try rw [e_7_0]); exact lv_sub hl [1, 2, 0] rfl
    · skip
      refine lv_aload_n hx hb dX4_keepTrial_34 rfl (lv_at hl 0 rfl) ?_
      refine va_get (D := D) (ci := 4) (v := .ref (ad 22)) (C := RX4) (T := TX4) (N := 8) hx hb hts hin_X4 hown hK hP 4 rfl rfl 2 (by decide) hf_15 (fun _ h9 => h9) rfl dX4_keepTrial_35 ?_
      refine lv_iload_n hx hb dX4_keepTrial_38 rfl (lv_at hl 2 rfl) ?_
      refine am_iald hx hb hK hP 22 0 rfl rfl k rfl (by omega) (by decide) dX4_keepTrial_39 ?_
      refine lv_goto (tgt := 44) hx hb dX4_keepTrial_40 (by decide) ?_
      refine am_iast hx hb hK hP hD hS 21 0 rfl rfl k rfl (by omega) (by decide) (ac_w ad cI cL fi (vp_updL fl 1 z) (va_up ai 21 (upd (ac_keep (fi 8) (ai 22) (ai 21) k) k ((ai 22) k))) al) rfl dX4_keepTrial_44 (fun H locs hP hD hS => ?_)
      refine lv_iinc (v := nI (k + 1)) (lv' := [(3, .int (nI (k + 1))), (0, .ref (ad 4)), (1, .long z)]) hx hb dX4_keepTrial_45 hl (k := 2) rfl (nI_1 k) (by decide) rfl (fun ls hl => ?_)
      refine lv_goto (tgt := 7) hx hb dX4_keepTrial_48 (by decide) ?_
      have e_7_0 : (ac_keep (fi 8) (ai 22) (ai 21) (k + 1)) = (upd (ac_keep (fi 8) (ai 22) (ai 21) k) k ((ai 22) k)) := by first | rfl | (simp only [ac_keep, c_15, c_31, if_true, if_false, eq_self, not_true_eq_false, not_false_eq_true, ite_true, ite_false, ↓reduceIte]; done) | (simp [ac_keep, c_15, c_31]; done)
      refine ih_7 (k + 1) (na - (k + 1)) H locs ls (by omega) ⟨rfl, (by omega), ?_, hS, ?_⟩
      · (try dsimp only); (try rw [e_7_0]); exact hP
      · (try dsimp only); (try rw [e_7_0]); exact lv_sub hl [1, 2, 0] rfl

set_option maxHeartbeats 4000000 in
set_option maxRecDepth 100000 in
theorem c_X4_earliestFor (l : Launch) (D : va_G) (ad : Nat → Nat) (cI cL : ClassId) (fi : Nat → Int32) (fl : Nat → Int64) (ai : Nat → Nat → Int32) (al : Nat → Nat → Int64) (a : Nat) (ha : a < 10) : Met l yX4_earliestFor wsX4_earliestFor (am_rm 1 21) (va_Pc [.ref (ad 4), .int (nI a)] (am_R nwL vwCl D (ac_w ad cI cL fi fl ai al) [(cI, .int), (cL, .long)])) (vp_Si (fun r => r = ac_early (fi 8) ((ai 9) a) (ai 22) a)) 0 0 am_No := by
  refine am_startR (cc := cX4_earliestFor) (maxL := 4) (ret := (some .int)) (by decide) rfl (Nat.le_of_ble_eq_true rfl) [(0, .ref (ad 4)), (1, .int (nI a))] rfl ?_
  intro p e s m below meth c ls hx hb hr hml hown hts hlocks hP hK hN hl
  have hown : s.vm.findClass RX4 = some m.cls := hown
  have ht := am_ht hts
  have hin_X4 : ∀ w ∈ u_ws RX4 TX4 8, w ∈ wsX4_earliestFor := fun w h => List.mem_cons_of_mem _ (am_inX4 w h)
  have hin_X1 : ∀ w ∈ u_ws RX1 TX1 14, w ∈ wsX4_earliestFor := fun w h => List.mem_cons_of_mem _ (am_inX1 w h)
  have hf_15 := ht 156 (.fieldLink RX4 15 "ApartCost$Line" "trial" "[I") rfl
  have hf_22 := ht 155 (.fieldLink RX4 22 "ApartCost$Line" "product" "LApartCost$Product;") rfl
  have hf_32 := ht 158 (.fieldLink RX4 32 "ApartCost$Line" "set" "I") rfl
  have hf_85 := ht 67 (.fieldLink RX4 85 "ApartCost$Product" "needs" "[I") rfl
  refine lv_iconst (v := 0) hx hb dX4_earliestFor_0 (by decide) ?_
  refine lv_istore_n (lv' := [(2, .int 0), (0, .ref (ad 4)), (1, .int (nI a))]) hx hb dX4_earliestFor_1 rfl hl (by decide) rfl (fun ls hl => ?_)
  refine lv_iconst (v := 0) hx hb dX4_earliestFor_2 (by decide) ?_
  refine lv_istore_n (lv' := [(3, .int 0), (2, .int 0), (0, .ref (ad 4)), (1, .int (nI a))]) hx hb dX4_earliestFor_3 rfl hl (by decide) rfl (fun ls hl => ?_)
  refine am_loopR (σ := Nat) (fun q n9 ls => n9 = a - q ∧ q ≤ a ∧ lv_has ls 4 [(0, .ref (ad 4)), (1, .int (nI a)), (2, .int (ac_early (fi 8) ((ai 9) a) (ai 22) q)), (3, .int (nI q))]) ?_ 0 (a - 0) ls ⟨rfl, (by omega), lv_sub hl [2, 3, 1, 0] rfl⟩
  rintro k n9 ls ⟨hn_4, hk, hl⟩ ih_4
  refine lv_iload_n hx hb dX4_earliestFor_4 rfl (lv_at hl 3 rfl) ?_
  refine lv_iload_n hx hb dX4_earliestFor_5 rfl (lv_at hl 1 rfl) ?_
  refine lv_icmp_ge (tgt := 47) hx hb dX4_earliestFor_6 (by decide) (fun c_6 => ?_) (fun c_6 => ?_)
  · skip
    have hke_6 : a ≤ k := (am_ge (rfl : nI a = nI a) (by omega) (by omega)).mp c_6
    have hkq_6 : a = k := by omega
    subst hkq_6
    refine lv_iload_n hx hb dX4_earliestFor_47 rfl (lv_at hl 2 rfl) ?_
    exact am_iretR hx hb hr hlocks (by first | rfl | (simp only [c_6, if_true, if_false, eq_self, not_true_eq_false, not_false_eq_true, ite_true, ite_false, ↓reduceIte]; done) | (simp [c_6]; done)) dX4_earliestFor_48
  · skip
    have hkl_6 : k < a := Nat.lt_of_not_le (fun z => c_6 ((am_ge (rfl : nI a = nI a) (by omega) (by omega)).mpr z))
    refine lv_aload_n hx hb dX4_earliestFor_9 rfl (lv_at hl 0 rfl) ?_
    refine va_get (D := D) (ci := 4) (v := .int (fi 8)) (C := RX4) (T := TX4) (N := 8) hx hb hts hin_X4 hown hK hP 4 rfl rfl 4 (by decide) hf_32 (fun _ h9 => h9) rfl dX4_earliestFor_10 ?_
    refine lv_aload_n hx hb dX4_earliestFor_13 rfl (lv_at hl 0 rfl) ?_
    refine va_get (D := D) (ci := 4) (v := .ref (ad 1)) (C := RX4) (T := TX4) (N := 8) hx hb hts hin_X4 hown hK hP 4 rfl rfl 1 (by decide) hf_22 (fun _ h9 => h9) rfl dX4_earliestFor_14 ?_
    refine va_get (D := D) (ci := 1) (v := .ref (ad 9)) (C := RX1) (T := TX1) (N := 14) hx hb hts hin_X1 hown hK hP 1 rfl rfl 5 (by decide) hf_85 (fun _ h9 => h9) rfl dX4_earliestFor_17 ?_
    refine lv_iload_n hx hb dX4_earliestFor_20 rfl (lv_at hl 1 rfl) ?_
    refine am_iald hx hb hK hP 9 0 rfl rfl a rfl (by omega) (by decide) dX4_earliestFor_21 ?_
    refine lv_iand hx hb dX4_earliestFor_22 ?_
    refine lv_iload_n hx hb dX4_earliestFor_23 rfl (lv_at hl 3 rfl) ?_
    refine am_callRi (va_Run.run (va_runSN (As := [.int ((fi 8) &&& ((ai 9) a)), .int (nI k)]) (rest := []) ⟨hx, hb, hml, hown, hts⟩ (c_X0_has l D _ _ ((fi 8) &&& ((ai 9) a)) (nI k)) ⟨va_cnB 2 hts (am_gN (am_in 206 rfl)) rfl rfl rfl (am_nw_at hN 4 rfl) (ht 29 _ rfl) (by decide +kernel) ⟨Nat.le_of_ble_eq_true rfl, Nat.le_of_ble_eq_true rfl⟩, (ht 205 _ rfl), trivial⟩ (am_preSR hP hK hN) rfl rfl hl.1 rfl (lv_room (Nat.le_of_ble_eq_true rfl)) dX4_earliestFor_24 ⟨Nat.zero_le _, Nat.zero_le _⟩)) ?_
    refine lv_if_eq (tgt := 41) hx hb dX4_earliestFor_27 (by decide) (fun c_27 => ?_) (fun c_27 => ?_)
    · skip
      refine lv_iinc (v := nI (k + 1)) (lv' := [(3, .int (nI (k + 1))), (0, .ref (ad 4)), (1, .int (nI a)), (2, .int (ac_early (fi 8) ((ai 9) a) (ai 22) k))]) hx hb dX4_earliestFor_41 hl (k := 3) rfl (nI_1 k) (by decide) rfl (fun ls hl => ?_)
      refine lv_goto (tgt := 4) hx hb dX4_earliestFor_44 (by decide) ?_
      have e_4_0 : ac_early (fi 8) ((ai 9) a) (ai 22) (k + 1) = ac_early (fi 8) ((ai 9) a) (ai 22) k := by first | rfl | (simp only [ac_early, c_6, c_27, if_true, if_false, eq_self, not_true_eq_false, not_false_eq_true, ite_true, ite_false, ↓reduceIte]; done) | (simp [ac_early, c_6, c_27]; done)
      refine ih_4 (k + 1) (a - (k + 1)) ls (by omega) ⟨rfl, (by omega), ?_⟩
      try dsimp only
      rw [e_4_0]
      exact lv_sub hl [1, 2, 3, 0] rfl
    · skip
      refine lv_iload_n hx hb dX4_earliestFor_30 rfl (lv_at hl 2 rfl) ?_
      refine lv_aload_n hx hb dX4_earliestFor_31 rfl (lv_at hl 0 rfl) ?_
      refine va_get (D := D) (ci := 4) (v := .ref (ad 22)) (C := RX4) (T := TX4) (N := 8) hx hb hts hin_X4 hown hK hP 4 rfl rfl 2 (by decide) hf_15 (fun _ h9 => h9) rfl dX4_earliestFor_32 ?_
      refine lv_iload_n hx hb dX4_earliestFor_35 rfl (lv_at hl 3 rfl) ?_
      refine am_iald hx hb hK hP 22 0 rfl rfl k rfl (by omega) (by decide) dX4_earliestFor_36 ?_
      refine va_mmax hx hb (hml.trans hl.1.symm) hown (ht 417 _ rfl) (ht 418 _ rfl) (ht 37 _ rfl) (ht 419 _ rfl) (Nat.le_of_ble_eq_true rfl) (Nat.le_of_ble_eq_true rfl) (Nat.zero_le _) (Nat.zero_le _) dX4_earliestFor_37 ?_
      refine am_topi (y := ac_imax (ac_early (fi 8) ((ai 9) a) (ai 22) k) ((ai 22) k)) rfl ?_
      refine lv_istore_n (lv' := [(2, .int (ac_imax (ac_early (fi 8) ((ai 9) a) (ai 22) k) ((ai 22) k))), (0, .ref (ad 4)), (1, .int (nI a)), (3, .int (nI k))]) hx hb dX4_earliestFor_40 rfl hl (by decide) rfl (fun ls hl => ?_)
      refine lv_iinc (v := nI (k + 1)) (lv' := [(3, .int (nI (k + 1))), (2, .int (ac_imax (ac_early (fi 8) ((ai 9) a) (ai 22) k) ((ai 22) k))), (0, .ref (ad 4)), (1, .int (nI a))]) hx hb dX4_earliestFor_41 hl (k := 3) rfl (nI_1 k) (by decide) rfl (fun ls hl => ?_)
      refine lv_goto (tgt := 4) hx hb dX4_earliestFor_44 (by decide) ?_
      have e_4_0 : ac_early (fi 8) ((ai 9) a) (ai 22) (k + 1) = ac_imax (ac_early (fi 8) ((ai 9) a) (ai 22) k) ((ai 22) k) := by first | rfl | (simp only [ac_early, c_6, c_27, if_true, if_false, eq_self, not_true_eq_false, not_false_eq_true, ite_true, ite_false, ↓reduceIte]; done) | (simp [ac_early, c_6, c_27]; done)
      refine ih_4 (k + 1) (a - (k + 1)) ls (by omega) ⟨rfl, (by omega), ?_⟩
      try dsimp only
      rw [e_4_0]
      exact lv_sub hl [2, 3, 1, 0] rfl

set_option maxHeartbeats 4000000 in
set_option maxRecDepth 100000 in
theorem c_X4_latestFor (l : Launch) (D : va_G) (ad : Nat → Nat) (cI cL : ClassId) (fi : Nat → Int32) (fl : Nat → Int64) (ai : Nat → Nat → Int32) (al : Nat → Nat → Int64) (a : Nat) (ha : a < 10) : Met l yX4_latestFor wsX4_latestFor (am_rm 1 21) (va_Pc [.ref (ad 4), .int (nI a)] (am_R nwL vwCl D (ac_w ad cI cL fi fl ai al) [(cI, .int), (cL, .long)])) (vp_Si (fun r => r = ac_late (fi 8) (fi 9) (nI a) (ai 9) (ai 22) a)) 0 0 am_No := by
  refine am_startR (cc := cX4_latestFor) (maxL := 4) (ret := (some .int)) (by decide) rfl (Nat.le_of_ble_eq_true rfl) [(0, .ref (ad 4)), (1, .int (nI a))] rfl ?_
  intro p e s m below meth c ls hx hb hr hml hown hts hlocks hP hK hN hl
  have hown : s.vm.findClass RX4 = some m.cls := hown
  have ht := am_ht hts
  have hin_X4 : ∀ w ∈ u_ws RX4 TX4 8, w ∈ wsX4_latestFor := fun w h => List.mem_cons_of_mem _ (am_inX4 w h)
  have hin_X1 : ∀ w ∈ u_ws RX1 TX1 14, w ∈ wsX4_latestFor := fun w h => List.mem_cons_of_mem _ (am_inX1 w h)
  have hf_15 := ht 156 (.fieldLink RX4 15 "ApartCost$Line" "trial" "[I") rfl
  have hf_22 := ht 155 (.fieldLink RX4 22 "ApartCost$Line" "product" "LApartCost$Product;") rfl
  have hf_32 := ht 158 (.fieldLink RX4 32 "ApartCost$Line" "set" "I") rfl
  have hf_36 := ht 159 (.fieldLink RX4 36 "ApartCost$Line" "stations" "I") rfl
  have hf_85 := ht 67 (.fieldLink RX4 85 "ApartCost$Product" "needs" "[I") rfl
  refine lv_aload_n hx hb dX4_latestFor_0 rfl (lv_at hl 0 rfl) ?_
  refine va_get (D := D) (ci := 4) (v := .int (fi 9)) (C := RX4) (T := TX4) (N := 8) hx hb hts hin_X4 hown hK hP 4 rfl rfl 5 (by decide) hf_36 (fun _ h9 => h9) rfl dX4_latestFor_1 ?_
  refine lv_iconst (v := 1) hx hb dX4_latestFor_4 (by decide) ?_
  refine lv_isub hx hb dX4_latestFor_5 ?_
  refine lv_istore_n (lv' := [(2, .int ((fi 9) - 1)), (0, .ref (ad 4)), (1, .int (nI a))]) hx hb dX4_latestFor_6 rfl hl (by decide) rfl (fun ls hl => ?_)
  refine lv_iconst (v := 0) hx hb dX4_latestFor_7 (by decide) ?_
  refine lv_istore_n (lv' := [(3, .int 0), (2, .int ((fi 9) - 1)), (0, .ref (ad 4)), (1, .int (nI a))]) hx hb dX4_latestFor_8 rfl hl (by decide) rfl (fun ls hl => ?_)
  refine am_loopR (σ := Nat) (fun q n9 ls => n9 = a - q ∧ q ≤ a ∧ lv_has ls 4 [(0, .ref (ad 4)), (1, .int (nI a)), (2, .int (ac_late (fi 8) (fi 9) (nI a) (ai 9) (ai 22) q)), (3, .int (nI q))]) ?_ 0 (a - 0) ls ⟨rfl, (by omega), lv_sub hl [2, 3, 1, 0] rfl⟩
  rintro k n9 ls ⟨hn_9, hk, hl⟩ ih_9
  refine lv_iload_n hx hb dX4_latestFor_9 rfl (lv_at hl 3 rfl) ?_
  refine lv_iload_n hx hb dX4_latestFor_10 rfl (lv_at hl 1 rfl) ?_
  refine lv_icmp_ge (tgt := 58) hx hb dX4_latestFor_11 (by decide) (fun c_11 => ?_) (fun c_11 => ?_)
  · skip
    have hke_11 : a ≤ k := (am_ge (rfl : nI a = nI a) (by omega) (by omega)).mp c_11
    have hkq_11 : a = k := by omega
    subst hkq_11
    refine lv_iload_n hx hb dX4_latestFor_58 rfl (lv_at hl 2 rfl) ?_
    exact am_iretR hx hb hr hlocks (by first | rfl | (simp only [c_11, if_true, if_false, eq_self, not_true_eq_false, not_false_eq_true, ite_true, ite_false, ↓reduceIte]; done) | (simp [c_11]; done)) dX4_latestFor_59
  · skip
    have hkl_11 : k < a := Nat.lt_of_not_le (fun z => c_11 ((am_ge (rfl : nI a = nI a) (by omega) (by omega)).mpr z))
    refine lv_aload_n hx hb dX4_latestFor_14 rfl (lv_at hl 0 rfl) ?_
    refine va_get (D := D) (ci := 4) (v := .int (fi 8)) (C := RX4) (T := TX4) (N := 8) hx hb hts hin_X4 hown hK hP 4 rfl rfl 4 (by decide) hf_32 (fun _ h9 => h9) rfl dX4_latestFor_15 ?_
    refine lv_iload_n hx hb dX4_latestFor_18 rfl (lv_at hl 3 rfl) ?_
    refine am_callRi (va_Run.run (va_runSN (As := [.int (fi 8), .int (nI k)]) (rest := []) ⟨hx, hb, hml, hown, hts⟩ (c_X0_has l D _ _ (fi 8) (nI k)) ⟨va_cnB 2 hts (am_gN (am_in 206 rfl)) rfl rfl rfl (am_nw_at hN 4 rfl) (ht 29 _ rfl) (by decide +kernel) ⟨Nat.le_of_ble_eq_true rfl, Nat.le_of_ble_eq_true rfl⟩, (ht 205 _ rfl), trivial⟩ (am_preSR hP hK hN) rfl rfl hl.1 rfl (lv_room (Nat.le_of_ble_eq_true rfl)) dX4_latestFor_19 ⟨Nat.zero_le _, Nat.zero_le _⟩)) ?_
    refine lv_if_eq (tgt := 52) hx hb dX4_latestFor_22 (by decide) (fun c_22 => ?_) (fun c_22 => ?_)
    · skip
      refine lv_iinc (v := nI (k + 1)) (lv' := [(3, .int (nI (k + 1))), (0, .ref (ad 4)), (1, .int (nI a)), (2, .int (ac_late (fi 8) (fi 9) (nI a) (ai 9) (ai 22) k))]) hx hb dX4_latestFor_52 hl (k := 3) rfl (nI_1 k) (by decide) rfl (fun ls hl => ?_)
      refine lv_goto (tgt := 9) hx hb dX4_latestFor_55 (by decide) ?_
      have e_9_0 : ac_late (fi 8) (fi 9) (nI a) (ai 9) (ai 22) (k + 1) = ac_late (fi 8) (fi 9) (nI a) (ai 9) (ai 22) k := by first | rfl | (simp only [ac_late, c_11, c_22, if_true, if_false, eq_self, not_true_eq_false, not_false_eq_true, ite_true, ite_false, ↓reduceIte]; done) | (simp [ac_late, c_11, c_22]; done)
      refine ih_9 (k + 1) (a - (k + 1)) ls (by omega) ⟨rfl, (by omega), ?_⟩
      try dsimp only
      rw [e_9_0]
      exact lv_sub hl [1, 2, 3, 0] rfl
    · skip
      refine lv_aload_n hx hb dX4_latestFor_25 rfl (lv_at hl 0 rfl) ?_
      refine va_get (D := D) (ci := 4) (v := .ref (ad 1)) (C := RX4) (T := TX4) (N := 8) hx hb hts hin_X4 hown hK hP 4 rfl rfl 1 (by decide) hf_22 (fun _ h9 => h9) rfl dX4_latestFor_26 ?_
      refine va_get (D := D) (ci := 1) (v := .ref (ad 9)) (C := RX1) (T := TX1) (N := 14) hx hb hts hin_X1 hown hK hP 1 rfl rfl 5 (by decide) hf_85 (fun _ h9 => h9) rfl dX4_latestFor_29 ?_
      refine lv_iload_n hx hb dX4_latestFor_32 rfl (lv_at hl 3 rfl) ?_
      refine am_iald hx hb hK hP 9 0 rfl rfl k rfl (by omega) (by decide) dX4_latestFor_33 ?_
      refine lv_iload_n hx hb dX4_latestFor_34 rfl (lv_at hl 1 rfl) ?_
      refine am_callRi (va_Run.run (va_runSN (As := [.int ((ai 9) k), .int (nI a)]) (rest := []) ⟨hx, hb, hml, hown, hts⟩ (c_X0_has l D _ _ ((ai 9) k) (nI a)) ⟨va_cnB 2 hts (am_gN (am_in 206 rfl)) rfl rfl rfl (am_nw_at hN 4 rfl) (ht 29 _ rfl) (by decide +kernel) ⟨Nat.le_of_ble_eq_true rfl, Nat.le_of_ble_eq_true rfl⟩, (ht 205 _ rfl), trivial⟩ (am_preSR hP hK hN) rfl rfl hl.1 rfl (lv_room (Nat.le_of_ble_eq_true rfl)) dX4_latestFor_35 ⟨Nat.zero_le _, Nat.zero_le _⟩)) ?_
      refine lv_if_eq (tgt := 52) hx hb dX4_latestFor_38 (by decide) (fun c_38 => ?_) (fun c_38 => ?_)
      · skip
        refine lv_iinc (v := nI (k + 1)) (lv' := [(3, .int (nI (k + 1))), (0, .ref (ad 4)), (1, .int (nI a)), (2, .int (ac_late (fi 8) (fi 9) (nI a) (ai 9) (ai 22) k))]) hx hb dX4_latestFor_52 hl (k := 3) rfl (nI_1 k) (by decide) rfl (fun ls hl => ?_)
        refine lv_goto (tgt := 9) hx hb dX4_latestFor_55 (by decide) ?_
        have e_9_0 : ac_late (fi 8) (fi 9) (nI a) (ai 9) (ai 22) (k + 1) = ac_late (fi 8) (fi 9) (nI a) (ai 9) (ai 22) k := by first | rfl | (simp only [ac_late, c_11, c_22, c_38, if_true, if_false, eq_self, not_true_eq_false, not_false_eq_true, ite_true, ite_false, ↓reduceIte]; done) | (simp [ac_late, c_11, c_22, c_38]; done)
        refine ih_9 (k + 1) (a - (k + 1)) ls (by omega) ⟨rfl, (by omega), ?_⟩
        try dsimp only
        rw [e_9_0]
        exact lv_sub hl [1, 2, 3, 0] rfl
      · skip
        refine lv_iload_n hx hb dX4_latestFor_41 rfl (lv_at hl 2 rfl) ?_
        refine lv_aload_n hx hb dX4_latestFor_42 rfl (lv_at hl 0 rfl) ?_
        refine va_get (D := D) (ci := 4) (v := .ref (ad 22)) (C := RX4) (T := TX4) (N := 8) hx hb hts hin_X4 hown hK hP 4 rfl rfl 2 (by decide) hf_15 (fun _ h9 => h9) rfl dX4_latestFor_43 ?_
        refine lv_iload_n hx hb dX4_latestFor_46 rfl (lv_at hl 3 rfl) ?_
        refine am_iald hx hb hK hP 22 0 rfl rfl k rfl (by omega) (by decide) dX4_latestFor_47 ?_
        refine va_mmin hx hb (hml.trans hl.1.symm) hown (ht 411 _ rfl) (ht 412 _ rfl) (ht 37 _ rfl) (ht 413 _ rfl) (Nat.le_of_ble_eq_true rfl) (Nat.le_of_ble_eq_true rfl) (Nat.zero_le _) (Nat.zero_le _) dX4_latestFor_48 ?_
        refine am_topi (y := ac_imin (ac_late (fi 8) (fi 9) (nI a) (ai 9) (ai 22) k) ((ai 22) k)) rfl ?_
        refine lv_istore_n (lv' := [(2, .int (ac_imin (ac_late (fi 8) (fi 9) (nI a) (ai 9) (ai 22) k) ((ai 22) k))), (0, .ref (ad 4)), (1, .int (nI a)), (3, .int (nI k))]) hx hb dX4_latestFor_51 rfl hl (by decide) rfl (fun ls hl => ?_)
        refine lv_iinc (v := nI (k + 1)) (lv' := [(3, .int (nI (k + 1))), (2, .int (ac_imin (ac_late (fi 8) (fi 9) (nI a) (ai 9) (ai 22) k) ((ai 22) k))), (0, .ref (ad 4)), (1, .int (nI a))]) hx hb dX4_latestFor_52 hl (k := 3) rfl (nI_1 k) (by decide) rfl (fun ls hl => ?_)
        refine lv_goto (tgt := 9) hx hb dX4_latestFor_55 (by decide) ?_
        have e_9_0 : ac_late (fi 8) (fi 9) (nI a) (ai 9) (ai 22) (k + 1) = ac_imin (ac_late (fi 8) (fi 9) (nI a) (ai 9) (ai 22) k) ((ai 22) k) := by first | rfl | (simp only [ac_late, c_11, c_22, c_38, if_true, if_false, eq_self, not_true_eq_false, not_false_eq_true, ite_true, ite_false, ↓reduceIte]; done) | (simp [ac_late, c_11, c_22, c_38]; done)
        refine ih_9 (k + 1) (a - (k + 1)) ls (by omega) ⟨rfl, (by omega), ?_⟩
        try dsimp only
        rw [e_9_0]
        exact lv_sub hl [2, 3, 1, 0] rfl

set_option maxHeartbeats 4000000 in
set_option maxRecDepth 100000 in
theorem c_X4_tryFrom_0 (l : Launch) (D : va_G) (ad : Nat → Nat) (cI cL : ClassId) (fi : Nat → Int32) (fl : Nat → Int64) (ai : Nat → Nat → Int32) (al : Nat → Nat → Int64) (A : Nat → Prop) (a : Nat) (na : Nat) (z : Int64) (hna : fi 0 = nI na) (hnl : na ≤ 10) (han : a = na) : Met l yX4_tryFrom wsX4_tryFrom (am_rm 2 200) (va_Pc [.ref (ad 4), .int (nI a), .long z] (am_M nwL vwCl D A (ac_w ad cI cL fi fl ai al) [(cI, .int), (cL, .long)])) (am_Mv vwCl D (ac_w ad cI cL fi (vp_updL fl 1 ((ac_try (al 8) (ai 9) (fi 8) (fi 9) (fl 2) na 0 a z ((ai 21), (ai 22), (al 23), (fl 1))).2.2.2)) (va_up (va_up ai 21 ((ac_try (al 8) (ai 9) (fi 8) (fi 9) (fl 2) na 0 a z ((ai 21), (ai 22), (al 23), (fl 1))).1)) 22 ((ac_try (al 8) (ai 9) (fi 8) (fi 9) (fl 2) na 0 a z ((ai 21), (ai 22), (al 23), (fl 1))).2.1)) (va_up al 23 ((ac_try (al 8) (ai 9) (fi 8) (fi 9) (fl 2) na 0 a z ((ai 21), (ai 22), (al 23), (fl 1))).2.2.1))) A) 0 0 A := by
  refine am_startM (cc := cX4_tryFrom) (maxL := 10) (ret := none) (by decide) rfl (Nat.le_of_ble_eq_true rfl) [(0, .ref (ad 4)), (1, .int (nI a)), (2, .long z)] rfl ?_
  intro p e s m below meth c ls hx hb hr hml hown hts hlocks hK hN hD H locs hP hS hl
  have hown : s.vm.findClass RX4 = some m.cls := hown
  have ht := am_ht hts
  have hin_X4 : ∀ w ∈ u_ws RX4 TX4 8, w ∈ wsX4_tryFrom := fun w h => List.mem_cons_of_mem _ (am_inX4 w h)
  have hin_X1 : ∀ w ∈ u_ws RX1 TX1 14, w ∈ wsX4_tryFrom := fun w h => List.mem_cons_of_mem _ (am_inX1 w h)
  have hf_22 := ht 155 (.fieldLink RX4 22 "ApartCost$Line" "product" "LApartCost$Product;") rfl
  have hf_53 := ht 58 (.fieldLink RX4 53 "ApartCost$Product" "acts" "I") rfl
  refine lv_iload_n hx hb dX4_tryFrom_0 rfl (lv_at hl 1 rfl) ?_
  refine lv_aload_n hx hb dX4_tryFrom_1 rfl (lv_at hl 0 rfl) ?_
  refine va_get (D := D) (ci := 4) (v := .ref (ad 1)) (C := RX4) (T := TX4) (N := 8) hx hb hts hin_X4 hown hK hP 4 rfl rfl 1 (by decide) hf_22 (fun _ h9 => h9) rfl dX4_tryFrom_2 ?_
  refine va_get (D := D) (ci := 1) (v := .int (fi 0)) (C := RX1) (T := TX1) (N := 14) hx hb hts hin_X1 hown hK hP 1 rfl rfl 0 (by decide) hf_53 (fun _ h9 => h9) rfl dX4_tryFrom_5 ?_
  refine lv_icmp_lt (tgt := 17) hx hb dX4_tryFrom_8 (by decide) (fun c_8 => ?_) (fun c_8 => ?_)
  · skip
    exact absurd c_8 (by rw [hna, han]; exact nI_nlt (Nat.le_refl _) (by omega))
  · skip
    refine lv_aload_n hx hb dX4_tryFrom_11 rfl (lv_at hl 0 rfl) ?_
    refine lv_lload_n hx hb dX4_tryFrom_12 rfl (lv_at hl 2 rfl) ?_
    refine am_callMv (va_runV (As := [.long z]) (rest := []) ⟨hx, hb, hml, hown, hts⟩ (c_X4_keepTrial l D ad cI cL fi fl ai al A z na hna hnl) (cwV 1 hts (am_gV (am_in 405 rfl) (am_in 406 rfl) (am_in 9 rfl) (am_in 34 rfl) (am_in 407 rfl)) rfl rfl rfl (by decide +kernel) ⟨Nat.le_of_ble_eq_true rfl, Nat.le_of_ble_eq_true rfl⟩) (am_preVM 4 4 rfl rfl rfl hP hK hN hD) rfl rfl hl.1 rfl (lv_room (Nat.le_of_ble_eq_true rfl)) dX4_tryFrom_13 ⟨Nat.zero_le _, Nat.zero_le _⟩) hS (fun H locs hP hS => ?_)
    have hP : va_P D vwCl (ac_w ad cI cL fi (vp_updL fl 1 z) (va_up ai 21 (ac_keep (fi 8) (ai 22) (ai 21) na)) al) H := hP
    have hD : va_D A (ac_w ad cI cL fi (vp_updL fl 1 z) (va_up ai 21 (ac_keep (fi 8) (ai 22) (ai 21) na)) al) := am_D hD rfl
    exact am_vretM hx hb hr hlocks hP hS dX4_tryFrom_16

set_option maxHeartbeats 4000000 in
set_option maxRecDepth 100000 in
theorem c_X4_tryFrom_S (l : Launch) (D : va_G) (ad : Nat → Nat) (cI cL : ClassId) (fi : Nat → Int32) (fl : Nat → Int64) (ai : Nat → Nat → Int32) (al : Nat → Nat → Int64) (A : Nat → Prop) (n : Nat) (na : Nat) (ih : ∀ (fi : Nat → Int32) (fl : Nat → Int64) (ai : Nat → Nat → Int32) (al : Nat → Nat → Int64) (A : Nat → Prop) (a : Nat) (z : Int64) (st : Nat), fi 0 = nI na → na ≤ 10 → fi 9 = nI st → st ≤ 4 → a + n = na → Met l yX4_tryFrom wsX4_tryFrom (am_rm (2 + n) (200 + n * 29)) (va_Pc [.ref (ad 4), .int (nI a), .long z] (am_M nwL vwCl D A (ac_w ad cI cL fi fl ai al) [(cI, .int), (cL, .long)])) (am_Mv vwCl D (ac_w ad cI cL fi (vp_updL fl 1 ((ac_try (al 8) (ai 9) (fi 8) (fi 9) (fl 2) na n a z ((ai 21), (ai 22), (al 23), (fl 1))).2.2.2)) (va_up (va_up ai 21 ((ac_try (al 8) (ai 9) (fi 8) (fi 9) (fl 2) na n a z ((ai 21), (ai 22), (al 23), (fl 1))).1)) 22 ((ac_try (al 8) (ai 9) (fi 8) (fi 9) (fl 2) na n a z ((ai 21), (ai 22), (al 23), (fl 1))).2.1)) (va_up al 23 ((ac_try (al 8) (ai 9) (fi 8) (fi 9) (fl 2) na n a z ((ai 21), (ai 22), (al 23), (fl 1))).2.2.1))) A) 0 0 A) (a : Nat) (z : Int64) (st : Nat) (hna : fi 0 = nI na) (hnl : na ≤ 10) (hst : fi 9 = nI st) (hst4 : st ≤ 4) (han : a + (n + 1) = na) : Met l yX4_tryFrom wsX4_tryFrom (am_rm (2 + (n + 1)) (200 + (n + 1) * 29)) (va_Pc [.ref (ad 4), .int (nI a), .long z] (am_M nwL vwCl D A (ac_w ad cI cL fi fl ai al) [(cI, .int), (cL, .long)])) (am_Mv vwCl D (ac_w ad cI cL fi (vp_updL fl 1 ((ac_try (al 8) (ai 9) (fi 8) (fi 9) (fl 2) na (n + 1) a z ((ai 21), (ai 22), (al 23), (fl 1))).2.2.2)) (va_up (va_up ai 21 ((ac_try (al 8) (ai 9) (fi 8) (fi 9) (fl 2) na (n + 1) a z ((ai 21), (ai 22), (al 23), (fl 1))).1)) 22 ((ac_try (al 8) (ai 9) (fi 8) (fi 9) (fl 2) na (n + 1) a z ((ai 21), (ai 22), (al 23), (fl 1))).2.1)) (va_up al 23 ((ac_try (al 8) (ai 9) (fi 8) (fi 9) (fl 2) na (n + 1) a z ((ai 21), (ai 22), (al 23), (fl 1))).2.2.1))) A) 0 0 A := by
  refine am_startM (cc := cX4_tryFrom) (maxL := 10) (ret := none) (by decide) rfl (Nat.le_of_ble_eq_true rfl) [(0, .ref (ad 4)), (1, .int (nI a)), (2, .long z)] rfl ?_
  intro p e s m below meth c ls hx hb hr hml hown hts hlocks hK hN hD H locs hP hS hl
  have hown : s.vm.findClass RX4 = some m.cls := hown
  have ht := am_ht hts
  have hin_X4 : ∀ w ∈ u_ws RX4 TX4 8, w ∈ wsX4_tryFrom := fun w h => List.mem_cons_of_mem _ (am_inX4 w h)
  have hin_X1 : ∀ w ∈ u_ws RX1 TX1 14, w ∈ wsX4_tryFrom := fun w h => List.mem_cons_of_mem _ (am_inX1 w h)
  have hf_15 := ht 156 (.fieldLink RX4 15 "ApartCost$Line" "trial" "[I") rfl
  have hf_18 := ht 157 (.fieldLink RX4 18 "ApartCost$Line" "loads" "[J") rfl
  have hf_22 := ht 155 (.fieldLink RX4 22 "ApartCost$Line" "product" "LApartCost$Product;") rfl
  have hf_32 := ht 158 (.fieldLink RX4 32 "ApartCost$Line" "set" "I") rfl
  have hf_49 := ht 160 (.fieldLink RX4 49 "ApartCost$Line" "longest" "J") rfl
  have hf_53 := ht 58 (.fieldLink RX4 53 "ApartCost$Product" "acts" "I") rfl
  have hf_62 := ht 64 (.fieldLink RX4 62 "ApartCost$Product" "cents" "[J") rfl
  have hf_71 := ht 161 (.fieldLink RX4 71 "ApartCost$Line" "least" "J") rfl
  refine lv_iload_n hx hb dX4_tryFrom_0 rfl (lv_at hl 1 rfl) ?_
  refine lv_aload_n hx hb dX4_tryFrom_1 rfl (lv_at hl 0 rfl) ?_
  refine va_get (D := D) (ci := 4) (v := .ref (ad 1)) (C := RX4) (T := TX4) (N := 8) hx hb hts hin_X4 hown hK hP 4 rfl rfl 1 (by decide) hf_22 (fun _ h9 => h9) rfl dX4_tryFrom_2 ?_
  refine va_get (D := D) (ci := 1) (v := .int (fi 0)) (C := RX1) (T := TX1) (N := 14) hx hb hts hin_X1 hown hK hP 1 rfl rfl 0 (by decide) hf_53 (fun _ h9 => h9) rfl dX4_tryFrom_5 ?_
  refine lv_icmp_lt (tgt := 17) hx hb dX4_tryFrom_8 (by decide) (fun c_8 => ?_) (fun c_8 => ?_)
  · skip
    refine lv_aload_n hx hb dX4_tryFrom_17 rfl (lv_at hl 0 rfl) ?_
    refine va_get (D := D) (ci := 4) (v := .int (fi 8)) (C := RX4) (T := TX4) (N := 8) hx hb hts hin_X4 hown hK hP 4 rfl rfl 4 (by decide) hf_32 (fun _ h9 => h9) rfl dX4_tryFrom_18 ?_
    refine lv_iload_n hx hb dX4_tryFrom_21 rfl (lv_at hl 1 rfl) ?_
    refine am_callRi (va_Run.run (va_runSN (As := [.int (fi 8), .int (nI a)]) (rest := []) ⟨hx, hb, hml, hown, hts⟩ (c_X0_has l D _ _ (fi 8) (nI a)) ⟨va_cnB 2 hts (am_gN (am_in 206 rfl)) rfl rfl rfl (am_nw_at hN 4 rfl) (ht 29 _ rfl) (by decide +kernel) ⟨by simp only [am_rm]; omega, by simp only [am_rm]; omega⟩, (ht 205 _ rfl), trivial⟩ (am_preSR hP hK hN) rfl rfl hl.1 rfl (lv_room (Nat.le_of_ble_eq_true rfl)) dX4_tryFrom_22 ⟨Nat.zero_le _, Nat.zero_le _⟩)) ?_
    refine lv_if_ne (tgt := 37) hx hb dX4_tryFrom_25 (by decide) (fun c_25 => ?_) (fun c_25 => ?_)
    · skip
      refine lv_aload_n hx hb dX4_tryFrom_37 rfl (lv_at hl 0 rfl) ?_
      refine va_get (D := D) (ci := 4) (v := .ref (ad 1)) (C := RX4) (T := TX4) (N := 8) hx hb hts hin_X4 hown hK hP 4 rfl rfl 1 (by decide) hf_22 (fun _ h9 => h9) rfl dX4_tryFrom_38 ?_
      refine va_get (D := D) (ci := 1) (v := .ref (ad 8)) (C := RX1) (T := TX1) (N := 14) hx hb hts hin_X1 hown hK hP 1 rfl rfl 4 (by decide) hf_62 (fun _ h9 => h9) rfl dX4_tryFrom_41 ?_
      refine lv_iload_n hx hb dX4_tryFrom_44 rfl (lv_at hl 1 rfl) ?_
      refine am_lald hx hb hK hP 8 1 rfl rfl a rfl (by omega) (by decide) dX4_tryFrom_45 ?_
      refine lv_lstore (lv' := [(4, .long ((al 8) a)), (0, .ref (ad 4)), (1, .int (nI a)), (2, .long z)]) hx hb dX4_tryFrom_46 hl (by decide) rfl (fun ls hl => ?_)
      refine lv_aload_n hx hb dX4_tryFrom_48 rfl (lv_at hl 1 rfl) ?_
      refine lv_iload_n hx hb dX4_tryFrom_49 rfl (lv_at hl 2 rfl) ?_
      refine am_callRi (W.runV (As := [.int (nI a)]) (rest := []) ⟨hx, hb, hml, hown, hts⟩ (c_X4_latestFor l D ad cI cL fi fl ai al a (by omega)) (cwV 1 hts (am_gV (am_in 408 rfl) (am_in 409 rfl) (am_in 10 rfl) (am_in 34 rfl) (am_in 410 rfl)) rfl rfl rfl (by decide +kernel) ⟨by simp only [am_rm]; omega, by simp only [am_rm]; omega⟩) (am_preVR 4 4 rfl rfl rfl hP hK hN) rfl rfl hl.1 rfl (lv_room (Nat.le_of_ble_eq_true rfl)) dX4_tryFrom_50 ⟨Nat.zero_le _, Nat.zero_le _⟩) ?_
      refine lv_istore (lv' := [(6, .int (ac_late (fi 8) (fi 9) (nI a) (ai 9) (ai 22) a)), (4, .long ((al 8) a)), (0, .ref (ad 4)), (1, .int (nI a)), (2, .long z)]) hx hb dX4_tryFrom_53 hl (by decide) rfl (fun ls hl => ?_)
      refine lv_aload_n hx hb dX4_tryFrom_55 rfl (lv_at hl 2 rfl) ?_
      refine lv_iload_n hx hb dX4_tryFrom_56 rfl (lv_at hl 3 rfl) ?_
      refine am_callRi (W.runV (As := [.int (nI a)]) (rest := []) ⟨hx, hb, hml, hown, hts⟩ (c_X4_earliestFor l D ad cI cL fi fl ai al a (by omega)) (cwV 1 hts (am_gV (am_in 414 rfl) (am_in 415 rfl) (am_in 11 rfl) (am_in 34 rfl) (am_in 416 rfl)) rfl rfl rfl (by decide +kernel) ⟨by simp only [am_rm]; omega, by simp only [am_rm]; omega⟩) (am_preVR 4 4 rfl rfl rfl hP hK hN) rfl rfl hl.1 rfl (lv_room (Nat.le_of_ble_eq_true rfl)) dX4_tryFrom_57 ⟨Nat.zero_le _, Nat.zero_le _⟩) ?_
      refine am_topi (am_clamp (ac_early_nn _ _ _ _)) ?_
      refine lv_istore (lv' := [(7, .int (nI (ac_early (fi 8) ((ai 9) a) (ai 22) a).toNatClampNeg)), (6, .int (ac_late (fi 8) (fi 9) (nI a) (ai 9) (ai 22) a)), (4, .long ((al 8) a)), (0, .ref (ad 4)), (1, .int (nI a)), (2, .long z)]) hx hb dX4_tryFrom_60 hl (by decide) rfl (fun ls hl => ?_)
      refine am_loop (σ := (Nat) × (ac_T)) (fun q n9 H locs ls => n9 = 4 - q.1 ∧ q.1 < 2 ^ 31 ∧ ac_tl (fun m u => ac_try (al 8) (ai 9) (fi 8) (fi 9) (fl 2) na n (a + 1) m u) ((al 8) a) (fl 2) (ac_late (fi 8) (fi 9) (nI a) (ai 9) (ai 22) a) a z (4 - q.1) q.1 q.2 = ac_tl (fun m u => ac_try (al 8) (ai 9) (fi 8) (fi 9) (fl 2) na n (a + 1) m u) ((al 8) a) (fl 2) (ac_late (fi 8) (fi 9) (nI a) (ai 9) (ai 22) a) a z (4 - (ac_early (fi 8) ((ai 9) a) (ai 22) a).toNatClampNeg) (ac_early (fi 8) ((ai 9) a) (ai 22) a).toNatClampNeg ((ai 21), (ai 22), (al 23), (fl 1)) ∧ va_P D vwCl (ac_w ad cI cL fi (vp_updL fl 1 q.2.2.2.2) (va_up (va_up ai 21 q.2.1) 22 q.2.2.1) (va_up al 23 q.2.2.2.1)) H ∧ va_S A s.heap H locs ∧ lv_has ls 10 [(0, .ref (ad 4)), (1, .int (nI a)), (2, .long z), (4, .long ((al 8) a)), (6, .int (ac_late (fi 8) (fi 9) (nI a) (ai 9) (ai 22) a)), (7, .int (nI q.1))]) ?_ ((ac_early (fi 8) ((ai 9) a) (ai 22) a).toNatClampNeg, ((ai 21), (ai 22), (al 23), (fl 1))) (4 - ((ac_early (fi 8) ((ai 9) a) (ai 22) a).toNatClampNeg)) H locs ls ⟨rfl, (am_clamp_lt _), rfl, hP, hS, lv_sub hl [3, 4, 5, 2, 1, 0] rfl⟩
      rintro ⟨p, t⟩ n9 H locs ls ⟨hn_62, hp, hm, hP, hS, hl⟩ ih_62
      dsimp only at hn_62 hp hm hP hl
      have hD : va_D A (ac_w ad cI cL fi (vp_updL fl 1 t.2.2.2) (va_up (va_up ai 21 t.1) 22 t.2.1) (va_up al 23 t.2.2.1)) := am_D hD rfl
      refine lv_iload hx hb dX4_tryFrom_62 (lv_at hl 5 rfl) ?_
      refine lv_iload hx hb dX4_tryFrom_64 (lv_at hl 4 rfl) ?_
      refine lv_icmp_gt (tgt := 154) hx hb dX4_tryFrom_66 (by decide) (fun c_66 => ?_) (fun c_66 => ?_)
      · skip
        have hT : ac_try (al 8) (ai 9) (fi 8) (fi 9) (fl 2) na (n + 1) a z ((ai 21), (ai 22), (al 23), (fl 1)) = t := by rw [ac_try, if_neg c_25]; exact hm.symm.trans (ac_tl_s1 c_66)
        exact am_vretM hx hb hr hlocks (by rw [hT]; exact hP) hS dX4_tryFrom_154
      · skip
        have hp4 : p < 4 := am_p4 hst hst4 (by omega) (ac_late_le _ _ _ _ _ _) c_66
        refine lv_aload_n hx hb dX4_tryFrom_69 rfl (lv_at hl 0 rfl) ?_
        refine va_get (D := D) (ci := 4) (v := .long t.2.2.2) (C := RX4) (T := TX4) (N := 8) hx hb hts hin_X4 hown hK hP 4 rfl rfl 6 (by decide) hf_49 (fun _ h9 => h9) rfl dX4_tryFrom_70 ?_
        refine lv_aload_n hx hb dX4_tryFrom_73 rfl (lv_at hl 0 rfl) ?_
        refine va_get (D := D) (ci := 4) (v := .long (fl 2)) (C := RX4) (T := TX4) (N := 8) hx hb hts hin_X4 hown hK hP 4 rfl rfl 7 (by decide) hf_71 (fun _ h9 => h9) rfl dX4_tryFrom_74 ?_
        refine W.lcmp hx hb dX4_tryFrom_77 ?_
        refine lv_if_le (tgt := 154) hx hb dX4_tryFrom_78 (by decide) (fun c_78 => ?_) (fun c_78 => ?_)
        · skip
          have c_78 : t.2.2.2 ≤ (fl 2) := (lg_cmp_le _ _).mp c_78
          have hT : ac_try (al 8) (ai 9) (fi 8) (fi 9) (fl 2) na (n + 1) a z ((ai 21), (ai 22), (al 23), (fl 1)) = t := by rw [ac_try, if_neg c_25]; exact hm.symm.trans (ac_tl_s2 c_78)
          exact am_vretM hx hb hr hlocks (by rw [hT]; exact hP) hS dX4_tryFrom_154
        · skip
          have c_78 : ¬ (t.2.2.2 ≤ (fl 2)) := (fun z => c_78 ((lg_cmp_le _ _).mpr z))
          refine lv_lload_n hx hb dX4_tryFrom_81 rfl (lv_at hl 2 rfl) ?_
          refine lv_aload_n hx hb dX4_tryFrom_82 rfl (lv_at hl 0 rfl) ?_
          refine va_get (D := D) (ci := 4) (v := .ref (ad 23)) (C := RX4) (T := TX4) (N := 8) hx hb hts hin_X4 hown hK hP 4 rfl rfl 3 (by decide) hf_18 (fun _ h9 => h9) rfl dX4_tryFrom_83 ?_
          refine lv_iload hx hb dX4_tryFrom_86 (lv_at hl 5 rfl) ?_
          refine am_lald hx hb hK hP 23 1 rfl rfl p rfl (by omega) (by decide) dX4_tryFrom_88 ?_
          refine lv_lload hx hb dX4_tryFrom_89 (lv_at hl 3 rfl) ?_
          refine lv_ladd hx hb dX4_tryFrom_91 ?_
          refine va_mmax_long hx hb (hml.trans hl.1.symm) hown (ht 400 _ rfl) (ht 336 _ rfl) (ht 37 _ rfl) (ht 337 _ rfl) (by simp only [am_rm]; omega) (by simp only [am_rm, List.map_nil, List.map_cons, List.sum_nil, List.sum_cons]; omega) (Nat.zero_le _) (Nat.zero_le _) dX4_tryFrom_92 ?_
          refine am_topl (y := ac_max z ((t.2.2.1 p) + ((al 8) a))) rfl ?_
          refine lv_lstore (lv' := [(8, .long (ac_max z ((t.2.2.1 p) + ((al 8) a)))), (0, .ref (ad 4)), (1, .int (nI a)), (2, .long z), (4, .long ((al 8) a)), (6, .int (ac_late (fi 8) (fi 9) (nI a) (ai 9) (ai 22) a)), (7, .int (nI p))]) hx hb dX4_tryFrom_95 hl (by decide) rfl (fun ls hl => ?_)
          refine lv_lload hx hb dX4_tryFrom_97 (lv_at hl 0 rfl) ?_
          refine lv_aload_n hx hb dX4_tryFrom_99 rfl (lv_at hl 1 rfl) ?_
          refine va_get (D := D) (ci := 4) (v := .long t.2.2.2) (C := RX4) (T := TX4) (N := 8) hx hb hts hin_X4 hown hK hP 4 rfl rfl 6 (by decide) hf_49 (fun _ h9 => h9) rfl dX4_tryFrom_100 ?_
          refine W.lcmp hx hb dX4_tryFrom_103 ?_
          refine lv_if_ge (tgt := 148) hx hb dX4_tryFrom_104 (by decide) (fun c_104 => ?_) (fun c_104 => ?_)
          · skip
            have c_104 : t.2.2.2 ≤ (ac_max z ((t.2.2.1 p) + ((al 8) a))) := (lg_cmp_ge _ _).mp c_104
            refine lv_iinc (v := nI (p + 1)) (lv' := [(7, .int (nI (p + 1))), (8, .long (ac_max z ((t.2.2.1 p) + ((al 8) a)))), (0, .ref (ad 4)), (1, .int (nI a)), (2, .long z), (4, .long ((al 8) a)), (6, .int (ac_late (fi 8) (fi 9) (nI a) (ai 9) (ai 22) a))]) hx hb dX4_tryFrom_148 hl (k := 6) rfl (nI_1 p) (by decide) rfl (fun ls hl => ?_)
            refine lv_goto (tgt := 62) hx hb dX4_tryFrom_151 (by decide) ?_
            refine ih_62 (p + 1, t) (4 - (p + 1)) H locs ls (by first | omega | (dsimp only; omega)) ⟨rfl, (by omega), (by dsimp only; rw [← hm, show 4 - p = (4 - (p + 1)) + 1 by omega, ac_tl, if_neg c_66, if_neg c_78, if_pos c_104]), ?_, hS, ?_⟩
            · exact hP
            · exact lv_sub hl [2, 3, 4, 5, 6, 0] rfl
          · skip
            have c_104 : ¬ (t.2.2.2 ≤ (ac_max z ((t.2.2.1 p) + ((al 8) a)))) := (fun z => c_104 ((lg_cmp_ge _ _).mpr z))
            refine lv_aload_n hx hb dX4_tryFrom_107 rfl (lv_at hl 1 rfl) ?_
            refine va_get (D := D) (ci := 4) (v := .ref (ad 22)) (C := RX4) (T := TX4) (N := 8) hx hb hts hin_X4 hown hK hP 4 rfl rfl 2 (by decide) hf_15 (fun _ h9 => h9) rfl dX4_tryFrom_108 ?_
            refine lv_iload_n hx hb dX4_tryFrom_111 rfl (lv_at hl 2 rfl) ?_
            refine lv_iload hx hb dX4_tryFrom_112 (lv_at hl 6 rfl) ?_
            refine am_iast hx hb hK hP hD hS 22 0 rfl rfl a rfl (by omega) (by decide) (ac_w ad cI cL fi (vp_updL fl 1 t.2.2.2) (va_up (va_up ai 21 t.1) 22 (upd t.2.1 a (nI p))) (va_up al 23 t.2.2.1)) rfl dX4_tryFrom_114 (fun H locs hP hD hS => ?_)
            refine lv_aload_n hx hb dX4_tryFrom_115 rfl (lv_at hl 1 rfl) ?_
            refine va_get (D := D) (ci := 4) (v := .ref (ad 23)) (C := RX4) (T := TX4) (N := 8) hx hb hts hin_X4 hown hK hP 4 rfl rfl 3 (by decide) hf_18 (fun _ h9 => h9) rfl dX4_tryFrom_116 ?_
            refine lv_iload hx hb dX4_tryFrom_119 (lv_at hl 6 rfl) ?_
            refine lv_dup2_11 hx hb dX4_tryFrom_121 rfl rfl ?_
            refine am_lald hx hb hK hP 23 1 rfl rfl p rfl (by omega) (by decide) dX4_tryFrom_122 ?_
            refine lv_lload hx hb dX4_tryFrom_123 (lv_at hl 4 rfl) ?_
            refine lv_ladd hx hb dX4_tryFrom_125 ?_
            refine am_last hx hb hK hP hD hS 23 1 rfl rfl p rfl (by omega) (by decide) (ac_w ad cI cL fi (vp_updL fl 1 t.2.2.2) (va_up (va_up ai 21 t.1) 22 (upd t.2.1 a (nI p))) (va_up al 23 (vp_updL t.2.2.1 p ((t.2.2.1 p) + ((al 8) a))))) rfl dX4_tryFrom_126 (fun H locs hP hD hS => ?_)
            refine lv_aload_n hx hb dX4_tryFrom_127 rfl (lv_at hl 1 rfl) ?_
            refine lv_iload_n hx hb dX4_tryFrom_128 rfl (lv_at hl 2 rfl) ?_
            refine lv_iconst (v := 1) hx hb dX4_tryFrom_129 (by decide) ?_
            refine lv_iadd hx hb dX4_tryFrom_130 ?_
            refine am_topi (nI_1 a) ?_
            refine lv_lload hx hb dX4_tryFrom_131 (lv_at hl 0 rfl) ?_
            refine am_callMv (va_runS (As := [.ref (ad 4), .int (nI (a + 1)), .long (ac_max z ((t.2.2.1 p) + ((al 8) a)))]) (rest := []) ⟨hx, hb, hml, hown, hts⟩ (ih fi (vp_updL fl 1 t.2.2.2) (va_up (va_up ai 21 t.1) 22 (upd t.2.1 a (nI p))) (va_up al 23 (vp_updL t.2.2.1 p ((t.2.2.1 p) + ((al 8) a)))) A (a + 1) (ac_max z ((t.2.2.1 p) + ((al 8) a))) st hna hnl hst hst4 (by omega)) (va_cwS 3 hts (am_gS (am_in 402 rfl) (am_in 403 rfl) (am_in 34 rfl) (am_in 404 rfl)) rfl rfl rfl (by decide +kernel) ⟨by simp only [am_rm]; omega, by simp only [am_rm]; omega⟩) (am_preSM hP hK hN hD) rfl rfl hl.1 rfl (lv_room (Nat.le_of_ble_eq_true rfl)) dX4_tryFrom_133 ⟨Nat.zero_le _, Nat.zero_le _⟩) hS (fun H locs hP hS => ?_)
            have hP : va_P D vwCl (ac_w ad cI cL fi (vp_updL fl 1 ((ac_try (al 8) (ai 9) (fi 8) (fi 9) (fl 2) na n (a + 1) (ac_max z ((t.2.2.1 p) + ((al 8) a))) (ac_tput t a p ((al 8) a))).2.2.2)) (va_up (va_up ai 21 ((ac_try (al 8) (ai 9) (fi 8) (fi 9) (fl 2) na n (a + 1) (ac_max z ((t.2.2.1 p) + ((al 8) a))) (ac_tput t a p ((al 8) a))).1)) 22 ((ac_try (al 8) (ai 9) (fi 8) (fi 9) (fl 2) na n (a + 1) (ac_max z ((t.2.2.1 p) + ((al 8) a))) (ac_tput t a p ((al 8) a))).2.1)) (va_up al 23 ((ac_try (al 8) (ai 9) (fi 8) (fi 9) (fl 2) na n (a + 1) (ac_max z ((t.2.2.1 p) + ((al 8) a))) (ac_tput t a p ((al 8) a))).2.2.1))) H := hP
            have hD : va_D A (ac_w ad cI cL fi (vp_updL fl 1 ((ac_try (al 8) (ai 9) (fi 8) (fi 9) (fl 2) na n (a + 1) (ac_max z ((t.2.2.1 p) + ((al 8) a))) (ac_tput t a p ((al 8) a))).2.2.2)) (va_up (va_up ai 21 ((ac_try (al 8) (ai 9) (fi 8) (fi 9) (fl 2) na n (a + 1) (ac_max z ((t.2.2.1 p) + ((al 8) a))) (ac_tput t a p ((al 8) a))).1)) 22 ((ac_try (al 8) (ai 9) (fi 8) (fi 9) (fl 2) na n (a + 1) (ac_max z ((t.2.2.1 p) + ((al 8) a))) (ac_tput t a p ((al 8) a))).2.1)) (va_up al 23 ((ac_try (al 8) (ai 9) (fi 8) (fi 9) (fl 2) na n (a + 1) (ac_max z ((t.2.2.1 p) + ((al 8) a))) (ac_tput t a p ((al 8) a))).2.2.1))) := am_D hD rfl
            refine lv_aload_n hx hb dX4_tryFrom_136 rfl (lv_at hl 1 rfl) ?_
            refine va_get (D := D) (ci := 4) (v := .ref (ad 23)) (C := RX4) (T := TX4) (N := 8) hx hb hts hin_X4 hown hK hP 4 rfl rfl 3 (by decide) hf_18 (fun _ h9 => h9) rfl dX4_tryFrom_137 ?_
            refine lv_iload hx hb dX4_tryFrom_140 (lv_at hl 6 rfl) ?_
            refine lv_dup2_11 hx hb dX4_tryFrom_142 rfl rfl ?_
            refine am_lald hx hb hK hP 23 1 rfl rfl p rfl (by omega) (by decide) dX4_tryFrom_143 ?_
            refine lv_lload hx hb dX4_tryFrom_144 (lv_at hl 4 rfl) ?_
            refine lv_lsub hx hb dX4_tryFrom_146 ?_
            refine am_last hx hb hK hP hD hS 23 1 rfl rfl p rfl (by omega) (by decide) (ac_w ad cI cL fi (vp_updL fl 1 ((ac_try (al 8) (ai 9) (fi 8) (fi 9) (fl 2) na n (a + 1) (ac_max z ((t.2.2.1 p) + ((al 8) a))) (ac_tput t a p ((al 8) a))).2.2.2)) (va_up (va_up ai 21 ((ac_try (al 8) (ai 9) (fi 8) (fi 9) (fl 2) na n (a + 1) (ac_max z ((t.2.2.1 p) + ((al 8) a))) (ac_tput t a p ((al 8) a))).1)) 22 ((ac_try (al 8) (ai 9) (fi 8) (fi 9) (fl 2) na n (a + 1) (ac_max z ((t.2.2.1 p) + ((al 8) a))) (ac_tput t a p ((al 8) a))).2.1)) (va_up al 23 (vp_updL ((ac_try (al 8) (ai 9) (fi 8) (fi 9) (fl 2) na n (a + 1) (ac_max z ((t.2.2.1 p) + ((al 8) a))) (ac_tput t a p ((al 8) a))).2.2.1) p ((((ac_try (al 8) (ai 9) (fi 8) (fi 9) (fl 2) na n (a + 1) (ac_max z ((t.2.2.1 p) + ((al 8) a))) (ac_tput t a p ((al 8) a))).2.2.1) p) - ((al 8) a))))) rfl dX4_tryFrom_147 (fun H locs hP hD hS => ?_)
            refine lv_iinc (v := nI (p + 1)) (lv' := [(7, .int (nI (p + 1))), (8, .long (ac_max z ((t.2.2.1 p) + ((al 8) a)))), (0, .ref (ad 4)), (1, .int (nI a)), (2, .long z), (4, .long ((al 8) a)), (6, .int (ac_late (fi 8) (fi 9) (nI a) (ai 9) (ai 22) a))]) hx hb dX4_tryFrom_148 hl (k := 6) rfl (nI_1 p) (by decide) rfl (fun ls hl => ?_)
            refine lv_goto (tgt := 62) hx hb dX4_tryFrom_151 (by decide) ?_
            refine ih_62 (p + 1, (ac_toff (ac_try (al 8) (ai 9) (fi 8) (fi 9) (fl 2) na n (a + 1) (ac_max z (t.2.2.1 p + ((al 8) a))) (ac_tput t a p ((al 8) a))) p ((al 8) a))) (4 - (p + 1)) H locs ls (by first | omega | (dsimp only; omega)) ⟨rfl, (by omega), (by dsimp only; rw [← hm, show 4 - p = (4 - (p + 1)) + 1 by omega, ac_tl, if_neg c_66, if_neg c_78, if_neg c_104]), ?_, hS, ?_⟩
            · exact hP
            · exact lv_sub hl [2, 3, 4, 5, 6, 0] rfl
    · skip
      refine lv_aload_n hx hb dX4_tryFrom_28 rfl (lv_at hl 0 rfl) ?_
      refine lv_iload_n hx hb dX4_tryFrom_29 rfl (lv_at hl 1 rfl) ?_
      refine lv_iconst (v := 1) hx hb dX4_tryFrom_30 (by decide) ?_
      refine lv_iadd hx hb dX4_tryFrom_31 ?_
      refine am_topi (nI_1 a) ?_
      refine lv_lload_n hx hb dX4_tryFrom_32 rfl (lv_at hl 2 rfl) ?_
      refine am_callMv (va_runS (As := [.ref (ad 4), .int (nI (a + 1)), .long z]) (rest := []) ⟨hx, hb, hml, hown, hts⟩ (ih fi fl ai al A (a + 1) z st hna hnl hst hst4 (by omega)) (va_cwS 3 hts (am_gS (am_in 402 rfl) (am_in 403 rfl) (am_in 34 rfl) (am_in 404 rfl)) rfl rfl rfl (by decide +kernel) ⟨by simp only [am_rm]; omega, by simp only [am_rm]; omega⟩) (am_preSM hP hK hN hD) rfl rfl hl.1 rfl (lv_room (Nat.le_of_ble_eq_true rfl)) dX4_tryFrom_33 ⟨Nat.zero_le _, Nat.zero_le _⟩) hS (fun H locs hP hS => ?_)
      have hP : va_P D vwCl (ac_w ad cI cL fi (vp_updL fl 1 ((ac_try (al 8) (ai 9) (fi 8) (fi 9) (fl 2) na n (a + 1) z ((ai 21), (ai 22), (al 23), (fl 1))).2.2.2)) (va_up (va_up ai 21 ((ac_try (al 8) (ai 9) (fi 8) (fi 9) (fl 2) na n (a + 1) z ((ai 21), (ai 22), (al 23), (fl 1))).1)) 22 ((ac_try (al 8) (ai 9) (fi 8) (fi 9) (fl 2) na n (a + 1) z ((ai 21), (ai 22), (al 23), (fl 1))).2.1)) (va_up al 23 ((ac_try (al 8) (ai 9) (fi 8) (fi 9) (fl 2) na n (a + 1) z ((ai 21), (ai 22), (al 23), (fl 1))).2.2.1))) H := hP
      have hD : va_D A (ac_w ad cI cL fi (vp_updL fl 1 ((ac_try (al 8) (ai 9) (fi 8) (fi 9) (fl 2) na n (a + 1) z ((ai 21), (ai 22), (al 23), (fl 1))).2.2.2)) (va_up (va_up ai 21 ((ac_try (al 8) (ai 9) (fi 8) (fi 9) (fl 2) na n (a + 1) z ((ai 21), (ai 22), (al 23), (fl 1))).1)) 22 ((ac_try (al 8) (ai 9) (fi 8) (fi 9) (fl 2) na n (a + 1) z ((ai 21), (ai 22), (al 23), (fl 1))).2.1)) (va_up al 23 ((ac_try (al 8) (ai 9) (fi 8) (fi 9) (fl 2) na n (a + 1) z ((ai 21), (ai 22), (al 23), (fl 1))).2.2.1))) := am_D hD rfl
      exact am_vretM hx hb hr hlocks (by rw [ac_try, if_pos c_25]; exact hP) hS dX4_tryFrom_36
  · skip
    exact absurd (by rw [hna]; exact nI_lt (by omega) (by omega)) c_8

theorem c_X4_tryFrom (l : Launch) (D : va_G) (ad : Nat → Nat) (cI cL : ClassId) (na : Nat) : ∀ (n : Nat), ∀ (fi : Nat → Int32) (fl : Nat → Int64) (ai : Nat → Nat → Int32) (al : Nat → Nat → Int64) (A : Nat → Prop) (a : Nat) (z : Int64) (st : Nat), fi 0 = nI na → na ≤ 10 → fi 9 = nI st → st ≤ 4 → a + n = na → Met l yX4_tryFrom wsX4_tryFrom (am_rm (2 + n) (200 + n * 29)) (va_Pc [.ref (ad 4), .int (nI a), .long z] (am_M nwL vwCl D A (ac_w ad cI cL fi fl ai al) [(cI, .int), (cL, .long)])) (am_Mv vwCl D (ac_w ad cI cL fi (vp_updL fl 1 ((ac_try (al 8) (ai 9) (fi 8) (fi 9) (fl 2) na n a z ((ai 21), (ai 22), (al 23), (fl 1))).2.2.2)) (va_up (va_up ai 21 ((ac_try (al 8) (ai 9) (fi 8) (fi 9) (fl 2) na n a z ((ai 21), (ai 22), (al 23), (fl 1))).1)) 22 ((ac_try (al 8) (ai 9) (fi 8) (fi 9) (fl 2) na n a z ((ai 21), (ai 22), (al 23), (fl 1))).2.1)) (va_up al 23 ((ac_try (al 8) (ai 9) (fi 8) (fi 9) (fl 2) na n a z ((ai 21), (ai 22), (al 23), (fl 1))).2.2.1))) A) 0 0 A
  | 0 => fun fi fl ai al A a z st hna hnl hst hst4 han => by
    have h := c_X4_tryFrom_0 l D ad cI cL fi fl ai al A a na z hna hnl (by omega)
    exact h
  | n + 1 => fun fi fl ai al A a z st hna hnl hst hst4 han => c_X4_tryFrom_S l D ad cI cL fi fl ai al A n na (c_X4_tryFrom l D ad cI cL na n) a z st hna hnl hst hst4 han
end
section
set_option maxHeartbeats 4000000 in
set_option maxRecDepth 100000 in
theorem c_fillJ (l : Launch) (D : va_G) (A : Nat → Prop) (w : va_W) (tys : List (ClassId × FieldType)) (q0 t0 q : Nat) (cA : ClassId) (n : Nat) (f : Nat → Int64) (z : Int64) (hq : w[q0]? = some (q, .inl (cA, n, .inr (.inl f)))) (ht : tys[t0]? = some (cA, .long)) (hn : n < 2 ^ 31) : Met l yJA_fillJ wsJA_fillJ (am_rm 0 0) (va_Pc [.ref q, .long z] (am_M nwL vwCl D A w tys)) (am_Mv vwCl D (w.set q0 (q, .inl (cA, n, .inr (.inl (ac_fillL z f n))))) A) 0 0 A := by
  refine am_startM (cc := cJA_fillJ) (maxL := 5) (ret := none) (by decide) rfl (Nat.le_of_ble_eq_true rfl) [(0, .ref q), (1, .long z)] rfl ?_
  intro p e s m below meth c ls hx hb hr hml hown hts hlocks hK hN hD H locs hP hS hl
  refine lv_iconst (v := 0) hx hb dJA_fillJ_0 (by decide) ?_
  refine lv_istore_n (lv' := [(3, .int 0), (0, .ref q), (1, .long z)]) hx hb dJA_fillJ_1 rfl hl (by decide) rfl (fun ls hl => ?_)
  refine lv_aload_n hx hb dJA_fillJ_2 rfl (lv_at hl 1 rfl) ?_
  refine va_alen hx hb hK hP q0 t0 hq ht (v := nI n) rfl dJA_fillJ_3 ?_
  refine lv_istore (lv' := [(4, .int (nI n)), (3, .int 0), (0, .ref q), (1, .long z)]) hx hb dJA_fillJ_4 hl (by decide) rfl (fun ls hl => ?_)
  refine am_loop (σ := Nat) (fun k n9 H locs ls => n9 = n - k ∧ k ≤ n ∧ va_P D vwCl (w.set q0 (q, .inl (cA, n, .inr (.inl (ac_fillL z f k))))) H ∧ va_S A s.heap H locs ∧ lv_has ls 5 [(0, .ref q), (1, .long z), (3, .int (nI k)), (4, .int (nI n))]) ?_ 0 (n - 0) H locs ls ⟨rfl, Nat.zero_le _, by rw [show ac_fillL z f 0 = f from rfl, am_set_self hq]; exact hP, hS, lv_sub hl [2, 3, 1, 0] rfl⟩
  rintro k n9 H locs ls ⟨hn9, hk, hP, hS, hl⟩ ih
  have hlt : q0 < w.length := (List.getElem?_eq_some_iff.mp hq).1
  have hq1 : (w.set q0 (q, .inl (cA, n, .inr (.inl (ac_fillL z f k)))))[q0]? = some (q, .inl (cA, n, .inr (.inl (ac_fillL z f k)))) := List.getElem?_set_self hlt
  have hD : va_D A (w.set q0 (q, .inl (cA, n, .inr (.inl (ac_fillL z f k))))) := am_D hD (am_set_fst hq)
  refine lv_iload_n hx hb dJA_fillJ_6 rfl (lv_at hl 2 rfl) ?_
  refine lv_iload hx hb dJA_fillJ_7 (lv_at hl 3 rfl) ?_
  refine lv_icmp_ge (tgt := 22) hx hb dJA_fillJ_9 (by decide) (fun c_9 => ?_) (fun c_9 => ?_)
  · have hke : n ≤ k := (am_ge (rfl : nI n = nI n) (by omega) (by omega)).mp c_9
    have hkq : n = k := by omega
    subst hkq
    exact am_vretM hx hb hr hlocks hP hS dJA_fillJ_22
  · have hkl : k < n := Nat.lt_of_not_le (fun z => c_9 ((am_ge (rfl : nI n = nI n) (by omega) (by omega)).mpr z))
    refine lv_aload_n hx hb dJA_fillJ_12 rfl (lv_at hl 0 rfl) ?_
    refine lv_iload_n hx hb dJA_fillJ_13 rfl (lv_at hl 2 rfl) ?_
    refine lv_lload_n hx hb dJA_fillJ_14 rfl (lv_at hl 1 rfl) ?_
    refine am_last hx hb hK hP hD hS q0 t0 hq1 ht k rfl hkl hn (w.set q0 (q, .inl (cA, n, .inr (.inl (ac_fillL z f (k + 1)))))) (by rw [List.set_set]; rfl) dJA_fillJ_15 (fun H locs hP hD hS => ?_)
    refine lv_iinc (v := nI (k + 1)) (lv' := [(3, .int (nI (k + 1))), (0, .ref q), (1, .long z), (4, .int (nI n))]) hx hb dJA_fillJ_16 hl (k := 2) rfl (nI_1 k) (by decide) rfl (fun ls hl => ?_)
    refine lv_goto (tgt := 6) hx hb dJA_fillJ_19 (by decide) ?_
    exact ih (k + 1) (n - (k + 1)) H locs ls (by omega) ⟨rfl, by omega, hP, hS, lv_sub hl [1, 2, 0, 3] rfl⟩
set_option maxHeartbeats 4000000 in
set_option maxRecDepth 100000 in
theorem c_fillI (l : Launch) (D : va_G) (A : Nat → Prop) (w : va_W) (tys : List (ClassId × FieldType)) (q0 t0 q : Nat) (cA : ClassId) (n : Nat) (f : Nat → Int32) (z : Int32) (hq : w[q0]? = some (q, .inl (cA, n, .inl f))) (ht : tys[t0]? = some (cA, .int)) (hn : n < 2 ^ 31) : Met l yJA_fillI wsJA_fillI (am_rm 0 0) (va_Pc [.ref q, .int z] (am_M nwL vwCl D A w tys)) (am_Mv vwCl D (w.set q0 (q, .inl (cA, n, .inl (ac_fillI z f n)))) A) 0 0 A := by
  refine am_startM (cc := cJA_fillI) (maxL := 4) (ret := none) (by decide) rfl (Nat.le_of_ble_eq_true rfl) [(0, .ref q), (1, .int z)] rfl ?_
  intro p e s m below meth c ls hx hb hr hml hown hts hlocks hK hN hD H locs hP hS hl
  refine lv_iconst (v := 0) hx hb dJA_fillI_0 (by decide) ?_
  refine lv_istore_n (lv' := [(2, .int 0), (0, .ref q), (1, .int z)]) hx hb dJA_fillI_1 rfl hl (by decide) rfl (fun ls hl => ?_)
  refine lv_aload_n hx hb dJA_fillI_2 rfl (lv_at hl 1 rfl) ?_
  refine va_alen hx hb hK hP q0 t0 hq ht (v := nI n) rfl dJA_fillI_3 ?_
  refine lv_istore_n (lv' := [(3, .int (nI n)), (2, .int 0), (0, .ref q), (1, .int z)]) hx hb dJA_fillI_4 rfl hl (by decide) rfl (fun ls hl => ?_)
  refine am_loop (σ := Nat) (fun k n9 H locs ls => n9 = n - k ∧ k ≤ n ∧ va_P D vwCl (w.set q0 (q, .inl (cA, n, .inl (ac_fillI z f k)))) H ∧ va_S A s.heap H locs ∧ lv_has ls 4 [(0, .ref q), (1, .int z), (2, .int (nI k)), (3, .int (nI n))]) ?_ 0 (n - 0) H locs ls ⟨rfl, Nat.zero_le _, by rw [show ac_fillI z f 0 = f from rfl, am_set_self hq]; exact hP, hS, lv_sub hl [2, 3, 1, 0] rfl⟩
  rintro k n9 H locs ls ⟨hn9, hk, hP, hS, hl⟩ ih
  have hlt : q0 < w.length := (List.getElem?_eq_some_iff.mp hq).1
  have hq1 : (w.set q0 (q, .inl (cA, n, .inl (ac_fillI z f k))))[q0]? = some (q, .inl (cA, n, .inl (ac_fillI z f k))) := List.getElem?_set_self hlt
  have hD : va_D A (w.set q0 (q, .inl (cA, n, .inl (ac_fillI z f k)))) := am_D hD (am_set_fst hq)
  refine lv_iload_n hx hb dJA_fillI_5 rfl (lv_at hl 2 rfl) ?_
  refine lv_iload_n hx hb dJA_fillI_6 rfl (lv_at hl 3 rfl) ?_
  refine lv_icmp_ge (tgt := 20) hx hb dJA_fillI_7 (by decide) (fun c_9 => ?_) (fun c_9 => ?_)
  · have hke : n ≤ k := (am_ge (rfl : nI n = nI n) (by omega) (by omega)).mp c_9
    have hkq : n = k := by omega
    subst hkq
    exact am_vretM hx hb hr hlocks hP hS dJA_fillI_20
  · have hkl : k < n := Nat.lt_of_not_le (fun z => c_9 ((am_ge (rfl : nI n = nI n) (by omega) (by omega)).mpr z))
    refine lv_aload_n hx hb dJA_fillI_10 rfl (lv_at hl 0 rfl) ?_
    refine lv_iload_n hx hb dJA_fillI_11 rfl (lv_at hl 2 rfl) ?_
    refine lv_iload_n hx hb dJA_fillI_12 rfl (lv_at hl 1 rfl) ?_
    refine am_iast hx hb hK hP hD hS q0 t0 hq1 ht k rfl hkl hn (w.set q0 (q, .inl (cA, n, .inl (ac_fillI z f (k + 1))))) (by rw [List.set_set]; rfl) dJA_fillI_13 (fun H locs hP hD hS => ?_)
    refine lv_iinc (v := nI (k + 1)) (lv' := [(2, .int (nI (k + 1))), (0, .ref q), (1, .int z), (3, .int (nI n))]) hx hb dJA_fillI_14 hl (k := 2) rfl (nI_1 k) (by decide) rfl (fun ls hl => ?_)
    refine lv_goto (tgt := 5) hx hb dJA_fillI_17 (by decide) ?_
    exact ih (k + 1) (n - (k + 1)) H locs ls (by omega) ⟨rfl, by omega, hP, hS, lv_sub hl [1, 2, 0, 3] rfl⟩
set_option maxHeartbeats 4000000 in
set_option maxRecDepth 100000 in
theorem c_X4_shareOut (l : Launch) (D : va_G) (ad : Nat → Nat) (cI cL : ClassId) (fi : Nat → Int32) (fl : Nat → Int64) (ai : Nat → Nat → Int32) (al : Nat → Nat → Int64) (A : Nat → Prop) (x : Int32) (st : Nat) (na : Nat) (hna : fi 0 = nI na) (hnl : na ≤ 10) (hst4 : st ≤ 4) : Met l yX4_shareOut wsX4_shareOut (am_rm 13 539) (va_Pc [.ref (ad 4), .int x, .int (nI st)] (am_M nwL vwCl D A (ac_w ad cI cL fi fl ai al) [(cI, .int), (cL, .long)])) (am_Ml vwCl D ((ac_try (al 8) (ai 9) x (nI st) (ac_least (al 8) x (nI st) na) na na 0 0 ((ai 21), (ai 22), (ac_fillL 0 (al 23) 4), (ac_tot (al 8) x na + 1))).2.2.2) (ac_w ad cI cL (upd (upd fi 8 x) 9 (nI st)) (vp_updL (vp_updL fl 1 ((ac_try (al 8) (ai 9) x (nI st) (ac_least (al 8) x (nI st) na) na na 0 0 ((ai 21), (ai 22), (ac_fillL 0 (al 23) 4), (ac_tot (al 8) x na + 1))).2.2.2)) 2 (ac_least (al 8) x (nI st) na)) (va_up (va_up ai 21 ((ac_try (al 8) (ai 9) x (nI st) (ac_least (al 8) x (nI st) na) na na 0 0 ((ai 21), (ai 22), (ac_fillL 0 (al 23) 4), (ac_tot (al 8) x na + 1))).1)) 22 ((ac_try (al 8) (ai 9) x (nI st) (ac_least (al 8) x (nI st) na) na na 0 0 ((ai 21), (ai 22), (ac_fillL 0 (al 23) 4), (ac_tot (al 8) x na + 1))).2.1)) (va_up al 23 ((ac_try (al 8) (ai 9) x (nI st) (ac_least (al 8) x (nI st) na) na na 0 0 ((ai 21), (ai 22), (ac_fillL 0 (al 23) 4), (ac_tot (al 8) x na + 1))).2.2.1))) A) 0 0 A := by
  refine am_startM (cc := cX4_shareOut) (maxL := 3) (ret := (some .long)) (by decide) rfl (Nat.le_of_ble_eq_true rfl) [(0, .ref (ad 4)), (1, .int x), (2, .int (nI st))] rfl ?_
  intro p e s m below meth c ls hx hb hr hml hown hts hlocks hK hN hD H locs hP hS hl
  have hown : s.vm.findClass RX4 = some m.cls := hown
  have ht := am_ht hts
  have hin_X4 : ∀ w ∈ u_ws RX4 TX4 8, w ∈ wsX4_shareOut := fun w h => List.mem_cons_of_mem _ (am_inX4 w h)
  have hf_18 := ht 157 (.fieldLink RX4 18 "ApartCost$Line" "loads" "[J") rfl
  have hf_32 := ht 158 (.fieldLink RX4 32 "ApartCost$Line" "set" "I") rfl
  have hf_36 := ht 159 (.fieldLink RX4 36 "ApartCost$Line" "stations" "I") rfl
  have hf_49 := ht 160 (.fieldLink RX4 49 "ApartCost$Line" "longest" "J") rfl
  refine lv_aload_n hx hb dX4_shareOut_0 rfl (lv_at hl 0 rfl) ?_
  refine lv_iload_n hx hb dX4_shareOut_1 rfl (lv_at hl 1 rfl) ?_
  refine va_put (D := D) (ci := 4) (v := .int x) (ty := .int) (C := RX4) (T := TX4) (N := 8) hx hb hts hin_X4 tyX4 tyX4_ok nmX4 hown hK hP hD hS 4 rfl rfl 4 (by decide) hf_32 (fun _ h9 => h9) rfl (by decide +kernel) rfl rfl (Nat.le_of_ble_eq_true rfl) dX4_shareOut_2 (fun H locs hP hD hS => ?_)
  have hP : va_P D vwCl (ac_w ad cI cL (upd fi 8 x) fl ai al) H := hP
  have hD : va_D A (ac_w ad cI cL (upd fi 8 x) fl ai al) := am_D hD rfl
  refine lv_aload_n hx hb dX4_shareOut_5 rfl (lv_at hl 0 rfl) ?_
  refine lv_iload_n hx hb dX4_shareOut_6 rfl (lv_at hl 2 rfl) ?_
  refine va_put (D := D) (ci := 4) (v := .int (nI st)) (ty := .int) (C := RX4) (T := TX4) (N := 8) hx hb hts hin_X4 tyX4 tyX4_ok nmX4 hown hK hP hD hS 4 rfl rfl 5 (by decide) hf_36 (fun _ h9 => h9) rfl (by decide +kernel) rfl rfl (Nat.le_of_ble_eq_true rfl) dX4_shareOut_7 (fun H locs hP hD hS => ?_)
  have hP : va_P D vwCl (ac_w ad cI cL (upd (upd fi 8 x) 9 (nI st)) fl ai al) H := hP
  have hD : va_D A (ac_w ad cI cL (upd (upd fi 8 x) 9 (nI st)) fl ai al) := am_D hD rfl
  refine lv_aload_n hx hb dX4_shareOut_10 rfl (lv_at hl 0 rfl) ?_
  refine am_callMv (va_runV (As := []) (rest := []) ⟨hx, hb, hml, hown, hts⟩ (c_X4_setLimits l D ad cI cL (upd (upd fi 8 x) 9 (nI st)) fl ai al A na hna hnl) (cwV 0 hts (am_gV (am_in 397 rfl) (am_in 398 rfl) (am_in 8 rfl) (am_in 34 rfl) (am_in 399 rfl)) rfl rfl rfl (by decide +kernel) ⟨by simp only [am_rm]; omega, by simp only [am_rm]; omega⟩) (am_preVM 4 4 rfl rfl rfl hP hK hN hD) rfl rfl hl.1 rfl (lv_room (Nat.le_of_ble_eq_true rfl)) dX4_shareOut_11 ⟨Nat.zero_le _, Nat.zero_le _⟩) hS (fun H locs hP hS => ?_)
  have hP : va_P D vwCl (ac_w ad cI cL (upd (upd fi 8 x) 9 (nI st)) (vp_updL (vp_updL fl 1 (ac_tot (al 8) x na + 1)) 2 (ac_least (al 8) x (nI st) na)) ai al) H := hP
  have hD : va_D A (ac_w ad cI cL (upd (upd fi 8 x) 9 (nI st)) (vp_updL (vp_updL fl 1 (ac_tot (al 8) x na + 1)) 2 (ac_least (al 8) x (nI st) na)) ai al) := am_D hD rfl
  refine lv_aload_n hx hb dX4_shareOut_14 rfl (lv_at hl 0 rfl) ?_
  refine va_get (D := D) (ci := 4) (v := .ref (ad 23)) (C := RX4) (T := TX4) (N := 8) hx hb hts hin_X4 hown hK hP 4 rfl rfl 3 (by decide) hf_18 (fun _ h9 => h9) rfl dX4_shareOut_15 ?_
  refine lv_lconst (v := 0) hx hb dX4_shareOut_18 (by decide) ?_
  refine am_callMv (va_runS (As := [.ref (ad 23), .long 0]) (rest := []) ⟨hx, hb, hml, hown, hts⟩ (c_fillJ l D A (ac_w ad cI cL (upd (upd fi 8 x) 9 (nI st)) (vp_updL (vp_updL fl 1 (ac_tot (al 8) x na + 1)) 2 (ac_least (al 8) x (nI st) na)) ai al) [(cI, .int), (cL, .long)] 23 1 (ad 23) cL 4 (al 23) 0 rfl rfl (by decide)) (va_cwS 2 hts (am_gS (am_in 401 rfl) (am_in 54 rfl) (am_in 31 rfl) (am_in 55 rfl)) rfl rfl rfl (by decide +kernel) ⟨by simp only [am_rm]; omega, by simp only [am_rm]; omega⟩) (am_preSM hP hK hN hD) rfl rfl hl.1 rfl (lv_room (Nat.le_of_ble_eq_true rfl)) dX4_shareOut_19 ⟨Nat.zero_le _, Nat.zero_le _⟩) hS (fun H locs hP hS => ?_)
  have hP : va_P D vwCl (ac_w ad cI cL (upd (upd fi 8 x) 9 (nI st)) (vp_updL (vp_updL fl 1 (ac_tot (al 8) x na + 1)) 2 (ac_least (al 8) x (nI st) na)) ai (va_up al 23 (ac_fillL 0 (al 23) 4))) H := hP
  have hD : va_D A (ac_w ad cI cL (upd (upd fi 8 x) 9 (nI st)) (vp_updL (vp_updL fl 1 (ac_tot (al 8) x na + 1)) 2 (ac_least (al 8) x (nI st) na)) ai (va_up al 23 (ac_fillL 0 (al 23) 4))) := am_D hD rfl
  refine lv_aload_n hx hb dX4_shareOut_22 rfl (lv_at hl 0 rfl) ?_
  refine lv_iconst (v := 0) hx hb dX4_shareOut_23 (by decide) ?_
  refine lv_lconst (v := 0) hx hb dX4_shareOut_24 (by decide) ?_
  refine am_callMv (va_runS (As := [.ref (ad 4), .int 0, .long 0]) (rest := []) ⟨hx, hb, hml, hown, hts⟩ (c_X4_tryFrom l D ad cI cL na na (upd (upd fi 8 x) 9 (nI st)) (vp_updL (vp_updL fl 1 (ac_tot (al 8) x na + 1)) 2 (ac_least (al 8) x (nI st) na)) ai (va_up al 23 (ac_fillL 0 (al 23) 4)) A 0 0 st hna hnl rfl hst4 (by omega)) (va_cwS 3 hts (am_gS (am_in 402 rfl) (am_in 403 rfl) (am_in 34 rfl) (am_in 404 rfl)) rfl rfl rfl (by decide +kernel) ⟨by simp only [am_rm]; omega, by simp only [am_rm]; omega⟩) (am_preSM hP hK hN hD) rfl rfl hl.1 rfl (lv_room (Nat.le_of_ble_eq_true rfl)) dX4_shareOut_25 ⟨Nat.zero_le _, Nat.zero_le _⟩) hS (fun H locs hP hS => ?_)
  have hP : va_P D vwCl (ac_w ad cI cL (upd (upd fi 8 x) 9 (nI st)) (vp_updL (vp_updL fl 1 ((ac_try (al 8) (ai 9) x (nI st) (ac_least (al 8) x (nI st) na) na na 0 0 ((ai 21), (ai 22), (ac_fillL 0 (al 23) 4), (ac_tot (al 8) x na + 1))).2.2.2)) 2 (ac_least (al 8) x (nI st) na)) (va_up (va_up ai 21 ((ac_try (al 8) (ai 9) x (nI st) (ac_least (al 8) x (nI st) na) na na 0 0 ((ai 21), (ai 22), (ac_fillL 0 (al 23) 4), (ac_tot (al 8) x na + 1))).1)) 22 ((ac_try (al 8) (ai 9) x (nI st) (ac_least (al 8) x (nI st) na) na na 0 0 ((ai 21), (ai 22), (ac_fillL 0 (al 23) 4), (ac_tot (al 8) x na + 1))).2.1)) (va_up al 23 ((ac_try (al 8) (ai 9) x (nI st) (ac_least (al 8) x (nI st) na) na na 0 0 ((ai 21), (ai 22), (ac_fillL 0 (al 23) 4), (ac_tot (al 8) x na + 1))).2.2.1))) H := hP
  have hD : va_D A (ac_w ad cI cL (upd (upd fi 8 x) 9 (nI st)) (vp_updL (vp_updL fl 1 ((ac_try (al 8) (ai 9) x (nI st) (ac_least (al 8) x (nI st) na) na na 0 0 ((ai 21), (ai 22), (ac_fillL 0 (al 23) 4), (ac_tot (al 8) x na + 1))).2.2.2)) 2 (ac_least (al 8) x (nI st) na)) (va_up (va_up ai 21 ((ac_try (al 8) (ai 9) x (nI st) (ac_least (al 8) x (nI st) na) na na 0 0 ((ai 21), (ai 22), (ac_fillL 0 (al 23) 4), (ac_tot (al 8) x na + 1))).1)) 22 ((ac_try (al 8) (ai 9) x (nI st) (ac_least (al 8) x (nI st) na) na na 0 0 ((ai 21), (ai 22), (ac_fillL 0 (al 23) 4), (ac_tot (al 8) x na + 1))).2.1)) (va_up al 23 ((ac_try (al 8) (ai 9) x (nI st) (ac_least (al 8) x (nI st) na) na na 0 0 ((ai 21), (ai 22), (ac_fillL 0 (al 23) 4), (ac_tot (al 8) x na + 1))).2.2.1))) := am_D hD rfl
  refine lv_aload_n hx hb dX4_shareOut_28 rfl (lv_at hl 0 rfl) ?_
  refine va_get (D := D) (ci := 4) (v := .long ((ac_try (al 8) (ai 9) x (nI st) (ac_least (al 8) x (nI st) na) na na 0 0 ((ai 21), (ai 22), (ac_fillL 0 (al 23) 4), (ac_tot (al 8) x na + 1))).2.2.2)) (C := RX4) (T := TX4) (N := 8) hx hb hts hin_X4 hown hK hP 4 rfl rfl 6 (by decide) hf_49 (fun _ h9 => h9) rfl dX4_shareOut_29 ?_
  exact am_lretM hx hb hr hlocks hP hS rfl dX4_shareOut_32
end
section
set_option maxHeartbeats 8000000 in
set_option maxRecDepth 100000 in
theorem c_X1_init (l : Launch) (D : va_G) (cI cL : ClassId) (h0 sz : Nat) : Met l yX1_init wsX1_init { frames := 1, cells := 11, slots := 178, locals := 24 } (va_Pc [.ref h0] (fun U => U.heap.size = sz ∧ am_M nwL vwCl D (fun _ => True) [(h0, .inr (1, [.int 0, .null, .null, .null, .null, .null, .int 0, .null, .null, .null, .null, .int 0, .null, .null]))] [(cI, .int), (cL, .long)] U)) (va_Qv (fun (u : Nat → Nat) => True) (fun u t => va_P D vwCl [(h0, .inr (1, [.int 0, .ref (u 5), .ref (u 6), .ref (u 7), .ref (u 8), .ref (u 9), .int 0, .ref (u 10), .ref (u 11), .ref (u 12), .ref (u 13), .int 0, .ref (u 14), .ref (u 15)])), ((u 5), .inl (cI, 10, .inl (fun _ => 0))), ((u 6), .inl (cI, 10, .inl (fun _ => 0))), ((u 7), .inl (cI, 10, .inl (fun _ => 0))), ((u 8), .inl (cL, 10, .inr (.inl (fun _ => 0)))), ((u 9), .inl (cI, 10, .inl (fun _ => 0))), ((u 10), .inl (cL, 36, .inr (.inl (fun _ => 0)))), ((u 11), .inl (cL, 36, .inr (.inl (fun _ => 0)))), ((u 12), .inl (cL, 12, .inr (.inl (fun _ => 0)))), ((u 13), .inl (cL, 12, .inr (.inl (ac_fillL 27720 (fun _ => 0) 12)))), ((u 14), .inl (cI, 16, .inl (fun _ => 0))), ((u 15), .inl (cL, 16, .inr (.inl (fun _ => 0))))] t.heap ∧ va_D (va_A [(h0, .inr (1, [.int 0, .null, .null, .null, .null, .null, .int 0, .null, .null, .null, .null, .int 0, .null, .null]))] sz) [(h0, .inr (1, [.int 0, .ref (u 5), .ref (u 6), .ref (u 7), .ref (u 8), .ref (u 9), .int 0, .ref (u 10), .ref (u 11), .ref (u 12), .ref (u 13), .int 0, .ref (u 14), .ref (u 15)])), ((u 5), .inl (cI, 10, .inl (fun _ => 0))), ((u 6), .inl (cI, 10, .inl (fun _ => 0))), ((u 7), .inl (cI, 10, .inl (fun _ => 0))), ((u 8), .inl (cL, 10, .inr (.inl (fun _ => 0)))), ((u 9), .inl (cI, 10, .inl (fun _ => 0))), ((u 10), .inl (cL, 36, .inr (.inl (fun _ => 0)))), ((u 11), .inl (cL, 36, .inr (.inl (fun _ => 0)))), ((u 12), .inl (cL, 12, .inr (.inl (fun _ => 0)))), ((u 13), .inl (cL, 12, .inr (.inl (ac_fillL 27720 (fun _ => 0) 12)))), ((u 14), .inl (cI, 16, .inl (fun _ => 0))), ((u 15), .inl (cL, 16, .inr (.inl (fun _ => 0))))]) (va_A [(h0, .inr (1, [.int 0, .null, .null, .null, .null, .null, .int 0, .null, .null, .null, .null, .int 0, .null, .null]))] sz)) 11 178 (va_A [(h0, .inr (1, [.int 0, .null, .null, .null, .null, .null, .int 0, .null, .null, .null, .null, .int 0, .null, .null]))] sz) := by
  refine Met.ofW (cc := cX1_init) (maxL := 1) (ret := none) (by decide) rfl ?_
  intro p e s m args below meth c s₁ B hml hv
  obtain ⟨rfl, hsz, hP, hK, hN, hD0⟩ := hv
  have hx := B.exec
  have hb := B.bytes
  have hr := B.returns
  have hts := atoms_spec (ws := wsX1_init) B.pre
  have hown : s.vm.findClass RX1 = some m.cls := findClass_of_methodNamed B.named
  have hlocks := B.notSynchronized
  have hin9 : meth.name = "<init>" := (name_of_methodNamed B.named B.method).1
  subst hsz
  have hD := hD0.self (sz := s.heap.size)
  generalize hAe : va_A [(h0, .inr (1, [.int 0, .null, .null, .null, .null, .null, .int 0, .null, .null, .null, .null, .int 0, .null, .null]))] s.heap.size = A at hD ⊢
  have hA : ∀ q : Nat, s.heap.size ≤ q → A q := fun q h => by rw [← hAe]; exact Or.inr h
  have hS : va_S A s.heap s.heap [] := va_S.rf
  have hl := lv_entry ([.ref h0]) (n := 1) (Nat.le_of_ble_eq_true rfl)
  rw [lg_entry_eq]
  generalize (lg_sl ([.ref h0]) ++ List.replicate (1 - (lg_sl ([.ref h0])).length) Slot.unset).toArray = ls at hl ⊢
  have hl : lv_has ls 1 [(0, .ref h0)] := hl
  have ht := am_ht hts
  have hin_X1 : ∀ w ∈ u_ws RX1 TX1 14, w ∈ wsX1_init := fun w h => List.mem_cons_of_mem _ (am_inX1 w h)
  have hf_15 := ht 61 (.fieldLink RX1 15 "ApartCost$Product" "tools" "[I") rfl
  have hf_18 := ht 62 (.fieldLink RX1 18 "ApartCost$Product" "sides" "[I") rfl
  have hf_21 := ht 63 (.fieldLink RX1 21 "ApartCost$Product" "cents" "[J") rfl
  have hf_25 := ht 65 (.fieldLink RX1 25 "ApartCost$Product" "needs" "[I") rfl
  have hf_28 := ht 70 (.fieldLink RX1 28 "ApartCost$Product" "changes" "[J") rfl
  have hf_31 := ht 72 (.fieldLink RX1 31 "ApartCost$Product" "turns" "[J") rfl
  have hf_34 := ht 74 (.fieldLink RX1 34 "ApartCost$Product" "worths" "[J") rfl
  have hf_37 := ht 77 (.fieldLink RX1 37 "ApartCost$Product" "shares" "[J") rfl
  have hf_40 := ht 81 (.fieldLink RX1 40 "ApartCost$Product" "restParts" "[I") rfl
  have hf_43 := ht 82 (.fieldLink RX1 43 "ApartCost$Product" "restCents" "[J") rfl
  have hf_9 := ht 60 (.fieldLink RX1 9 "ApartCost$Product" "frees" "[I") rfl
  refine lv_aload_n hx hb dX1_init_0 rfl (lv_at hl 0 rfl) ?_
  refine W.objInit hx hb hown (ht 51 _ rfl) (ht 44 _ rfl) (ht 45 _ rfl) rfl (by rw [hml]; exact hl.1) rfl dX1_init_1 (Nat.le_of_ble_eq_true rfl) (Nat.le_of_ble_eq_true rfl) ?_
  refine W.eq (g2 := F0 m 4 ls []) rfl ?_
  refine lv_aload_n hx hb dX1_init_4 rfl (lv_at hl 0 rfl) ?_
  refine lv_bipush (v := 10) hx hb dX1_init_5 (by decide) ?_
  refine am_newI hx hb (ht 98 _ rfl) hK hP hD hS hA 10 (by decide) (by decide) (by decide) (Nat.le_of_ble_eq_true rfl) (Nat.le_of_ble_eq_true rfl) dX1_init_7 (fun q7 H hP hD hS => ?_)
  have hP : va_P D vwCl [(h0, .inr (1, [.int 0, .null, .null, .null, .null, .null, .int 0, .null, .null, .null, .null, .int 0, .null, .null])), (q7, .inl (cI, 10, .inl (fun _ => 0)))] H := hP
  have hD : va_D A [(h0, .inr (1, [.int 0, .null, .null, .null, .null, .null, .int 0, .null, .null, .null, .null, .int 0, .null, .null])), (q7, .inl (cI, 10, .inl (fun _ => 0)))] := hD
  refine W.widen (k := 1) (n := 10) (by omega) (by omega) ?_
  refine va_putF (D := D) (ci := 1) (v := .ref q7) (ty := .array .int) (C := RX1) (T := TX1) (N := 14) hx hb hts hin_X1 tyX1 tyX1_ok nmX1 hown hK hP hD hS 0 rfl rfl 1 (by decide) hf_9 (fun _ h9 => h9) rfl hin9 rfl (by decide +kernel) rfl rfl (Nat.le_of_ble_eq_true rfl) dX1_init_9 (fun H locs hP hD hS => ?_)
  have hP : va_P D vwCl [(h0, .inr (1, [.int 0, .ref q7, .null, .null, .null, .null, .int 0, .null, .null, .null, .null, .int 0, .null, .null])), (q7, .inl (cI, 10, .inl (fun _ => 0)))] H := hP
  have hD : va_D A [(h0, .inr (1, [.int 0, .ref q7, .null, .null, .null, .null, .int 0, .null, .null, .null, .null, .int 0, .null, .null])), (q7, .inl (cI, 10, .inl (fun _ => 0)))] := hD
  refine lv_aload_n hx hb dX1_init_12 rfl (lv_at hl 0 rfl) ?_
  refine lv_bipush (v := 10) hx hb dX1_init_13 (by decide) ?_
  refine am_newI hx hb (ht 98 _ rfl) hK hP hD hS hA 10 (by decide) (by decide) (by decide) (Nat.le_of_ble_eq_true rfl) (Nat.le_of_ble_eq_true rfl) dX1_init_15 (fun q15 H hP hD hS => ?_)
  have hP : va_P D vwCl [(h0, .inr (1, [.int 0, .ref q7, .null, .null, .null, .null, .int 0, .null, .null, .null, .null, .int 0, .null, .null])), (q7, .inl (cI, 10, .inl (fun _ => 0))), (q15, .inl (cI, 10, .inl (fun _ => 0)))] H := hP
  have hD : va_D A [(h0, .inr (1, [.int 0, .ref q7, .null, .null, .null, .null, .int 0, .null, .null, .null, .null, .int 0, .null, .null])), (q7, .inl (cI, 10, .inl (fun _ => 0))), (q15, .inl (cI, 10, .inl (fun _ => 0)))] := hD
  refine W.widen (k := 2) (n := 20) (by omega) (by omega) ?_
  refine va_putF (D := D) (ci := 1) (v := .ref q15) (ty := .array .int) (C := RX1) (T := TX1) (N := 14) hx hb hts hin_X1 tyX1 tyX1_ok nmX1 hown hK hP hD hS 0 rfl rfl 2 (by decide) hf_15 (fun _ h9 => h9) rfl hin9 rfl (by decide +kernel) rfl rfl (Nat.le_of_ble_eq_true rfl) dX1_init_17 (fun H locs hP hD hS => ?_)
  have hP : va_P D vwCl [(h0, .inr (1, [.int 0, .ref q7, .ref q15, .null, .null, .null, .int 0, .null, .null, .null, .null, .int 0, .null, .null])), (q7, .inl (cI, 10, .inl (fun _ => 0))), (q15, .inl (cI, 10, .inl (fun _ => 0)))] H := hP
  have hD : va_D A [(h0, .inr (1, [.int 0, .ref q7, .ref q15, .null, .null, .null, .int 0, .null, .null, .null, .null, .int 0, .null, .null])), (q7, .inl (cI, 10, .inl (fun _ => 0))), (q15, .inl (cI, 10, .inl (fun _ => 0)))] := hD
  refine lv_aload_n hx hb dX1_init_20 rfl (lv_at hl 0 rfl) ?_
  refine lv_bipush (v := 10) hx hb dX1_init_21 (by decide) ?_
  refine am_newI hx hb (ht 98 _ rfl) hK hP hD hS hA 10 (by decide) (by decide) (by decide) (Nat.le_of_ble_eq_true rfl) (Nat.le_of_ble_eq_true rfl) dX1_init_23 (fun q23 H hP hD hS => ?_)
  have hP : va_P D vwCl [(h0, .inr (1, [.int 0, .ref q7, .ref q15, .null, .null, .null, .int 0, .null, .null, .null, .null, .int 0, .null, .null])), (q7, .inl (cI, 10, .inl (fun _ => 0))), (q15, .inl (cI, 10, .inl (fun _ => 0))), (q23, .inl (cI, 10, .inl (fun _ => 0)))] H := hP
  have hD : va_D A [(h0, .inr (1, [.int 0, .ref q7, .ref q15, .null, .null, .null, .int 0, .null, .null, .null, .null, .int 0, .null, .null])), (q7, .inl (cI, 10, .inl (fun _ => 0))), (q15, .inl (cI, 10, .inl (fun _ => 0))), (q23, .inl (cI, 10, .inl (fun _ => 0)))] := hD
  refine W.widen (k := 3) (n := 30) (by omega) (by omega) ?_
  refine va_putF (D := D) (ci := 1) (v := .ref q23) (ty := .array .int) (C := RX1) (T := TX1) (N := 14) hx hb hts hin_X1 tyX1 tyX1_ok nmX1 hown hK hP hD hS 0 rfl rfl 3 (by decide) hf_18 (fun _ h9 => h9) rfl hin9 rfl (by decide +kernel) rfl rfl (Nat.le_of_ble_eq_true rfl) dX1_init_25 (fun H locs hP hD hS => ?_)
  have hP : va_P D vwCl [(h0, .inr (1, [.int 0, .ref q7, .ref q15, .ref q23, .null, .null, .int 0, .null, .null, .null, .null, .int 0, .null, .null])), (q7, .inl (cI, 10, .inl (fun _ => 0))), (q15, .inl (cI, 10, .inl (fun _ => 0))), (q23, .inl (cI, 10, .inl (fun _ => 0)))] H := hP
  have hD : va_D A [(h0, .inr (1, [.int 0, .ref q7, .ref q15, .ref q23, .null, .null, .int 0, .null, .null, .null, .null, .int 0, .null, .null])), (q7, .inl (cI, 10, .inl (fun _ => 0))), (q15, .inl (cI, 10, .inl (fun _ => 0))), (q23, .inl (cI, 10, .inl (fun _ => 0)))] := hD
  refine lv_aload_n hx hb dX1_init_28 rfl (lv_at hl 0 rfl) ?_
  refine lv_bipush (v := 10) hx hb dX1_init_29 (by decide) ?_
  refine am_newL hx hb (ht 99 _ rfl) hK hP hD hS hA 10 (by decide) (by decide) (by decide) (Nat.le_of_ble_eq_true rfl) (Nat.le_of_ble_eq_true rfl) dX1_init_31 (fun q31 H hP hD hS => ?_)
  have hP : va_P D vwCl [(h0, .inr (1, [.int 0, .ref q7, .ref q15, .ref q23, .null, .null, .int 0, .null, .null, .null, .null, .int 0, .null, .null])), (q7, .inl (cI, 10, .inl (fun _ => 0))), (q15, .inl (cI, 10, .inl (fun _ => 0))), (q23, .inl (cI, 10, .inl (fun _ => 0))), (q31, .inl (cL, 10, .inr (.inl (fun _ => 0))))] H := hP
  have hD : va_D A [(h0, .inr (1, [.int 0, .ref q7, .ref q15, .ref q23, .null, .null, .int 0, .null, .null, .null, .null, .int 0, .null, .null])), (q7, .inl (cI, 10, .inl (fun _ => 0))), (q15, .inl (cI, 10, .inl (fun _ => 0))), (q23, .inl (cI, 10, .inl (fun _ => 0))), (q31, .inl (cL, 10, .inr (.inl (fun _ => 0))))] := hD
  refine W.widen (k := 4) (n := 40) (by omega) (by omega) ?_
  refine va_putF (D := D) (ci := 1) (v := .ref q31) (ty := .array .long) (C := RX1) (T := TX1) (N := 14) hx hb hts hin_X1 tyX1 tyX1_ok nmX1 hown hK hP hD hS 0 rfl rfl 4 (by decide) hf_21 (fun _ h9 => h9) rfl hin9 rfl (by decide +kernel) rfl rfl (Nat.le_of_ble_eq_true rfl) dX1_init_33 (fun H locs hP hD hS => ?_)
  have hP : va_P D vwCl [(h0, .inr (1, [.int 0, .ref q7, .ref q15, .ref q23, .ref q31, .null, .int 0, .null, .null, .null, .null, .int 0, .null, .null])), (q7, .inl (cI, 10, .inl (fun _ => 0))), (q15, .inl (cI, 10, .inl (fun _ => 0))), (q23, .inl (cI, 10, .inl (fun _ => 0))), (q31, .inl (cL, 10, .inr (.inl (fun _ => 0))))] H := hP
  have hD : va_D A [(h0, .inr (1, [.int 0, .ref q7, .ref q15, .ref q23, .ref q31, .null, .int 0, .null, .null, .null, .null, .int 0, .null, .null])), (q7, .inl (cI, 10, .inl (fun _ => 0))), (q15, .inl (cI, 10, .inl (fun _ => 0))), (q23, .inl (cI, 10, .inl (fun _ => 0))), (q31, .inl (cL, 10, .inr (.inl (fun _ => 0))))] := hD
  refine lv_aload_n hx hb dX1_init_36 rfl (lv_at hl 0 rfl) ?_
  refine lv_bipush (v := 10) hx hb dX1_init_37 (by decide) ?_
  refine am_newI hx hb (ht 98 _ rfl) hK hP hD hS hA 10 (by decide) (by decide) (by decide) (Nat.le_of_ble_eq_true rfl) (Nat.le_of_ble_eq_true rfl) dX1_init_39 (fun q39 H hP hD hS => ?_)
  have hP : va_P D vwCl [(h0, .inr (1, [.int 0, .ref q7, .ref q15, .ref q23, .ref q31, .null, .int 0, .null, .null, .null, .null, .int 0, .null, .null])), (q7, .inl (cI, 10, .inl (fun _ => 0))), (q15, .inl (cI, 10, .inl (fun _ => 0))), (q23, .inl (cI, 10, .inl (fun _ => 0))), (q31, .inl (cL, 10, .inr (.inl (fun _ => 0)))), (q39, .inl (cI, 10, .inl (fun _ => 0)))] H := hP
  have hD : va_D A [(h0, .inr (1, [.int 0, .ref q7, .ref q15, .ref q23, .ref q31, .null, .int 0, .null, .null, .null, .null, .int 0, .null, .null])), (q7, .inl (cI, 10, .inl (fun _ => 0))), (q15, .inl (cI, 10, .inl (fun _ => 0))), (q23, .inl (cI, 10, .inl (fun _ => 0))), (q31, .inl (cL, 10, .inr (.inl (fun _ => 0)))), (q39, .inl (cI, 10, .inl (fun _ => 0)))] := hD
  refine W.widen (k := 5) (n := 50) (by omega) (by omega) ?_
  refine va_putF (D := D) (ci := 1) (v := .ref q39) (ty := .array .int) (C := RX1) (T := TX1) (N := 14) hx hb hts hin_X1 tyX1 tyX1_ok nmX1 hown hK hP hD hS 0 rfl rfl 5 (by decide) hf_25 (fun _ h9 => h9) rfl hin9 rfl (by decide +kernel) rfl rfl (Nat.le_of_ble_eq_true rfl) dX1_init_41 (fun H locs hP hD hS => ?_)
  have hP : va_P D vwCl [(h0, .inr (1, [.int 0, .ref q7, .ref q15, .ref q23, .ref q31, .ref q39, .int 0, .null, .null, .null, .null, .int 0, .null, .null])), (q7, .inl (cI, 10, .inl (fun _ => 0))), (q15, .inl (cI, 10, .inl (fun _ => 0))), (q23, .inl (cI, 10, .inl (fun _ => 0))), (q31, .inl (cL, 10, .inr (.inl (fun _ => 0)))), (q39, .inl (cI, 10, .inl (fun _ => 0)))] H := hP
  have hD : va_D A [(h0, .inr (1, [.int 0, .ref q7, .ref q15, .ref q23, .ref q31, .ref q39, .int 0, .null, .null, .null, .null, .int 0, .null, .null])), (q7, .inl (cI, 10, .inl (fun _ => 0))), (q15, .inl (cI, 10, .inl (fun _ => 0))), (q23, .inl (cI, 10, .inl (fun _ => 0))), (q31, .inl (cL, 10, .inr (.inl (fun _ => 0)))), (q39, .inl (cI, 10, .inl (fun _ => 0)))] := hD
  refine lv_aload_n hx hb dX1_init_44 rfl (lv_at hl 0 rfl) ?_
  refine lv_bipush (v := 36) hx hb dX1_init_45 (by decide) ?_
  refine am_newL hx hb (ht 99 _ rfl) hK hP hD hS hA 36 (by decide) (by decide) (by decide) (Nat.le_of_ble_eq_true rfl) (Nat.le_of_ble_eq_true rfl) dX1_init_47 (fun q47 H hP hD hS => ?_)
  have hP : va_P D vwCl [(h0, .inr (1, [.int 0, .ref q7, .ref q15, .ref q23, .ref q31, .ref q39, .int 0, .null, .null, .null, .null, .int 0, .null, .null])), (q7, .inl (cI, 10, .inl (fun _ => 0))), (q15, .inl (cI, 10, .inl (fun _ => 0))), (q23, .inl (cI, 10, .inl (fun _ => 0))), (q31, .inl (cL, 10, .inr (.inl (fun _ => 0)))), (q39, .inl (cI, 10, .inl (fun _ => 0))), (q47, .inl (cL, 36, .inr (.inl (fun _ => 0))))] H := hP
  have hD : va_D A [(h0, .inr (1, [.int 0, .ref q7, .ref q15, .ref q23, .ref q31, .ref q39, .int 0, .null, .null, .null, .null, .int 0, .null, .null])), (q7, .inl (cI, 10, .inl (fun _ => 0))), (q15, .inl (cI, 10, .inl (fun _ => 0))), (q23, .inl (cI, 10, .inl (fun _ => 0))), (q31, .inl (cL, 10, .inr (.inl (fun _ => 0)))), (q39, .inl (cI, 10, .inl (fun _ => 0))), (q47, .inl (cL, 36, .inr (.inl (fun _ => 0))))] := hD
  refine W.widen (k := 6) (n := 86) (by omega) (by omega) ?_
  refine va_putF (D := D) (ci := 1) (v := .ref q47) (ty := .array .long) (C := RX1) (T := TX1) (N := 14) hx hb hts hin_X1 tyX1 tyX1_ok nmX1 hown hK hP hD hS 0 rfl rfl 7 (by decide) hf_28 (fun _ h9 => h9) rfl hin9 rfl (by decide +kernel) rfl rfl (Nat.le_of_ble_eq_true rfl) dX1_init_49 (fun H locs hP hD hS => ?_)
  have hP : va_P D vwCl [(h0, .inr (1, [.int 0, .ref q7, .ref q15, .ref q23, .ref q31, .ref q39, .int 0, .ref q47, .null, .null, .null, .int 0, .null, .null])), (q7, .inl (cI, 10, .inl (fun _ => 0))), (q15, .inl (cI, 10, .inl (fun _ => 0))), (q23, .inl (cI, 10, .inl (fun _ => 0))), (q31, .inl (cL, 10, .inr (.inl (fun _ => 0)))), (q39, .inl (cI, 10, .inl (fun _ => 0))), (q47, .inl (cL, 36, .inr (.inl (fun _ => 0))))] H := hP
  have hD : va_D A [(h0, .inr (1, [.int 0, .ref q7, .ref q15, .ref q23, .ref q31, .ref q39, .int 0, .ref q47, .null, .null, .null, .int 0, .null, .null])), (q7, .inl (cI, 10, .inl (fun _ => 0))), (q15, .inl (cI, 10, .inl (fun _ => 0))), (q23, .inl (cI, 10, .inl (fun _ => 0))), (q31, .inl (cL, 10, .inr (.inl (fun _ => 0)))), (q39, .inl (cI, 10, .inl (fun _ => 0))), (q47, .inl (cL, 36, .inr (.inl (fun _ => 0))))] := hD
  refine lv_aload_n hx hb dX1_init_52 rfl (lv_at hl 0 rfl) ?_
  refine lv_bipush (v := 36) hx hb dX1_init_53 (by decide) ?_
  refine am_newL hx hb (ht 99 _ rfl) hK hP hD hS hA 36 (by decide) (by decide) (by decide) (Nat.le_of_ble_eq_true rfl) (Nat.le_of_ble_eq_true rfl) dX1_init_55 (fun q55 H hP hD hS => ?_)
  have hP : va_P D vwCl [(h0, .inr (1, [.int 0, .ref q7, .ref q15, .ref q23, .ref q31, .ref q39, .int 0, .ref q47, .null, .null, .null, .int 0, .null, .null])), (q7, .inl (cI, 10, .inl (fun _ => 0))), (q15, .inl (cI, 10, .inl (fun _ => 0))), (q23, .inl (cI, 10, .inl (fun _ => 0))), (q31, .inl (cL, 10, .inr (.inl (fun _ => 0)))), (q39, .inl (cI, 10, .inl (fun _ => 0))), (q47, .inl (cL, 36, .inr (.inl (fun _ => 0)))), (q55, .inl (cL, 36, .inr (.inl (fun _ => 0))))] H := hP
  have hD : va_D A [(h0, .inr (1, [.int 0, .ref q7, .ref q15, .ref q23, .ref q31, .ref q39, .int 0, .ref q47, .null, .null, .null, .int 0, .null, .null])), (q7, .inl (cI, 10, .inl (fun _ => 0))), (q15, .inl (cI, 10, .inl (fun _ => 0))), (q23, .inl (cI, 10, .inl (fun _ => 0))), (q31, .inl (cL, 10, .inr (.inl (fun _ => 0)))), (q39, .inl (cI, 10, .inl (fun _ => 0))), (q47, .inl (cL, 36, .inr (.inl (fun _ => 0)))), (q55, .inl (cL, 36, .inr (.inl (fun _ => 0))))] := hD
  refine W.widen (k := 7) (n := 122) (by omega) (by omega) ?_
  refine va_putF (D := D) (ci := 1) (v := .ref q55) (ty := .array .long) (C := RX1) (T := TX1) (N := 14) hx hb hts hin_X1 tyX1 tyX1_ok nmX1 hown hK hP hD hS 0 rfl rfl 8 (by decide) hf_31 (fun _ h9 => h9) rfl hin9 rfl (by decide +kernel) rfl rfl (Nat.le_of_ble_eq_true rfl) dX1_init_57 (fun H locs hP hD hS => ?_)
  have hP : va_P D vwCl [(h0, .inr (1, [.int 0, .ref q7, .ref q15, .ref q23, .ref q31, .ref q39, .int 0, .ref q47, .ref q55, .null, .null, .int 0, .null, .null])), (q7, .inl (cI, 10, .inl (fun _ => 0))), (q15, .inl (cI, 10, .inl (fun _ => 0))), (q23, .inl (cI, 10, .inl (fun _ => 0))), (q31, .inl (cL, 10, .inr (.inl (fun _ => 0)))), (q39, .inl (cI, 10, .inl (fun _ => 0))), (q47, .inl (cL, 36, .inr (.inl (fun _ => 0)))), (q55, .inl (cL, 36, .inr (.inl (fun _ => 0))))] H := hP
  have hD : va_D A [(h0, .inr (1, [.int 0, .ref q7, .ref q15, .ref q23, .ref q31, .ref q39, .int 0, .ref q47, .ref q55, .null, .null, .int 0, .null, .null])), (q7, .inl (cI, 10, .inl (fun _ => 0))), (q15, .inl (cI, 10, .inl (fun _ => 0))), (q23, .inl (cI, 10, .inl (fun _ => 0))), (q31, .inl (cL, 10, .inr (.inl (fun _ => 0)))), (q39, .inl (cI, 10, .inl (fun _ => 0))), (q47, .inl (cL, 36, .inr (.inl (fun _ => 0)))), (q55, .inl (cL, 36, .inr (.inl (fun _ => 0))))] := hD
  refine lv_aload_n hx hb dX1_init_60 rfl (lv_at hl 0 rfl) ?_
  refine lv_bipush (v := 12) hx hb dX1_init_61 (by decide) ?_
  refine am_newL hx hb (ht 99 _ rfl) hK hP hD hS hA 12 (by decide) (by decide) (by decide) (Nat.le_of_ble_eq_true rfl) (Nat.le_of_ble_eq_true rfl) dX1_init_63 (fun q63 H hP hD hS => ?_)
  have hP : va_P D vwCl [(h0, .inr (1, [.int 0, .ref q7, .ref q15, .ref q23, .ref q31, .ref q39, .int 0, .ref q47, .ref q55, .null, .null, .int 0, .null, .null])), (q7, .inl (cI, 10, .inl (fun _ => 0))), (q15, .inl (cI, 10, .inl (fun _ => 0))), (q23, .inl (cI, 10, .inl (fun _ => 0))), (q31, .inl (cL, 10, .inr (.inl (fun _ => 0)))), (q39, .inl (cI, 10, .inl (fun _ => 0))), (q47, .inl (cL, 36, .inr (.inl (fun _ => 0)))), (q55, .inl (cL, 36, .inr (.inl (fun _ => 0)))), (q63, .inl (cL, 12, .inr (.inl (fun _ => 0))))] H := hP
  have hD : va_D A [(h0, .inr (1, [.int 0, .ref q7, .ref q15, .ref q23, .ref q31, .ref q39, .int 0, .ref q47, .ref q55, .null, .null, .int 0, .null, .null])), (q7, .inl (cI, 10, .inl (fun _ => 0))), (q15, .inl (cI, 10, .inl (fun _ => 0))), (q23, .inl (cI, 10, .inl (fun _ => 0))), (q31, .inl (cL, 10, .inr (.inl (fun _ => 0)))), (q39, .inl (cI, 10, .inl (fun _ => 0))), (q47, .inl (cL, 36, .inr (.inl (fun _ => 0)))), (q55, .inl (cL, 36, .inr (.inl (fun _ => 0)))), (q63, .inl (cL, 12, .inr (.inl (fun _ => 0))))] := hD
  refine W.widen (k := 8) (n := 134) (by omega) (by omega) ?_
  refine va_putF (D := D) (ci := 1) (v := .ref q63) (ty := .array .long) (C := RX1) (T := TX1) (N := 14) hx hb hts hin_X1 tyX1 tyX1_ok nmX1 hown hK hP hD hS 0 rfl rfl 9 (by decide) hf_34 (fun _ h9 => h9) rfl hin9 rfl (by decide +kernel) rfl rfl (Nat.le_of_ble_eq_true rfl) dX1_init_65 (fun H locs hP hD hS => ?_)
  have hP : va_P D vwCl [(h0, .inr (1, [.int 0, .ref q7, .ref q15, .ref q23, .ref q31, .ref q39, .int 0, .ref q47, .ref q55, .ref q63, .null, .int 0, .null, .null])), (q7, .inl (cI, 10, .inl (fun _ => 0))), (q15, .inl (cI, 10, .inl (fun _ => 0))), (q23, .inl (cI, 10, .inl (fun _ => 0))), (q31, .inl (cL, 10, .inr (.inl (fun _ => 0)))), (q39, .inl (cI, 10, .inl (fun _ => 0))), (q47, .inl (cL, 36, .inr (.inl (fun _ => 0)))), (q55, .inl (cL, 36, .inr (.inl (fun _ => 0)))), (q63, .inl (cL, 12, .inr (.inl (fun _ => 0))))] H := hP
  have hD : va_D A [(h0, .inr (1, [.int 0, .ref q7, .ref q15, .ref q23, .ref q31, .ref q39, .int 0, .ref q47, .ref q55, .ref q63, .null, .int 0, .null, .null])), (q7, .inl (cI, 10, .inl (fun _ => 0))), (q15, .inl (cI, 10, .inl (fun _ => 0))), (q23, .inl (cI, 10, .inl (fun _ => 0))), (q31, .inl (cL, 10, .inr (.inl (fun _ => 0)))), (q39, .inl (cI, 10, .inl (fun _ => 0))), (q47, .inl (cL, 36, .inr (.inl (fun _ => 0)))), (q55, .inl (cL, 36, .inr (.inl (fun _ => 0)))), (q63, .inl (cL, 12, .inr (.inl (fun _ => 0))))] := hD
  refine lv_aload_n hx hb dX1_init_68 rfl (lv_at hl 0 rfl) ?_
  refine lv_bipush (v := 12) hx hb dX1_init_69 (by decide) ?_
  refine am_newL hx hb (ht 99 _ rfl) hK hP hD hS hA 12 (by decide) (by decide) (by decide) (Nat.le_of_ble_eq_true rfl) (Nat.le_of_ble_eq_true rfl) dX1_init_71 (fun q71 H hP hD hS => ?_)
  have hP : va_P D vwCl [(h0, .inr (1, [.int 0, .ref q7, .ref q15, .ref q23, .ref q31, .ref q39, .int 0, .ref q47, .ref q55, .ref q63, .null, .int 0, .null, .null])), (q7, .inl (cI, 10, .inl (fun _ => 0))), (q15, .inl (cI, 10, .inl (fun _ => 0))), (q23, .inl (cI, 10, .inl (fun _ => 0))), (q31, .inl (cL, 10, .inr (.inl (fun _ => 0)))), (q39, .inl (cI, 10, .inl (fun _ => 0))), (q47, .inl (cL, 36, .inr (.inl (fun _ => 0)))), (q55, .inl (cL, 36, .inr (.inl (fun _ => 0)))), (q63, .inl (cL, 12, .inr (.inl (fun _ => 0)))), (q71, .inl (cL, 12, .inr (.inl (fun _ => 0))))] H := hP
  have hD : va_D A [(h0, .inr (1, [.int 0, .ref q7, .ref q15, .ref q23, .ref q31, .ref q39, .int 0, .ref q47, .ref q55, .ref q63, .null, .int 0, .null, .null])), (q7, .inl (cI, 10, .inl (fun _ => 0))), (q15, .inl (cI, 10, .inl (fun _ => 0))), (q23, .inl (cI, 10, .inl (fun _ => 0))), (q31, .inl (cL, 10, .inr (.inl (fun _ => 0)))), (q39, .inl (cI, 10, .inl (fun _ => 0))), (q47, .inl (cL, 36, .inr (.inl (fun _ => 0)))), (q55, .inl (cL, 36, .inr (.inl (fun _ => 0)))), (q63, .inl (cL, 12, .inr (.inl (fun _ => 0)))), (q71, .inl (cL, 12, .inr (.inl (fun _ => 0))))] := hD
  refine W.widen (k := 9) (n := 146) (by omega) (by omega) ?_
  refine va_putF (D := D) (ci := 1) (v := .ref q71) (ty := .array .long) (C := RX1) (T := TX1) (N := 14) hx hb hts hin_X1 tyX1 tyX1_ok nmX1 hown hK hP hD hS 0 rfl rfl 10 (by decide) hf_37 (fun _ h9 => h9) rfl hin9 rfl (by decide +kernel) rfl rfl (Nat.le_of_ble_eq_true rfl) dX1_init_73 (fun H locs hP hD hS => ?_)
  have hP : va_P D vwCl [(h0, .inr (1, [.int 0, .ref q7, .ref q15, .ref q23, .ref q31, .ref q39, .int 0, .ref q47, .ref q55, .ref q63, .ref q71, .int 0, .null, .null])), (q7, .inl (cI, 10, .inl (fun _ => 0))), (q15, .inl (cI, 10, .inl (fun _ => 0))), (q23, .inl (cI, 10, .inl (fun _ => 0))), (q31, .inl (cL, 10, .inr (.inl (fun _ => 0)))), (q39, .inl (cI, 10, .inl (fun _ => 0))), (q47, .inl (cL, 36, .inr (.inl (fun _ => 0)))), (q55, .inl (cL, 36, .inr (.inl (fun _ => 0)))), (q63, .inl (cL, 12, .inr (.inl (fun _ => 0)))), (q71, .inl (cL, 12, .inr (.inl (fun _ => 0))))] H := hP
  have hD : va_D A [(h0, .inr (1, [.int 0, .ref q7, .ref q15, .ref q23, .ref q31, .ref q39, .int 0, .ref q47, .ref q55, .ref q63, .ref q71, .int 0, .null, .null])), (q7, .inl (cI, 10, .inl (fun _ => 0))), (q15, .inl (cI, 10, .inl (fun _ => 0))), (q23, .inl (cI, 10, .inl (fun _ => 0))), (q31, .inl (cL, 10, .inr (.inl (fun _ => 0)))), (q39, .inl (cI, 10, .inl (fun _ => 0))), (q47, .inl (cL, 36, .inr (.inl (fun _ => 0)))), (q55, .inl (cL, 36, .inr (.inl (fun _ => 0)))), (q63, .inl (cL, 12, .inr (.inl (fun _ => 0)))), (q71, .inl (cL, 12, .inr (.inl (fun _ => 0))))] := hD
  refine lv_aload_n hx hb dX1_init_76 rfl (lv_at hl 0 rfl) ?_
  refine lv_bipush (v := 16) hx hb dX1_init_77 (by decide) ?_
  refine am_newI hx hb (ht 98 _ rfl) hK hP hD hS hA 16 (by decide) (by decide) (by decide) (Nat.le_of_ble_eq_true rfl) (Nat.le_of_ble_eq_true rfl) dX1_init_79 (fun q79 H hP hD hS => ?_)
  have hP : va_P D vwCl [(h0, .inr (1, [.int 0, .ref q7, .ref q15, .ref q23, .ref q31, .ref q39, .int 0, .ref q47, .ref q55, .ref q63, .ref q71, .int 0, .null, .null])), (q7, .inl (cI, 10, .inl (fun _ => 0))), (q15, .inl (cI, 10, .inl (fun _ => 0))), (q23, .inl (cI, 10, .inl (fun _ => 0))), (q31, .inl (cL, 10, .inr (.inl (fun _ => 0)))), (q39, .inl (cI, 10, .inl (fun _ => 0))), (q47, .inl (cL, 36, .inr (.inl (fun _ => 0)))), (q55, .inl (cL, 36, .inr (.inl (fun _ => 0)))), (q63, .inl (cL, 12, .inr (.inl (fun _ => 0)))), (q71, .inl (cL, 12, .inr (.inl (fun _ => 0)))), (q79, .inl (cI, 16, .inl (fun _ => 0)))] H := hP
  have hD : va_D A [(h0, .inr (1, [.int 0, .ref q7, .ref q15, .ref q23, .ref q31, .ref q39, .int 0, .ref q47, .ref q55, .ref q63, .ref q71, .int 0, .null, .null])), (q7, .inl (cI, 10, .inl (fun _ => 0))), (q15, .inl (cI, 10, .inl (fun _ => 0))), (q23, .inl (cI, 10, .inl (fun _ => 0))), (q31, .inl (cL, 10, .inr (.inl (fun _ => 0)))), (q39, .inl (cI, 10, .inl (fun _ => 0))), (q47, .inl (cL, 36, .inr (.inl (fun _ => 0)))), (q55, .inl (cL, 36, .inr (.inl (fun _ => 0)))), (q63, .inl (cL, 12, .inr (.inl (fun _ => 0)))), (q71, .inl (cL, 12, .inr (.inl (fun _ => 0)))), (q79, .inl (cI, 16, .inl (fun _ => 0)))] := hD
  refine W.widen (k := 10) (n := 162) (by omega) (by omega) ?_
  refine va_putF (D := D) (ci := 1) (v := .ref q79) (ty := .array .int) (C := RX1) (T := TX1) (N := 14) hx hb hts hin_X1 tyX1 tyX1_ok nmX1 hown hK hP hD hS 0 rfl rfl 12 (by decide) hf_40 (fun _ h9 => h9) rfl hin9 rfl (by decide +kernel) rfl rfl (Nat.le_of_ble_eq_true rfl) dX1_init_81 (fun H locs hP hD hS => ?_)
  have hP : va_P D vwCl [(h0, .inr (1, [.int 0, .ref q7, .ref q15, .ref q23, .ref q31, .ref q39, .int 0, .ref q47, .ref q55, .ref q63, .ref q71, .int 0, .ref q79, .null])), (q7, .inl (cI, 10, .inl (fun _ => 0))), (q15, .inl (cI, 10, .inl (fun _ => 0))), (q23, .inl (cI, 10, .inl (fun _ => 0))), (q31, .inl (cL, 10, .inr (.inl (fun _ => 0)))), (q39, .inl (cI, 10, .inl (fun _ => 0))), (q47, .inl (cL, 36, .inr (.inl (fun _ => 0)))), (q55, .inl (cL, 36, .inr (.inl (fun _ => 0)))), (q63, .inl (cL, 12, .inr (.inl (fun _ => 0)))), (q71, .inl (cL, 12, .inr (.inl (fun _ => 0)))), (q79, .inl (cI, 16, .inl (fun _ => 0)))] H := hP
  have hD : va_D A [(h0, .inr (1, [.int 0, .ref q7, .ref q15, .ref q23, .ref q31, .ref q39, .int 0, .ref q47, .ref q55, .ref q63, .ref q71, .int 0, .ref q79, .null])), (q7, .inl (cI, 10, .inl (fun _ => 0))), (q15, .inl (cI, 10, .inl (fun _ => 0))), (q23, .inl (cI, 10, .inl (fun _ => 0))), (q31, .inl (cL, 10, .inr (.inl (fun _ => 0)))), (q39, .inl (cI, 10, .inl (fun _ => 0))), (q47, .inl (cL, 36, .inr (.inl (fun _ => 0)))), (q55, .inl (cL, 36, .inr (.inl (fun _ => 0)))), (q63, .inl (cL, 12, .inr (.inl (fun _ => 0)))), (q71, .inl (cL, 12, .inr (.inl (fun _ => 0)))), (q79, .inl (cI, 16, .inl (fun _ => 0)))] := hD
  refine lv_aload_n hx hb dX1_init_84 rfl (lv_at hl 0 rfl) ?_
  refine lv_bipush (v := 16) hx hb dX1_init_85 (by decide) ?_
  refine am_newL hx hb (ht 99 _ rfl) hK hP hD hS hA 16 (by decide) (by decide) (by decide) (Nat.le_of_ble_eq_true rfl) (Nat.le_of_ble_eq_true rfl) dX1_init_87 (fun q87 H hP hD hS => ?_)
  have hP : va_P D vwCl [(h0, .inr (1, [.int 0, .ref q7, .ref q15, .ref q23, .ref q31, .ref q39, .int 0, .ref q47, .ref q55, .ref q63, .ref q71, .int 0, .ref q79, .null])), (q7, .inl (cI, 10, .inl (fun _ => 0))), (q15, .inl (cI, 10, .inl (fun _ => 0))), (q23, .inl (cI, 10, .inl (fun _ => 0))), (q31, .inl (cL, 10, .inr (.inl (fun _ => 0)))), (q39, .inl (cI, 10, .inl (fun _ => 0))), (q47, .inl (cL, 36, .inr (.inl (fun _ => 0)))), (q55, .inl (cL, 36, .inr (.inl (fun _ => 0)))), (q63, .inl (cL, 12, .inr (.inl (fun _ => 0)))), (q71, .inl (cL, 12, .inr (.inl (fun _ => 0)))), (q79, .inl (cI, 16, .inl (fun _ => 0))), (q87, .inl (cL, 16, .inr (.inl (fun _ => 0))))] H := hP
  have hD : va_D A [(h0, .inr (1, [.int 0, .ref q7, .ref q15, .ref q23, .ref q31, .ref q39, .int 0, .ref q47, .ref q55, .ref q63, .ref q71, .int 0, .ref q79, .null])), (q7, .inl (cI, 10, .inl (fun _ => 0))), (q15, .inl (cI, 10, .inl (fun _ => 0))), (q23, .inl (cI, 10, .inl (fun _ => 0))), (q31, .inl (cL, 10, .inr (.inl (fun _ => 0)))), (q39, .inl (cI, 10, .inl (fun _ => 0))), (q47, .inl (cL, 36, .inr (.inl (fun _ => 0)))), (q55, .inl (cL, 36, .inr (.inl (fun _ => 0)))), (q63, .inl (cL, 12, .inr (.inl (fun _ => 0)))), (q71, .inl (cL, 12, .inr (.inl (fun _ => 0)))), (q79, .inl (cI, 16, .inl (fun _ => 0))), (q87, .inl (cL, 16, .inr (.inl (fun _ => 0))))] := hD
  refine W.widen (k := 11) (n := 178) (by omega) (by omega) ?_
  refine va_putF (D := D) (ci := 1) (v := .ref q87) (ty := .array .long) (C := RX1) (T := TX1) (N := 14) hx hb hts hin_X1 tyX1 tyX1_ok nmX1 hown hK hP hD hS 0 rfl rfl 13 (by decide) hf_43 (fun _ h9 => h9) rfl hin9 rfl (by decide +kernel) rfl rfl (Nat.le_of_ble_eq_true rfl) dX1_init_89 (fun H locs hP hD hS => ?_)
  have hP : va_P D vwCl [(h0, .inr (1, [.int 0, .ref q7, .ref q15, .ref q23, .ref q31, .ref q39, .int 0, .ref q47, .ref q55, .ref q63, .ref q71, .int 0, .ref q79, .ref q87])), (q7, .inl (cI, 10, .inl (fun _ => 0))), (q15, .inl (cI, 10, .inl (fun _ => 0))), (q23, .inl (cI, 10, .inl (fun _ => 0))), (q31, .inl (cL, 10, .inr (.inl (fun _ => 0)))), (q39, .inl (cI, 10, .inl (fun _ => 0))), (q47, .inl (cL, 36, .inr (.inl (fun _ => 0)))), (q55, .inl (cL, 36, .inr (.inl (fun _ => 0)))), (q63, .inl (cL, 12, .inr (.inl (fun _ => 0)))), (q71, .inl (cL, 12, .inr (.inl (fun _ => 0)))), (q79, .inl (cI, 16, .inl (fun _ => 0))), (q87, .inl (cL, 16, .inr (.inl (fun _ => 0))))] H := hP
  have hD : va_D A [(h0, .inr (1, [.int 0, .ref q7, .ref q15, .ref q23, .ref q31, .ref q39, .int 0, .ref q47, .ref q55, .ref q63, .ref q71, .int 0, .ref q79, .ref q87])), (q7, .inl (cI, 10, .inl (fun _ => 0))), (q15, .inl (cI, 10, .inl (fun _ => 0))), (q23, .inl (cI, 10, .inl (fun _ => 0))), (q31, .inl (cL, 10, .inr (.inl (fun _ => 0)))), (q39, .inl (cI, 10, .inl (fun _ => 0))), (q47, .inl (cL, 36, .inr (.inl (fun _ => 0)))), (q55, .inl (cL, 36, .inr (.inl (fun _ => 0)))), (q63, .inl (cL, 12, .inr (.inl (fun _ => 0)))), (q71, .inl (cL, 12, .inr (.inl (fun _ => 0)))), (q79, .inl (cI, 16, .inl (fun _ => 0))), (q87, .inl (cL, 16, .inr (.inl (fun _ => 0))))] := hD
  refine lv_aload_n hx hb dX1_init_92 rfl (lv_at hl 0 rfl) ?_
  refine va_get (D := D) (ci := 1) (v := .ref q71) (C := RX1) (T := TX1) (N := 14) hx hb hts hin_X1 hown hK hP 0 rfl rfl 10 (by decide) hf_37 (fun _ h9 => h9) rfl dX1_init_93 ?_
  refine lv_ldc2 (v := 27720) hx hb hown (ht 52 _ rfl) dX1_init_96 ?_
  refine am_callMv (va_runS (As := [.ref q71, .long 27720]) (rest := []) ⟨hx, hb, hml, hown, hts⟩ (c_fillJ l D A [(h0, .inr (1, [.int 0, .ref q7, .ref q15, .ref q23, .ref q31, .ref q39, .int 0, .ref q47, .ref q55, .ref q63, .ref q71, .int 0, .ref q79, .ref q87])), (q7, .inl (cI, 10, .inl (fun _ => 0))), (q15, .inl (cI, 10, .inl (fun _ => 0))), (q23, .inl (cI, 10, .inl (fun _ => 0))), (q31, .inl (cL, 10, .inr (.inl (fun _ => 0)))), (q39, .inl (cI, 10, .inl (fun _ => 0))), (q47, .inl (cL, 36, .inr (.inl (fun _ => 0)))), (q55, .inl (cL, 36, .inr (.inl (fun _ => 0)))), (q63, .inl (cL, 12, .inr (.inl (fun _ => 0)))), (q71, .inl (cL, 12, .inr (.inl (fun _ => 0)))), (q79, .inl (cI, 16, .inl (fun _ => 0))), (q87, .inl (cL, 16, .inr (.inl (fun _ => 0))))] [(cI, .int), (cL, .long)] 9 1 q71 cL 12 (fun _ => 0) 27720 rfl rfl (by decide)) (va_cwS 2 hts (am_gS (am_in 53 rfl) (am_in 54 rfl) (am_in 31 rfl) (am_in 55 rfl)) rfl rfl rfl (by decide +kernel) ⟨Nat.le_of_ble_eq_true rfl, Nat.le_of_ble_eq_true rfl⟩) (am_preSM hP hK hN hD) rfl rfl hl.1 rfl (lv_room (Nat.le_of_ble_eq_true rfl)) dX1_init_99 ⟨Nat.le_of_ble_eq_true rfl, Nat.le_of_ble_eq_true rfl⟩) hS (fun H locs hP hS => ?_)
  have hP : va_P D vwCl [(h0, .inr (1, [.int 0, .ref q7, .ref q15, .ref q23, .ref q31, .ref q39, .int 0, .ref q47, .ref q55, .ref q63, .ref q71, .int 0, .ref q79, .ref q87])), (q7, .inl (cI, 10, .inl (fun _ => 0))), (q15, .inl (cI, 10, .inl (fun _ => 0))), (q23, .inl (cI, 10, .inl (fun _ => 0))), (q31, .inl (cL, 10, .inr (.inl (fun _ => 0)))), (q39, .inl (cI, 10, .inl (fun _ => 0))), (q47, .inl (cL, 36, .inr (.inl (fun _ => 0)))), (q55, .inl (cL, 36, .inr (.inl (fun _ => 0)))), (q63, .inl (cL, 12, .inr (.inl (fun _ => 0)))), (q71, .inl (cL, 12, .inr (.inl (ac_fillL 27720 (fun _ => 0) 12)))), (q79, .inl (cI, 16, .inl (fun _ => 0))), (q87, .inl (cL, 16, .inr (.inl (fun _ => 0))))] H := hP
  have hD : va_D A [(h0, .inr (1, [.int 0, .ref q7, .ref q15, .ref q23, .ref q31, .ref q39, .int 0, .ref q47, .ref q55, .ref q63, .ref q71, .int 0, .ref q79, .ref q87])), (q7, .inl (cI, 10, .inl (fun _ => 0))), (q15, .inl (cI, 10, .inl (fun _ => 0))), (q23, .inl (cI, 10, .inl (fun _ => 0))), (q31, .inl (cL, 10, .inr (.inl (fun _ => 0)))), (q39, .inl (cI, 10, .inl (fun _ => 0))), (q47, .inl (cL, 36, .inr (.inl (fun _ => 0)))), (q55, .inl (cL, 36, .inr (.inl (fun _ => 0)))), (q63, .inl (cL, 12, .inr (.inl (fun _ => 0)))), (q71, .inl (cL, 12, .inr (.inl (ac_fillL 27720 (fun _ => 0) 12)))), (q79, .inl (cI, 16, .inl (fun _ => 0))), (q87, .inl (cL, 16, .inr (.inl (fun _ => 0))))] := am_D hD rfl
  have hP9 := hP.sub (ws' := [(h0, .inr (1, [.int 0, .ref q7, .ref q15, .ref q23, .ref q31, .ref q39, .int 0, .ref q47, .ref q55, .ref q63, .ref q71, .int 0, .ref q79, .ref q87])), (q7, .inl (cI, 10, .inl (fun _ => 0))), (q15, .inl (cI, 10, .inl (fun _ => 0))), (q23, .inl (cI, 10, .inl (fun _ => 0))), (q31, .inl (cL, 10, .inr (.inl (fun _ => 0)))), (q39, .inl (cI, 10, .inl (fun _ => 0))), (q47, .inl (cL, 36, .inr (.inl (fun _ => 0)))), (q55, .inl (cL, 36, .inr (.inl (fun _ => 0)))), (q63, .inl (cL, 12, .inr (.inl (fun _ => 0)))), (q71, .inl (cL, 12, .inr (.inl (ac_fillL 27720 (fun _ => 0) 12)))), (q79, .inl (cI, 16, .inl (fun _ => 0))), (q87, .inl (cL, 16, .inr (.inl (fun _ => 0))))]) [0, 1, 2, 3, 4, 5, 6, 7, 8, 9, 10, 11] rfl
  have hD9 := hD.sub (ws' := [(h0, .inr (1, [.int 0, .ref q7, .ref q15, .ref q23, .ref q31, .ref q39, .int 0, .ref q47, .ref q55, .ref q63, .ref q71, .int 0, .ref q79, .ref q87])), (q7, .inl (cI, 10, .inl (fun _ => 0))), (q15, .inl (cI, 10, .inl (fun _ => 0))), (q23, .inl (cI, 10, .inl (fun _ => 0))), (q31, .inl (cL, 10, .inr (.inl (fun _ => 0)))), (q39, .inl (cI, 10, .inl (fun _ => 0))), (q47, .inl (cL, 36, .inr (.inl (fun _ => 0)))), (q55, .inl (cL, 36, .inr (.inl (fun _ => 0)))), (q63, .inl (cL, 12, .inr (.inl (fun _ => 0)))), (q71, .inl (cL, 12, .inr (.inl (ac_fillL 27720 (fun _ => 0) 12)))), (q79, .inl (cI, 16, .inl (fun _ => 0))), (q87, .inl (cL, 16, .inr (.inl (fun _ => 0))))]) [0, 1, 2, 3, 4, 5, 6, 7, 8, 9, 10, 11] (by decide) rfl
  exact W.vret hx hb hr (fun t ht _ => ⟨⟨(fun k => if k = 5 then q7 else if k = 6 then q15 else if k = 7 then q23 else if k = 8 then q31 else if k = 9 then q39 else if k = 10 then q47 else if k = 11 then q55 else if k = 12 then q63 else if k = 13 then q71 else if k = 14 then q79 else if k = 15 then q87 else 0), rfl, trivial, by rw [ht]; exact hP9, hD9⟩, hS.F ht⟩) hS.2.2 dX1_init_102

set_option maxHeartbeats 8000000 in
set_option maxRecDepth 100000 in
theorem c_X2_init (l : Launch) (D : va_G) (cI cL : ClassId) (h0 sz : Nat) (qp : Nat) : Met l yX2_init wsX2_init { frames := 1, cells := 3, slots := 10362, locals := 12 } (va_Pc [.ref h0, .ref qp] (fun U => U.heap.size = sz ∧ am_M nwL vwCl D (fun _ => True) [(h0, .inr (2, [.null, .null, .null, .null]))] [(cI, .int), (cL, .long)] U)) (va_Qv (fun (u : Nat → Nat) => True) (fun u t => va_P D vwCl [(h0, .inr (2, [.ref qp, .ref (u 16), .ref (u 17), .ref (u 18)])), ((u 16), .inl (cL, 12, .inr (.inl (fun _ => 0)))), ((u 17), .inl (cL, 110, .inr (.inl (fun _ => 0)))), ((u 18), .inl (cL, 10240, .inr (.inl (fun _ => 0))))] t.heap ∧ va_D (va_A [(h0, .inr (2, [.null, .null, .null, .null]))] sz) [(h0, .inr (2, [.ref qp, .ref (u 16), .ref (u 17), .ref (u 18)])), ((u 16), .inl (cL, 12, .inr (.inl (fun _ => 0)))), ((u 17), .inl (cL, 110, .inr (.inl (fun _ => 0)))), ((u 18), .inl (cL, 10240, .inr (.inl (fun _ => 0))))]) (va_A [(h0, .inr (2, [.null, .null, .null, .null]))] sz)) 3 10362 (va_A [(h0, .inr (2, [.null, .null, .null, .null]))] sz) := by
  refine Met.ofW (cc := cX2_init) (maxL := 2) (ret := none) (by decide) rfl ?_
  intro p e s m args below meth c s₁ B hml hv
  obtain ⟨rfl, hsz, hP, hK, hN, hD0⟩ := hv
  have hx := B.exec
  have hb := B.bytes
  have hr := B.returns
  have hts := atoms_spec (ws := wsX2_init) B.pre
  have hown : s.vm.findClass RX2 = some m.cls := findClass_of_methodNamed B.named
  have hlocks := B.notSynchronized
  have hin9 : meth.name = "<init>" := (name_of_methodNamed B.named B.method).1
  subst hsz
  have hD := hD0.self (sz := s.heap.size)
  generalize hAe : va_A [(h0, .inr (2, [.null, .null, .null, .null]))] s.heap.size = A at hD ⊢
  have hA : ∀ q : Nat, s.heap.size ≤ q → A q := fun q h => by rw [← hAe]; exact Or.inr h
  have hS : va_S A s.heap s.heap [] := va_S.rf
  have hl := lv_entry ([.ref h0, .ref qp]) (n := 2) (Nat.le_of_ble_eq_true rfl)
  rw [lg_entry_eq]
  generalize (lg_sl ([.ref h0, .ref qp]) ++ List.replicate (2 - (lg_sl ([.ref h0, .ref qp])).length) Slot.unset).toArray = ls at hl ⊢
  have hl : lv_has ls 2 [(0, .ref h0), (1, .ref qp)] := hl
  have ht := am_ht hts
  have hin_X2 : ∀ w ∈ u_ws RX2 TX2 4, w ∈ wsX2_init := fun w h => List.mem_cons_of_mem _ (am_inX2 w h)
  have hf_15 := ht 110 (.fieldLink RX2 15 "ApartCost$Planner" "steps" "[J") rfl
  have hf_18 := ht 111 (.fieldLink RX2 18 "ApartCost$Planner" "most" "[J") rfl
  have hf_21 := ht 106 (.fieldLink RX2 21 "ApartCost$Planner" "product" "LApartCost$Product;") rfl
  have hf_9 := ht 108 (.fieldLink RX2 9 "ApartCost$Planner" "values" "[J") rfl
  refine lv_aload_n hx hb dX2_init_0 rfl (lv_at hl 0 rfl) ?_
  refine W.objInit hx hb hown (ht 105 _ rfl) (ht 44 _ rfl) (ht 45 _ rfl) rfl (by rw [hml]; exact hl.1) rfl dX2_init_1 (Nat.le_of_ble_eq_true rfl) (Nat.le_of_ble_eq_true rfl) ?_
  refine W.eq (g2 := F0 m 4 ls []) rfl ?_
  refine lv_aload_n hx hb dX2_init_4 rfl (lv_at hl 0 rfl) ?_
  refine lv_bipush (v := 12) hx hb dX2_init_5 (by decide) ?_
  refine am_newL hx hb (ht 99 _ rfl) hK hP hD hS hA 12 (by decide) (by decide) (by decide) (Nat.le_of_ble_eq_true rfl) (Nat.le_of_ble_eq_true rfl) dX2_init_7 (fun q7 H hP hD hS => ?_)
  have hP : va_P D vwCl [(h0, .inr (2, [.null, .null, .null, .null])), (q7, .inl (cL, 12, .inr (.inl (fun _ => 0))))] H := hP
  have hD : va_D A [(h0, .inr (2, [.null, .null, .null, .null])), (q7, .inl (cL, 12, .inr (.inl (fun _ => 0))))] := hD
  refine W.widen (k := 1) (n := 12) (by omega) (by omega) ?_
  refine va_putF (D := D) (ci := 2) (v := .ref q7) (ty := .array .long) (C := RX2) (T := TX2) (N := 4) hx hb hts hin_X2 tyX2 tyX2_ok nmX2 hown hK hP hD hS 0 rfl rfl 1 (by decide) hf_9 (fun _ h9 => h9) rfl hin9 rfl (by decide +kernel) rfl rfl (Nat.le_of_ble_eq_true rfl) dX2_init_9 (fun H locs hP hD hS => ?_)
  have hP : va_P D vwCl [(h0, .inr (2, [.null, .ref q7, .null, .null])), (q7, .inl (cL, 12, .inr (.inl (fun _ => 0))))] H := hP
  have hD : va_D A [(h0, .inr (2, [.null, .ref q7, .null, .null])), (q7, .inl (cL, 12, .inr (.inl (fun _ => 0))))] := hD
  refine lv_aload_n hx hb dX2_init_12 rfl (lv_at hl 0 rfl) ?_
  refine lv_bipush (v := 110) hx hb dX2_init_13 (by decide) ?_
  refine am_newL hx hb (ht 99 _ rfl) hK hP hD hS hA 110 (by decide) (by decide) (by decide) (Nat.le_of_ble_eq_true rfl) (Nat.le_of_ble_eq_true rfl) dX2_init_15 (fun q15 H hP hD hS => ?_)
  have hP : va_P D vwCl [(h0, .inr (2, [.null, .ref q7, .null, .null])), (q7, .inl (cL, 12, .inr (.inl (fun _ => 0)))), (q15, .inl (cL, 110, .inr (.inl (fun _ => 0))))] H := hP
  have hD : va_D A [(h0, .inr (2, [.null, .ref q7, .null, .null])), (q7, .inl (cL, 12, .inr (.inl (fun _ => 0)))), (q15, .inl (cL, 110, .inr (.inl (fun _ => 0))))] := hD
  refine W.widen (k := 2) (n := 122) (by omega) (by omega) ?_
  refine va_putF (D := D) (ci := 2) (v := .ref q15) (ty := .array .long) (C := RX2) (T := TX2) (N := 4) hx hb hts hin_X2 tyX2 tyX2_ok nmX2 hown hK hP hD hS 0 rfl rfl 2 (by decide) hf_15 (fun _ h9 => h9) rfl hin9 rfl (by decide +kernel) rfl rfl (Nat.le_of_ble_eq_true rfl) dX2_init_17 (fun H locs hP hD hS => ?_)
  have hP : va_P D vwCl [(h0, .inr (2, [.null, .ref q7, .ref q15, .null])), (q7, .inl (cL, 12, .inr (.inl (fun _ => 0)))), (q15, .inl (cL, 110, .inr (.inl (fun _ => 0))))] H := hP
  have hD : va_D A [(h0, .inr (2, [.null, .ref q7, .ref q15, .null])), (q7, .inl (cL, 12, .inr (.inl (fun _ => 0)))), (q15, .inl (cL, 110, .inr (.inl (fun _ => 0))))] := hD
  refine lv_aload_n hx hb dX2_init_20 rfl (lv_at hl 0 rfl) ?_
  refine lv_sipush (v := 10240) hx hb dX2_init_21 (by decide) ?_
  refine am_newL hx hb (ht 99 _ rfl) hK hP hD hS hA 10240 (by decide) (by decide) (by decide) (Nat.le_of_ble_eq_true rfl) (Nat.le_of_ble_eq_true rfl) dX2_init_24 (fun q24 H hP hD hS => ?_)
  have hP : va_P D vwCl [(h0, .inr (2, [.null, .ref q7, .ref q15, .null])), (q7, .inl (cL, 12, .inr (.inl (fun _ => 0)))), (q15, .inl (cL, 110, .inr (.inl (fun _ => 0)))), (q24, .inl (cL, 10240, .inr (.inl (fun _ => 0))))] H := hP
  have hD : va_D A [(h0, .inr (2, [.null, .ref q7, .ref q15, .null])), (q7, .inl (cL, 12, .inr (.inl (fun _ => 0)))), (q15, .inl (cL, 110, .inr (.inl (fun _ => 0)))), (q24, .inl (cL, 10240, .inr (.inl (fun _ => 0))))] := hD
  refine W.widen (k := 3) (n := 10362) (by omega) (by omega) ?_
  refine va_putF (D := D) (ci := 2) (v := .ref q24) (ty := .array .long) (C := RX2) (T := TX2) (N := 4) hx hb hts hin_X2 tyX2 tyX2_ok nmX2 hown hK hP hD hS 0 rfl rfl 3 (by decide) hf_18 (fun _ h9 => h9) rfl hin9 rfl (by decide +kernel) rfl rfl (Nat.le_of_ble_eq_true rfl) dX2_init_26 (fun H locs hP hD hS => ?_)
  have hP : va_P D vwCl [(h0, .inr (2, [.null, .ref q7, .ref q15, .ref q24])), (q7, .inl (cL, 12, .inr (.inl (fun _ => 0)))), (q15, .inl (cL, 110, .inr (.inl (fun _ => 0)))), (q24, .inl (cL, 10240, .inr (.inl (fun _ => 0))))] H := hP
  have hD : va_D A [(h0, .inr (2, [.null, .ref q7, .ref q15, .ref q24])), (q7, .inl (cL, 12, .inr (.inl (fun _ => 0)))), (q15, .inl (cL, 110, .inr (.inl (fun _ => 0)))), (q24, .inl (cL, 10240, .inr (.inl (fun _ => 0))))] := hD
  refine lv_aload_n hx hb dX2_init_29 rfl (lv_at hl 0 rfl) ?_
  refine lv_aload_n hx hb dX2_init_30 rfl (lv_at hl 1 rfl) ?_
  refine va_putF (D := D) (ci := 2) (v := .ref qp) (ty := .object "ApartCost$Product") (C := RX2) (T := TX2) (N := 4) hx hb hts hin_X2 tyX2 tyX2_ok nmX2 hown hK hP hD hS 0 rfl rfl 0 (by decide) hf_21 (fun _ h9 => h9) rfl hin9 rfl (by decide +kernel) rfl rfl (Nat.le_of_ble_eq_true rfl) dX2_init_31 (fun H locs hP hD hS => ?_)
  have hP : va_P D vwCl [(h0, .inr (2, [.ref qp, .ref q7, .ref q15, .ref q24])), (q7, .inl (cL, 12, .inr (.inl (fun _ => 0)))), (q15, .inl (cL, 110, .inr (.inl (fun _ => 0)))), (q24, .inl (cL, 10240, .inr (.inl (fun _ => 0))))] H := hP
  have hD : va_D A [(h0, .inr (2, [.ref qp, .ref q7, .ref q15, .ref q24])), (q7, .inl (cL, 12, .inr (.inl (fun _ => 0)))), (q15, .inl (cL, 110, .inr (.inl (fun _ => 0)))), (q24, .inl (cL, 10240, .inr (.inl (fun _ => 0))))] := hD
  have hP9 := hP.sub (ws' := [(h0, .inr (2, [.ref qp, .ref q7, .ref q15, .ref q24])), (q7, .inl (cL, 12, .inr (.inl (fun _ => 0)))), (q15, .inl (cL, 110, .inr (.inl (fun _ => 0)))), (q24, .inl (cL, 10240, .inr (.inl (fun _ => 0))))]) [0, 1, 2, 3] rfl
  have hD9 := hD.sub (ws' := [(h0, .inr (2, [.ref qp, .ref q7, .ref q15, .ref q24])), (q7, .inl (cL, 12, .inr (.inl (fun _ => 0)))), (q15, .inl (cL, 110, .inr (.inl (fun _ => 0)))), (q24, .inl (cL, 10240, .inr (.inl (fun _ => 0))))]) [0, 1, 2, 3] (by decide) rfl
  exact W.vret hx hb hr (fun t ht _ => ⟨⟨(fun k => if k = 16 then q7 else if k = 17 then q15 else if k = 18 then q24 else 0), rfl, trivial, by rw [ht]; exact hP9, hD9⟩, hS.F ht⟩) hS.2.2 dX2_init_34

set_option maxHeartbeats 8000000 in
set_option maxRecDepth 100000 in
theorem c_X3_init (l : Launch) (D : va_G) (cI cL : ClassId) (h0 sz : Nat) : Met l yX3_init wsX3_init { frames := 1, cells := 2, slots := 22, locals := 12 } (va_Pc [.ref h0] (fun U => U.heap.size = sz ∧ am_M nwL vwCl D (fun _ => True) [(h0, .inr (3, [.int 0, .int 0, .int 0, .int 0, .int 0, .long 0, .null, .null]))] [(cI, .int), (cL, .long)] U)) (va_Qv (fun (u : Nat → Nat) => True) (fun u t => va_P D vwCl [(h0, .inr (3, [.int 0, .int 0, .int 0, .int 0, .int 0, .long 0, .ref (u 19), .ref (u 20)])), ((u 19), .inl (cI, 10, .inl (fun _ => 0))), ((u 20), .inl (cL, 12, .inr (.inl (fun _ => 0))))] t.heap ∧ va_D (va_A [(h0, .inr (3, [.int 0, .int 0, .int 0, .int 0, .int 0, .long 0, .null, .null]))] sz) [(h0, .inr (3, [.int 0, .int 0, .int 0, .int 0, .int 0, .long 0, .ref (u 19), .ref (u 20)])), ((u 19), .inl (cI, 10, .inl (fun _ => 0))), ((u 20), .inl (cL, 12, .inr (.inl (fun _ => 0))))]) (va_A [(h0, .inr (3, [.int 0, .int 0, .int 0, .int 0, .int 0, .long 0, .null, .null]))] sz)) 2 22 (va_A [(h0, .inr (3, [.int 0, .int 0, .int 0, .int 0, .int 0, .long 0, .null, .null]))] sz) := by
  refine Met.ofW (cc := cX3_init) (maxL := 1) (ret := none) (by decide) rfl ?_
  intro p e s m args below meth c s₁ B hml hv
  obtain ⟨rfl, hsz, hP, hK, hN, hD0⟩ := hv
  have hx := B.exec
  have hb := B.bytes
  have hr := B.returns
  have hts := atoms_spec (ws := wsX3_init) B.pre
  have hown : s.vm.findClass RX3 = some m.cls := findClass_of_methodNamed B.named
  have hlocks := B.notSynchronized
  have hin9 : meth.name = "<init>" := (name_of_methodNamed B.named B.method).1
  subst hsz
  have hD := hD0.self (sz := s.heap.size)
  generalize hAe : va_A [(h0, .inr (3, [.int 0, .int 0, .int 0, .int 0, .int 0, .long 0, .null, .null]))] s.heap.size = A at hD ⊢
  have hA : ∀ q : Nat, s.heap.size ≤ q → A q := fun q h => by rw [← hAe]; exact Or.inr h
  have hS : va_S A s.heap s.heap [] := va_S.rf
  have hl := lv_entry ([.ref h0]) (n := 1) (Nat.le_of_ble_eq_true rfl)
  rw [lg_entry_eq]
  generalize (lg_sl ([.ref h0]) ++ List.replicate (1 - (lg_sl ([.ref h0])).length) Slot.unset).toArray = ls at hl ⊢
  have hl : lv_has ls 1 [(0, .ref h0)] := hl
  have ht := am_ht hts
  have hin_X3 : ∀ w ∈ u_ws RX3 TX3 8, w ∈ wsX3_init := fun w h => List.mem_cons_of_mem _ (am_inX3 w h)
  have hf_15 := ht 134 (.fieldLink RX3 15 "ApartCost$Found" "brought" "[J") rfl
  have hf_9 := ht 132 (.fieldLink RX3 9 "ApartCost$Found" "row" "[I") rfl
  refine lv_aload_n hx hb dX3_init_0 rfl (lv_at hl 0 rfl) ?_
  refine W.objInit hx hb hown (ht 120 _ rfl) (ht 44 _ rfl) (ht 45 _ rfl) rfl (by rw [hml]; exact hl.1) rfl dX3_init_1 (Nat.le_of_ble_eq_true rfl) (Nat.le_of_ble_eq_true rfl) ?_
  refine W.eq (g2 := F0 m 4 ls []) rfl ?_
  refine lv_aload_n hx hb dX3_init_4 rfl (lv_at hl 0 rfl) ?_
  refine lv_bipush (v := 10) hx hb dX3_init_5 (by decide) ?_
  refine am_newI hx hb (ht 98 _ rfl) hK hP hD hS hA 10 (by decide) (by decide) (by decide) (Nat.le_of_ble_eq_true rfl) (Nat.le_of_ble_eq_true rfl) dX3_init_7 (fun q7 H hP hD hS => ?_)
  have hP : va_P D vwCl [(h0, .inr (3, [.int 0, .int 0, .int 0, .int 0, .int 0, .long 0, .null, .null])), (q7, .inl (cI, 10, .inl (fun _ => 0)))] H := hP
  have hD : va_D A [(h0, .inr (3, [.int 0, .int 0, .int 0, .int 0, .int 0, .long 0, .null, .null])), (q7, .inl (cI, 10, .inl (fun _ => 0)))] := hD
  refine W.widen (k := 1) (n := 10) (by omega) (by omega) ?_
  refine va_putF (D := D) (ci := 3) (v := .ref q7) (ty := .array .int) (C := RX3) (T := TX3) (N := 8) hx hb hts hin_X3 tyX3 tyX3_ok nmX3 hown hK hP hD hS 0 rfl rfl 6 (by decide) hf_9 (fun _ h9 => h9) rfl hin9 rfl (by decide +kernel) rfl rfl (Nat.le_of_ble_eq_true rfl) dX3_init_9 (fun H locs hP hD hS => ?_)
  have hP : va_P D vwCl [(h0, .inr (3, [.int 0, .int 0, .int 0, .int 0, .int 0, .long 0, .ref q7, .null])), (q7, .inl (cI, 10, .inl (fun _ => 0)))] H := hP
  have hD : va_D A [(h0, .inr (3, [.int 0, .int 0, .int 0, .int 0, .int 0, .long 0, .ref q7, .null])), (q7, .inl (cI, 10, .inl (fun _ => 0)))] := hD
  refine lv_aload_n hx hb dX3_init_12 rfl (lv_at hl 0 rfl) ?_
  refine lv_bipush (v := 12) hx hb dX3_init_13 (by decide) ?_
  refine am_newL hx hb (ht 99 _ rfl) hK hP hD hS hA 12 (by decide) (by decide) (by decide) (Nat.le_of_ble_eq_true rfl) (Nat.le_of_ble_eq_true rfl) dX3_init_15 (fun q15 H hP hD hS => ?_)
  have hP : va_P D vwCl [(h0, .inr (3, [.int 0, .int 0, .int 0, .int 0, .int 0, .long 0, .ref q7, .null])), (q7, .inl (cI, 10, .inl (fun _ => 0))), (q15, .inl (cL, 12, .inr (.inl (fun _ => 0))))] H := hP
  have hD : va_D A [(h0, .inr (3, [.int 0, .int 0, .int 0, .int 0, .int 0, .long 0, .ref q7, .null])), (q7, .inl (cI, 10, .inl (fun _ => 0))), (q15, .inl (cL, 12, .inr (.inl (fun _ => 0))))] := hD
  refine W.widen (k := 2) (n := 22) (by omega) (by omega) ?_
  refine va_putF (D := D) (ci := 3) (v := .ref q15) (ty := .array .long) (C := RX3) (T := TX3) (N := 8) hx hb hts hin_X3 tyX3 tyX3_ok nmX3 hown hK hP hD hS 0 rfl rfl 7 (by decide) hf_15 (fun _ h9 => h9) rfl hin9 rfl (by decide +kernel) rfl rfl (Nat.le_of_ble_eq_true rfl) dX3_init_17 (fun H locs hP hD hS => ?_)
  have hP : va_P D vwCl [(h0, .inr (3, [.int 0, .int 0, .int 0, .int 0, .int 0, .long 0, .ref q7, .ref q15])), (q7, .inl (cI, 10, .inl (fun _ => 0))), (q15, .inl (cL, 12, .inr (.inl (fun _ => 0))))] H := hP
  have hD : va_D A [(h0, .inr (3, [.int 0, .int 0, .int 0, .int 0, .int 0, .long 0, .ref q7, .ref q15])), (q7, .inl (cI, 10, .inl (fun _ => 0))), (q15, .inl (cL, 12, .inr (.inl (fun _ => 0))))] := hD
  have hP9 := hP.sub (ws' := [(h0, .inr (3, [.int 0, .int 0, .int 0, .int 0, .int 0, .long 0, .ref q7, .ref q15])), (q7, .inl (cI, 10, .inl (fun _ => 0))), (q15, .inl (cL, 12, .inr (.inl (fun _ => 0))))]) [0, 1, 2] rfl
  have hD9 := hD.sub (ws' := [(h0, .inr (3, [.int 0, .int 0, .int 0, .int 0, .int 0, .long 0, .ref q7, .ref q15])), (q7, .inl (cI, 10, .inl (fun _ => 0))), (q15, .inl (cL, 12, .inr (.inl (fun _ => 0))))]) [0, 1, 2] (by decide) rfl
  exact W.vret hx hb hr (fun t ht _ => ⟨⟨(fun k => if k = 19 then q7 else if k = 20 then q15 else 0), rfl, trivial, by rw [ht]; exact hP9, hD9⟩, hS.F ht⟩) hS.2.2 dX3_init_20

set_option maxHeartbeats 8000000 in
set_option maxRecDepth 100000 in
theorem c_X4_init (l : Launch) (D : va_G) (cI cL : ClassId) (h0 sz : Nat) (qp : Nat) : Met l yX4_init wsX4_init { frames := 1, cells := 3, slots := 24, locals := 23 } (va_Pc [.ref h0, .ref qp] (fun U => U.heap.size = sz ∧ am_M nwL vwCl D (fun _ => True) [(h0, .inr (4, [.null, .null, .null, .null, .int 0, .int 0, .long 0, .long 0]))] [(cI, .int), (cL, .long)] U)) (va_Qv (fun (u : Nat → Nat) => True) (fun u t => va_P D vwCl [(h0, .inr (4, [.ref (u 21), .ref qp, .ref (u 22), .ref (u 23), .int 0, .int 0, .long 0, .long 0])), ((u 21), .inl (cI, 10, .inl (ac_fillI (-1) (fun _ => 0) 10))), ((u 22), .inl (cI, 10, .inl (fun _ => 0))), ((u 23), .inl (cL, 4, .inr (.inl (fun _ => 0))))] t.heap ∧ va_D (va_A [(h0, .inr (4, [.null, .null, .null, .null, .int 0, .int 0, .long 0, .long 0]))] sz) [(h0, .inr (4, [.ref (u 21), .ref qp, .ref (u 22), .ref (u 23), .int 0, .int 0, .long 0, .long 0])), ((u 21), .inl (cI, 10, .inl (ac_fillI (-1) (fun _ => 0) 10))), ((u 22), .inl (cI, 10, .inl (fun _ => 0))), ((u 23), .inl (cL, 4, .inr (.inl (fun _ => 0))))]) (va_A [(h0, .inr (4, [.null, .null, .null, .null, .int 0, .int 0, .long 0, .long 0]))] sz)) 3 24 (va_A [(h0, .inr (4, [.null, .null, .null, .null, .int 0, .int 0, .long 0, .long 0]))] sz) := by
  refine Met.ofW (cc := cX4_init) (maxL := 2) (ret := none) (by decide) rfl ?_
  intro p e s m args below meth c s₁ B hml hv
  obtain ⟨rfl, hsz, hP, hK, hN, hD0⟩ := hv
  have hx := B.exec
  have hb := B.bytes
  have hr := B.returns
  have hts := atoms_spec (ws := wsX4_init) B.pre
  have hown : s.vm.findClass RX4 = some m.cls := findClass_of_methodNamed B.named
  have hlocks := B.notSynchronized
  have hin9 : meth.name = "<init>" := (name_of_methodNamed B.named B.method).1
  subst hsz
  have hD := hD0.self (sz := s.heap.size)
  generalize hAe : va_A [(h0, .inr (4, [.null, .null, .null, .null, .int 0, .int 0, .long 0, .long 0]))] s.heap.size = A at hD ⊢
  have hA : ∀ q : Nat, s.heap.size ≤ q → A q := fun q h => by rw [← hAe]; exact Or.inr h
  have hS : va_S A s.heap s.heap [] := va_S.rf
  have hl := lv_entry ([.ref h0, .ref qp]) (n := 2) (Nat.le_of_ble_eq_true rfl)
  rw [lg_entry_eq]
  generalize (lg_sl ([.ref h0, .ref qp]) ++ List.replicate (2 - (lg_sl ([.ref h0, .ref qp])).length) Slot.unset).toArray = ls at hl ⊢
  have hl : lv_has ls 2 [(0, .ref h0), (1, .ref qp)] := hl
  have ht := am_ht hts
  have hin_X4 : ∀ w ∈ u_ws RX4 TX4 8, w ∈ wsX4_init := fun w h => List.mem_cons_of_mem _ (am_inX4 w h)
  have hf_15 := ht 156 (.fieldLink RX4 15 "ApartCost$Line" "trial" "[I") rfl
  have hf_18 := ht 157 (.fieldLink RX4 18 "ApartCost$Line" "loads" "[J") rfl
  have hf_22 := ht 155 (.fieldLink RX4 22 "ApartCost$Line" "product" "LApartCost$Product;") rfl
  have hf_9 := ht 153 (.fieldLink RX4 9 "ApartCost$Line" "told" "[I") rfl
  refine lv_aload_n hx hb dX4_init_0 rfl (lv_at hl 0 rfl) ?_
  refine W.objInit hx hb hown (ht 149 _ rfl) (ht 44 _ rfl) (ht 45 _ rfl) rfl (by rw [hml]; exact hl.1) rfl dX4_init_1 (Nat.le_of_ble_eq_true rfl) (Nat.le_of_ble_eq_true rfl) ?_
  refine W.eq (g2 := F0 m 4 ls []) rfl ?_
  refine lv_aload_n hx hb dX4_init_4 rfl (lv_at hl 0 rfl) ?_
  refine lv_bipush (v := 10) hx hb dX4_init_5 (by decide) ?_
  refine am_newI hx hb (ht 98 _ rfl) hK hP hD hS hA 10 (by decide) (by decide) (by decide) (Nat.le_of_ble_eq_true rfl) (Nat.le_of_ble_eq_true rfl) dX4_init_7 (fun q7 H hP hD hS => ?_)
  have hP : va_P D vwCl [(h0, .inr (4, [.null, .null, .null, .null, .int 0, .int 0, .long 0, .long 0])), (q7, .inl (cI, 10, .inl (fun _ => 0)))] H := hP
  have hD : va_D A [(h0, .inr (4, [.null, .null, .null, .null, .int 0, .int 0, .long 0, .long 0])), (q7, .inl (cI, 10, .inl (fun _ => 0)))] := hD
  refine W.widen (k := 1) (n := 10) (by omega) (by omega) ?_
  refine va_putF (D := D) (ci := 4) (v := .ref q7) (ty := .array .int) (C := RX4) (T := TX4) (N := 8) hx hb hts hin_X4 tyX4 tyX4_ok nmX4 hown hK hP hD hS 0 rfl rfl 0 (by decide) hf_9 (fun _ h9 => h9) rfl hin9 rfl (by decide +kernel) rfl rfl (Nat.le_of_ble_eq_true rfl) dX4_init_9 (fun H locs hP hD hS => ?_)
  have hP : va_P D vwCl [(h0, .inr (4, [.ref q7, .null, .null, .null, .int 0, .int 0, .long 0, .long 0])), (q7, .inl (cI, 10, .inl (fun _ => 0)))] H := hP
  have hD : va_D A [(h0, .inr (4, [.ref q7, .null, .null, .null, .int 0, .int 0, .long 0, .long 0])), (q7, .inl (cI, 10, .inl (fun _ => 0)))] := hD
  refine lv_aload_n hx hb dX4_init_12 rfl (lv_at hl 0 rfl) ?_
  refine lv_bipush (v := 10) hx hb dX4_init_13 (by decide) ?_
  refine am_newI hx hb (ht 98 _ rfl) hK hP hD hS hA 10 (by decide) (by decide) (by decide) (Nat.le_of_ble_eq_true rfl) (Nat.le_of_ble_eq_true rfl) dX4_init_15 (fun q15 H hP hD hS => ?_)
  have hP : va_P D vwCl [(h0, .inr (4, [.ref q7, .null, .null, .null, .int 0, .int 0, .long 0, .long 0])), (q7, .inl (cI, 10, .inl (fun _ => 0))), (q15, .inl (cI, 10, .inl (fun _ => 0)))] H := hP
  have hD : va_D A [(h0, .inr (4, [.ref q7, .null, .null, .null, .int 0, .int 0, .long 0, .long 0])), (q7, .inl (cI, 10, .inl (fun _ => 0))), (q15, .inl (cI, 10, .inl (fun _ => 0)))] := hD
  refine W.widen (k := 2) (n := 20) (by omega) (by omega) ?_
  refine va_putF (D := D) (ci := 4) (v := .ref q15) (ty := .array .int) (C := RX4) (T := TX4) (N := 8) hx hb hts hin_X4 tyX4 tyX4_ok nmX4 hown hK hP hD hS 0 rfl rfl 2 (by decide) hf_15 (fun _ h9 => h9) rfl hin9 rfl (by decide +kernel) rfl rfl (Nat.le_of_ble_eq_true rfl) dX4_init_17 (fun H locs hP hD hS => ?_)
  have hP : va_P D vwCl [(h0, .inr (4, [.ref q7, .null, .ref q15, .null, .int 0, .int 0, .long 0, .long 0])), (q7, .inl (cI, 10, .inl (fun _ => 0))), (q15, .inl (cI, 10, .inl (fun _ => 0)))] H := hP
  have hD : va_D A [(h0, .inr (4, [.ref q7, .null, .ref q15, .null, .int 0, .int 0, .long 0, .long 0])), (q7, .inl (cI, 10, .inl (fun _ => 0))), (q15, .inl (cI, 10, .inl (fun _ => 0)))] := hD
  refine lv_aload_n hx hb dX4_init_20 rfl (lv_at hl 0 rfl) ?_
  refine lv_iconst (v := 4) hx hb dX4_init_21 (by decide) ?_
  refine am_newL hx hb (ht 99 _ rfl) hK hP hD hS hA 4 (by decide) (by decide) (by decide) (Nat.le_of_ble_eq_true rfl) (Nat.le_of_ble_eq_true rfl) dX4_init_22 (fun q22 H hP hD hS => ?_)
  have hP : va_P D vwCl [(h0, .inr (4, [.ref q7, .null, .ref q15, .null, .int 0, .int 0, .long 0, .long 0])), (q7, .inl (cI, 10, .inl (fun _ => 0))), (q15, .inl (cI, 10, .inl (fun _ => 0))), (q22, .inl (cL, 4, .inr (.inl (fun _ => 0))))] H := hP
  have hD : va_D A [(h0, .inr (4, [.ref q7, .null, .ref q15, .null, .int 0, .int 0, .long 0, .long 0])), (q7, .inl (cI, 10, .inl (fun _ => 0))), (q15, .inl (cI, 10, .inl (fun _ => 0))), (q22, .inl (cL, 4, .inr (.inl (fun _ => 0))))] := hD
  refine W.widen (k := 3) (n := 24) (by omega) (by omega) ?_
  refine va_putF (D := D) (ci := 4) (v := .ref q22) (ty := .array .long) (C := RX4) (T := TX4) (N := 8) hx hb hts hin_X4 tyX4 tyX4_ok nmX4 hown hK hP hD hS 0 rfl rfl 3 (by decide) hf_18 (fun _ h9 => h9) rfl hin9 rfl (by decide +kernel) rfl rfl (Nat.le_of_ble_eq_true rfl) dX4_init_24 (fun H locs hP hD hS => ?_)
  have hP : va_P D vwCl [(h0, .inr (4, [.ref q7, .null, .ref q15, .ref q22, .int 0, .int 0, .long 0, .long 0])), (q7, .inl (cI, 10, .inl (fun _ => 0))), (q15, .inl (cI, 10, .inl (fun _ => 0))), (q22, .inl (cL, 4, .inr (.inl (fun _ => 0))))] H := hP
  have hD : va_D A [(h0, .inr (4, [.ref q7, .null, .ref q15, .ref q22, .int 0, .int 0, .long 0, .long 0])), (q7, .inl (cI, 10, .inl (fun _ => 0))), (q15, .inl (cI, 10, .inl (fun _ => 0))), (q22, .inl (cL, 4, .inr (.inl (fun _ => 0))))] := hD
  refine lv_aload_n hx hb dX4_init_27 rfl (lv_at hl 0 rfl) ?_
  refine lv_aload_n hx hb dX4_init_28 rfl (lv_at hl 1 rfl) ?_
  refine va_putF (D := D) (ci := 4) (v := .ref qp) (ty := .object "ApartCost$Product") (C := RX4) (T := TX4) (N := 8) hx hb hts hin_X4 tyX4 tyX4_ok nmX4 hown hK hP hD hS 0 rfl rfl 1 (by decide) hf_22 (fun _ h9 => h9) rfl hin9 rfl (by decide +kernel) rfl rfl (Nat.le_of_ble_eq_true rfl) dX4_init_29 (fun H locs hP hD hS => ?_)
  have hP : va_P D vwCl [(h0, .inr (4, [.ref q7, .ref qp, .ref q15, .ref q22, .int 0, .int 0, .long 0, .long 0])), (q7, .inl (cI, 10, .inl (fun _ => 0))), (q15, .inl (cI, 10, .inl (fun _ => 0))), (q22, .inl (cL, 4, .inr (.inl (fun _ => 0))))] H := hP
  have hD : va_D A [(h0, .inr (4, [.ref q7, .ref qp, .ref q15, .ref q22, .int 0, .int 0, .long 0, .long 0])), (q7, .inl (cI, 10, .inl (fun _ => 0))), (q15, .inl (cI, 10, .inl (fun _ => 0))), (q22, .inl (cL, 4, .inr (.inl (fun _ => 0))))] := hD
  refine lv_aload_n hx hb dX4_init_32 rfl (lv_at hl 0 rfl) ?_
  refine va_get (D := D) (ci := 4) (v := .ref q7) (C := RX4) (T := TX4) (N := 8) hx hb hts hin_X4 hown hK hP 0 rfl rfl 0 (by decide) hf_9 (fun _ h9 => h9) rfl dX4_init_33 ?_
  refine lv_iconst (v := (-1)) hx hb dX4_init_36 (by decide) ?_
  refine am_callMv (va_runS (As := [.ref q7, .int (-1)]) (rest := []) ⟨hx, hb, hml, hown, hts⟩ (c_fillI l D A [(h0, .inr (4, [.ref q7, .ref qp, .ref q15, .ref q22, .int 0, .int 0, .long 0, .long 0])), (q7, .inl (cI, 10, .inl (fun _ => 0))), (q15, .inl (cI, 10, .inl (fun _ => 0))), (q22, .inl (cL, 4, .inr (.inl (fun _ => 0))))] [(cI, .int), (cL, .long)] 1 0 q7 cI 10 (fun _ => 0) (-1) rfl rfl (by decide)) (va_cwS 2 hts (am_gS (am_in 150 rfl) (am_in 151 rfl) (am_in 31 rfl) (am_in 152 rfl)) rfl rfl rfl (by decide +kernel) ⟨Nat.le_of_ble_eq_true rfl, Nat.le_of_ble_eq_true rfl⟩) (am_preSM hP hK hN hD) rfl rfl hl.1 rfl (lv_room (Nat.le_of_ble_eq_true rfl)) dX4_init_37 ⟨Nat.le_of_ble_eq_true rfl, Nat.le_of_ble_eq_true rfl⟩) hS (fun H locs hP hS => ?_)
  have hP : va_P D vwCl [(h0, .inr (4, [.ref q7, .ref qp, .ref q15, .ref q22, .int 0, .int 0, .long 0, .long 0])), (q7, .inl (cI, 10, .inl (ac_fillI (-1) (fun _ => 0) 10))), (q15, .inl (cI, 10, .inl (fun _ => 0))), (q22, .inl (cL, 4, .inr (.inl (fun _ => 0))))] H := hP
  have hD : va_D A [(h0, .inr (4, [.ref q7, .ref qp, .ref q15, .ref q22, .int 0, .int 0, .long 0, .long 0])), (q7, .inl (cI, 10, .inl (ac_fillI (-1) (fun _ => 0) 10))), (q15, .inl (cI, 10, .inl (fun _ => 0))), (q22, .inl (cL, 4, .inr (.inl (fun _ => 0))))] := am_D hD rfl
  have hP9 := hP.sub (ws' := [(h0, .inr (4, [.ref q7, .ref qp, .ref q15, .ref q22, .int 0, .int 0, .long 0, .long 0])), (q7, .inl (cI, 10, .inl (ac_fillI (-1) (fun _ => 0) 10))), (q15, .inl (cI, 10, .inl (fun _ => 0))), (q22, .inl (cL, 4, .inr (.inl (fun _ => 0))))]) [0, 1, 2, 3] rfl
  have hD9 := hD.sub (ws' := [(h0, .inr (4, [.ref q7, .ref qp, .ref q15, .ref q22, .int 0, .int 0, .long 0, .long 0])), (q7, .inl (cI, 10, .inl (ac_fillI (-1) (fun _ => 0) 10))), (q15, .inl (cI, 10, .inl (fun _ => 0))), (q22, .inl (cL, 4, .inr (.inl (fun _ => 0))))]) [0, 1, 2, 3] (by decide) rfl
  exact W.vret hx hb hr (fun t ht _ => ⟨⟨(fun k => if k = 21 then q7 else if k = 22 then q15 else if k = 23 then q22 else 0), rfl, trivial, by rw [ht]; exact hP9, hD9⟩, hS.F ht⟩) hS.2.2 dX4_init_40

set_option maxHeartbeats 8000000 in
set_option maxRecDepth 100000 in
theorem c_X0_init (l : Launch) (D : va_G) (cI cL : ClassId) (h0 sz : Nat) : Met l yX0_init wsX0_init { frames := 2, cells := 23, slots := 10620, locals := 44 } (va_Pc [.ref h0] (fun U => U.heap.size = sz ∧ am_M nwL vwCl D (fun _ => True) [(h0, .inr (0, [.null, .null, .null, .null]))] [(cI, .int), (cL, .long)] U)) (va_Qv (fun (u : Nat → Nat) => u 0 = h0) (fun u t => va_P D vwCl (ac_w u cI cL (fun _ => 0) (fun _ => 0) ac_ai0 ac_al0) t.heap ∧ va_D (va_A [(h0, .inr (0, [.null, .null, .null, .null]))] sz) (ac_w u cI cL (fun _ => 0) (fun _ => 0) ac_ai0 ac_al0)) (va_A [(h0, .inr (0, [.null, .null, .null, .null]))] sz)) 23 10620 (va_A [(h0, .inr (0, [.null, .null, .null, .null]))] sz) := by
  refine Met.ofW (cc := cX0_init) (maxL := 1) (ret := none) (by decide) rfl ?_
  intro p e s m args below meth c s₁ B hml hv
  obtain ⟨rfl, hsz, hP, hK, hN, hD0⟩ := hv
  have hx := B.exec
  have hb := B.bytes
  have hr := B.returns
  have hts := atoms_spec (ws := wsX0_init) B.pre
  have hown : s.vm.findClass RX0 = some m.cls := findClass_of_methodNamed B.named
  have hlocks := B.notSynchronized
  have hin9 : meth.name = "<init>" := (name_of_methodNamed B.named B.method).1
  subst hsz
  have hD := hD0.self (sz := s.heap.size)
  generalize hAe : va_A [(h0, .inr (0, [.null, .null, .null, .null]))] s.heap.size = A at hD ⊢
  have hA : ∀ q : Nat, s.heap.size ≤ q → A q := fun q h => by rw [← hAe]; exact Or.inr h
  have hS : va_S A s.heap s.heap [] := va_S.rf
  have hl := lv_entry ([.ref h0]) (n := 1) (Nat.le_of_ble_eq_true rfl)
  rw [lg_entry_eq]
  generalize (lg_sl ([.ref h0]) ++ List.replicate (1 - (lg_sl ([.ref h0])).length) Slot.unset).toArray = ls at hl ⊢
  have hl : lv_has ls 1 [(0, .ref h0)] := hl
  have ht := am_ht hts
  have hin_X0 : ∀ w ∈ u_ws RX0 TX0 4, w ∈ wsX0_init := fun w h => List.mem_cons_of_mem _ (am_inX0 w h)
  have hin_X3 : ∀ w ∈ u_ws RX3 TX3 8, w ∈ wsX0_init := fun w h => List.mem_cons_of_mem _ (am_inX3 w h)
  have hin_X4 : ∀ w ∈ u_ws RX4 TX4 8, w ∈ wsX0_init := fun w h => List.mem_cons_of_mem _ (am_inX4 w h)
  have hin_X2 : ∀ w ∈ u_ws RX2 TX2 4, w ∈ wsX0_init := fun w h => List.mem_cons_of_mem _ (am_inX2 w h)
  have hin_X1 : ∀ w ∈ u_ws RX1 TX1 14, w ∈ wsX0_init := fun w h => List.mem_cons_of_mem _ (am_inX1 w h)
  have hf_12 := ht 170 (.fieldLink RX0 12 "ApartCost" "product" "LApartCost$Product;") rfl
  have hf_21 := ht 171 (.fieldLink RX0 21 "ApartCost" "planner" "LApartCost$Planner;") rfl
  have hf_28 := ht 172 (.fieldLink RX0 28 "ApartCost" "found" "LApartCost$Found;") rfl
  have hf_35 := ht 173 (.fieldLink RX0 35 "ApartCost" "line" "LApartCost$Line;") rfl
  refine lv_aload_n hx hb dX0_init_0 rfl (lv_at hl 0 rfl) ?_
  refine W.objInit hx hb hown (ht 43 _ rfl) (ht 44 _ rfl) (ht 45 _ rfl) rfl (by rw [hml]; exact hl.1) rfl dX0_init_1 (Nat.le_of_ble_eq_true rfl) (Nat.le_of_ble_eq_true rfl) ?_
  refine W.eq (g2 := F0 m 4 ls []) rfl ?_
  refine lv_aload_n hx hb dX0_init_4 rfl (lv_at hl 0 rfl) ?_
  refine va_new (ci := 1) (fs := [.int 0, .null, .null, .null, .null, .null, .int 0, .null, .null, .null, .null, .int 0, .null, .null]) (C := RX1) (T := TX1) (N := 14) hx hb hts hin_X1 tyX1 tyX1_ok hown (ht 46 _ rfl) (ht 47 _ rfl) (ht 30 _ rfl) hK hP hD hS hA rfl (fun j hj => by rcases (show j = 0 ∨ j = 1 ∨ j = 2 ∨ j = 3 ∨ j = 4 ∨ j = 5 ∨ j = 6 ∨ j = 7 ∨ j = 8 ∨ j = 9 ∨ j = 10 ∨ j = 11 ∨ j = 12 ∨ j = 13 by omega) with rfl | rfl | rfl | rfl | rfl | rfl | rfl | rfl | rfl | rfl | rfl | rfl | rfl | rfl <;> rfl) (Nat.le_of_ble_eq_true rfl) (Nat.le_of_ble_eq_true rfl) dX0_init_5 (fun q5 H hP hD hS => ?_)
  have hP : va_P D vwCl [(h0, .inr (0, [.null, .null, .null, .null])), (q5, .inr (1, [.int 0, .null, .null, .null, .null, .null, .int 0, .null, .null, .null, .null, .int 0, .null, .null]))] H := hP
  have hD : va_D A [(h0, .inr (0, [.null, .null, .null, .null])), (q5, .inr (1, [.int 0, .null, .null, .null, .null, .null, .int 0, .null, .null, .null, .null, .int 0, .null, .null]))] := hD
  refine W.widen (k := 1) (n := 14) (by omega) (by omega) ?_
  refine lv_dup hx hb dX0_init_8 rfl ?_
  have hPc := hP.sub (ws' := [(q5, .inr (1, [.int 0, .null, .null, .null, .null, .null, .int 0, .null, .null, .null, .null, .int 0, .null, .null]))]) [1] rfl
  have hDc := hD.sub (ws' := [(q5, .inr (1, [.int 0, .null, .null, .null, .null, .null, .int 0, .null, .null, .null, .null, .int 0, .null, .null]))]) [1] (by decide) rfl
  have hFc := va_free (wc := [(q5, .inr (1, [.int 0, .null, .null, .null, .null, .null, .int 0, .null, .null, .null, .null, .int 0, .null, .null]))]) hD hS hA [1] rfl
  refine va_callv (va_runI (As := []) (rest := [.ref q5, .ref h0]) ⟨hx, hb, hml, hown, hts⟩ (c_X1_init l D cI cL q5 H.size) (cwI 0 hts (am_gN (am_in 50 rfl)) rfl rfl rfl (ht 30 _ rfl) (ht 48 _ rfl) (ht 49 _ rfl) rfl (by decide +kernel) ⟨Nat.le_of_ble_eq_true rfl, Nat.le_of_ble_eq_true rfl⟩) ⟨am_blindC, fun U hU hW => ⟨rfl, by rw [hU], by rw [hU]; exact hPc, va_K.moved hW.alike hK, am_nw_warm hW hN, hDc.weaken (fun _ _ _ _ => trivial)⟩⟩ rfl rfl hl.1 rfl (lv_room (Nat.le_of_ble_eq_true rfl)) dX0_init_9 ⟨Nat.le_of_ble_eq_true rfl, Nat.le_of_ble_eq_true rfl⟩) hS (fun q _ h => hFc q h) hFc (fun u9 t H1 locs ht9 hvm hw hB hz1 hk1 hS => ?_)
  obtain ⟨hP1, hD1⟩ := hB
  rw [ht9] at hP1
  obtain ⟨hP, hD⟩ := va_join (wr := [(h0, .inr (0, [.null, .null, .null, .null]))]) (w1 := [(q5, .inr (1, [.int 0, .ref (u9 5), .ref (u9 6), .ref (u9 7), .ref (u9 8), .ref (u9 9), .int 0, .ref (u9 10), .ref (u9 11), .ref (u9 12), .ref (u9 13), .int 0, .ref (u9 14), .ref (u9 15)])), ((u9 5), .inl (cI, 10, .inl (fun _ => 0))), ((u9 6), .inl (cI, 10, .inl (fun _ => 0))), ((u9 7), .inl (cI, 10, .inl (fun _ => 0))), ((u9 8), .inl (cL, 10, .inr (.inl (fun _ => 0)))), ((u9 9), .inl (cI, 10, .inl (fun _ => 0))), ((u9 10), .inl (cL, 36, .inr (.inl (fun _ => 0)))), ((u9 11), .inl (cL, 36, .inr (.inl (fun _ => 0)))), ((u9 12), .inl (cL, 12, .inr (.inl (fun _ => 0)))), ((u9 13), .inl (cL, 12, .inr (.inl (ac_fillL 27720 (fun _ => 0) 12)))), ((u9 14), .inl (cI, 16, .inl (fun _ => 0))), ((u9 15), .inl (cL, 16, .inr (.inl (fun _ => 0))))]) hP hD [1] [0] rfl rfl (by decide) (by decide) hk1 hFc hP1 hD1
  generalize H1 = H at hP hS ⊢
  have hP : va_P D vwCl [(h0, .inr (0, [.null, .null, .null, .null])), (q5, .inr (1, [.int 0, .ref (u9 5), .ref (u9 6), .ref (u9 7), .ref (u9 8), .ref (u9 9), .int 0, .ref (u9 10), .ref (u9 11), .ref (u9 12), .ref (u9 13), .int 0, .ref (u9 14), .ref (u9 15)])), ((u9 5), .inl (cI, 10, .inl (fun _ => 0))), ((u9 6), .inl (cI, 10, .inl (fun _ => 0))), ((u9 7), .inl (cI, 10, .inl (fun _ => 0))), ((u9 8), .inl (cL, 10, .inr (.inl (fun _ => 0)))), ((u9 9), .inl (cI, 10, .inl (fun _ => 0))), ((u9 10), .inl (cL, 36, .inr (.inl (fun _ => 0)))), ((u9 11), .inl (cL, 36, .inr (.inl (fun _ => 0)))), ((u9 12), .inl (cL, 12, .inr (.inl (fun _ => 0)))), ((u9 13), .inl (cL, 12, .inr (.inl (ac_fillL 27720 (fun _ => 0) 12)))), ((u9 14), .inl (cI, 16, .inl (fun _ => 0))), ((u9 15), .inl (cL, 16, .inr (.inl (fun _ => 0))))] H := hP
  have hD : va_D A [(h0, .inr (0, [.null, .null, .null, .null])), (q5, .inr (1, [.int 0, .ref (u9 5), .ref (u9 6), .ref (u9 7), .ref (u9 8), .ref (u9 9), .int 0, .ref (u9 10), .ref (u9 11), .ref (u9 12), .ref (u9 13), .int 0, .ref (u9 14), .ref (u9 15)])), ((u9 5), .inl (cI, 10, .inl (fun _ => 0))), ((u9 6), .inl (cI, 10, .inl (fun _ => 0))), ((u9 7), .inl (cI, 10, .inl (fun _ => 0))), ((u9 8), .inl (cL, 10, .inr (.inl (fun _ => 0)))), ((u9 9), .inl (cI, 10, .inl (fun _ => 0))), ((u9 10), .inl (cL, 36, .inr (.inl (fun _ => 0)))), ((u9 11), .inl (cL, 36, .inr (.inl (fun _ => 0)))), ((u9 12), .inl (cL, 12, .inr (.inl (fun _ => 0)))), ((u9 13), .inl (cL, 12, .inr (.inl (ac_fillL 27720 (fun _ => 0) 12)))), ((u9 14), .inl (cI, 16, .inl (fun _ => 0))), ((u9 15), .inl (cL, 16, .inr (.inl (fun _ => 0))))] := hD
  refine W.widen (k := 12) (n := 192) (by omega) (by omega) ?_
  refine va_putF (D := D) (ci := 0) (v := .ref q5) (ty := .object "ApartCost$Product") (C := RX0) (T := TX0) (N := 4) hx hb hts hin_X0 tyX0 tyX0_ok nmX0 hown hK hP hD hS 0 rfl rfl 0 (by decide) hf_12 (fun _ h9 => h9) rfl hin9 rfl (by decide +kernel) rfl rfl (Nat.le_of_ble_eq_true rfl) dX0_init_12 (fun H locs hP hD hS => ?_)
  have hP : va_P D vwCl [(h0, .inr (0, [.ref q5, .null, .null, .null])), (q5, .inr (1, [.int 0, .ref (u9 5), .ref (u9 6), .ref (u9 7), .ref (u9 8), .ref (u9 9), .int 0, .ref (u9 10), .ref (u9 11), .ref (u9 12), .ref (u9 13), .int 0, .ref (u9 14), .ref (u9 15)])), ((u9 5), .inl (cI, 10, .inl (fun _ => 0))), ((u9 6), .inl (cI, 10, .inl (fun _ => 0))), ((u9 7), .inl (cI, 10, .inl (fun _ => 0))), ((u9 8), .inl (cL, 10, .inr (.inl (fun _ => 0)))), ((u9 9), .inl (cI, 10, .inl (fun _ => 0))), ((u9 10), .inl (cL, 36, .inr (.inl (fun _ => 0)))), ((u9 11), .inl (cL, 36, .inr (.inl (fun _ => 0)))), ((u9 12), .inl (cL, 12, .inr (.inl (fun _ => 0)))), ((u9 13), .inl (cL, 12, .inr (.inl (ac_fillL 27720 (fun _ => 0) 12)))), ((u9 14), .inl (cI, 16, .inl (fun _ => 0))), ((u9 15), .inl (cL, 16, .inr (.inl (fun _ => 0))))] H := hP
  have hD : va_D A [(h0, .inr (0, [.ref q5, .null, .null, .null])), (q5, .inr (1, [.int 0, .ref (u9 5), .ref (u9 6), .ref (u9 7), .ref (u9 8), .ref (u9 9), .int 0, .ref (u9 10), .ref (u9 11), .ref (u9 12), .ref (u9 13), .int 0, .ref (u9 14), .ref (u9 15)])), ((u9 5), .inl (cI, 10, .inl (fun _ => 0))), ((u9 6), .inl (cI, 10, .inl (fun _ => 0))), ((u9 7), .inl (cI, 10, .inl (fun _ => 0))), ((u9 8), .inl (cL, 10, .inr (.inl (fun _ => 0)))), ((u9 9), .inl (cI, 10, .inl (fun _ => 0))), ((u9 10), .inl (cL, 36, .inr (.inl (fun _ => 0)))), ((u9 11), .inl (cL, 36, .inr (.inl (fun _ => 0)))), ((u9 12), .inl (cL, 12, .inr (.inl (fun _ => 0)))), ((u9 13), .inl (cL, 12, .inr (.inl (ac_fillL 27720 (fun _ => 0) 12)))), ((u9 14), .inl (cI, 16, .inl (fun _ => 0))), ((u9 15), .inl (cL, 16, .inr (.inl (fun _ => 0))))] := hD
  refine lv_aload_n hx hb dX0_init_15 rfl (lv_at hl 0 rfl) ?_
  refine va_new (ci := 2) (fs := [.null, .null, .null, .null]) (C := RX2) (T := TX2) (N := 4) hx hb hts hin_X2 tyX2 tyX2_ok hown (ht 100 _ rfl) (ht 101 _ rfl) (ht 32 _ rfl) hK hP hD hS hA rfl (fun j hj => by rcases (show j = 0 ∨ j = 1 ∨ j = 2 ∨ j = 3 by omega) with rfl | rfl | rfl | rfl <;> rfl) (Nat.le_of_ble_eq_true rfl) (Nat.le_of_ble_eq_true rfl) dX0_init_16 (fun q16 H hP hD hS => ?_)
  have hP : va_P D vwCl [(h0, .inr (0, [.ref q5, .null, .null, .null])), (q5, .inr (1, [.int 0, .ref (u9 5), .ref (u9 6), .ref (u9 7), .ref (u9 8), .ref (u9 9), .int 0, .ref (u9 10), .ref (u9 11), .ref (u9 12), .ref (u9 13), .int 0, .ref (u9 14), .ref (u9 15)])), ((u9 5), .inl (cI, 10, .inl (fun _ => 0))), ((u9 6), .inl (cI, 10, .inl (fun _ => 0))), ((u9 7), .inl (cI, 10, .inl (fun _ => 0))), ((u9 8), .inl (cL, 10, .inr (.inl (fun _ => 0)))), ((u9 9), .inl (cI, 10, .inl (fun _ => 0))), ((u9 10), .inl (cL, 36, .inr (.inl (fun _ => 0)))), ((u9 11), .inl (cL, 36, .inr (.inl (fun _ => 0)))), ((u9 12), .inl (cL, 12, .inr (.inl (fun _ => 0)))), ((u9 13), .inl (cL, 12, .inr (.inl (ac_fillL 27720 (fun _ => 0) 12)))), ((u9 14), .inl (cI, 16, .inl (fun _ => 0))), ((u9 15), .inl (cL, 16, .inr (.inl (fun _ => 0)))), (q16, .inr (2, [.null, .null, .null, .null]))] H := hP
  have hD : va_D A [(h0, .inr (0, [.ref q5, .null, .null, .null])), (q5, .inr (1, [.int 0, .ref (u9 5), .ref (u9 6), .ref (u9 7), .ref (u9 8), .ref (u9 9), .int 0, .ref (u9 10), .ref (u9 11), .ref (u9 12), .ref (u9 13), .int 0, .ref (u9 14), .ref (u9 15)])), ((u9 5), .inl (cI, 10, .inl (fun _ => 0))), ((u9 6), .inl (cI, 10, .inl (fun _ => 0))), ((u9 7), .inl (cI, 10, .inl (fun _ => 0))), ((u9 8), .inl (cL, 10, .inr (.inl (fun _ => 0)))), ((u9 9), .inl (cI, 10, .inl (fun _ => 0))), ((u9 10), .inl (cL, 36, .inr (.inl (fun _ => 0)))), ((u9 11), .inl (cL, 36, .inr (.inl (fun _ => 0)))), ((u9 12), .inl (cL, 12, .inr (.inl (fun _ => 0)))), ((u9 13), .inl (cL, 12, .inr (.inl (ac_fillL 27720 (fun _ => 0) 12)))), ((u9 14), .inl (cI, 16, .inl (fun _ => 0))), ((u9 15), .inl (cL, 16, .inr (.inl (fun _ => 0)))), (q16, .inr (2, [.null, .null, .null, .null]))] := hD
  refine W.widen (k := 13) (n := 196) (by omega) (by omega) ?_
  refine lv_dup hx hb dX0_init_19 rfl ?_
  refine lv_aload_n hx hb dX0_init_20 rfl (lv_at hl 0 rfl) ?_
  refine va_get (D := D) (ci := 0) (v := .ref q5) (C := RX0) (T := TX0) (N := 4) hx hb hts hin_X0 hown hK hP 0 rfl rfl 0 (by decide) hf_12 (fun _ h9 => h9) rfl dX0_init_21 ?_
  have hPc := hP.sub (ws' := [(q16, .inr (2, [.null, .null, .null, .null]))]) [13] rfl
  have hDc := hD.sub (ws' := [(q16, .inr (2, [.null, .null, .null, .null]))]) [13] (by decide) rfl
  have hFc := va_free (wc := [(q16, .inr (2, [.null, .null, .null, .null]))]) hD hS hA [13] rfl
  refine va_callv (va_runI (As := [.ref q5]) (rest := [.ref q16, .ref h0]) ⟨hx, hb, hml, hown, hts⟩ (c_X2_init l D cI cL q16 H.size q5) (cwI 1 hts (am_gN (am_in 104 rfl)) rfl rfl rfl (ht 32 _ rfl) (ht 102 _ rfl) (ht 103 _ rfl) rfl (by decide +kernel) ⟨Nat.le_of_ble_eq_true rfl, Nat.le_of_ble_eq_true rfl⟩) ⟨am_blindC, fun U hU hW => ⟨rfl, by rw [hU], by rw [hU]; exact hPc, va_K.moved hW.alike hK, am_nw_warm hW hN, hDc.weaken (fun _ _ _ _ => trivial)⟩⟩ rfl rfl hl.1 rfl (lv_room (Nat.le_of_ble_eq_true rfl)) dX0_init_24 ⟨Nat.le_of_ble_eq_true rfl, Nat.le_of_ble_eq_true rfl⟩) hS (fun q _ h => hFc q h) hFc (fun u24 t H1 locs ht9 hvm hw hB hz1 hk1 hS => ?_)
  obtain ⟨hP1, hD1⟩ := hB
  rw [ht9] at hP1
  obtain ⟨hP, hD⟩ := va_join (wr := [(h0, .inr (0, [.ref q5, .null, .null, .null])), (q5, .inr (1, [.int 0, .ref (u9 5), .ref (u9 6), .ref (u9 7), .ref (u9 8), .ref (u9 9), .int 0, .ref (u9 10), .ref (u9 11), .ref (u9 12), .ref (u9 13), .int 0, .ref (u9 14), .ref (u9 15)])), ((u9 5), .inl (cI, 10, .inl (fun _ => 0))), ((u9 6), .inl (cI, 10, .inl (fun _ => 0))), ((u9 7), .inl (cI, 10, .inl (fun _ => 0))), ((u9 8), .inl (cL, 10, .inr (.inl (fun _ => 0)))), ((u9 9), .inl (cI, 10, .inl (fun _ => 0))), ((u9 10), .inl (cL, 36, .inr (.inl (fun _ => 0)))), ((u9 11), .inl (cL, 36, .inr (.inl (fun _ => 0)))), ((u9 12), .inl (cL, 12, .inr (.inl (fun _ => 0)))), ((u9 13), .inl (cL, 12, .inr (.inl (ac_fillL 27720 (fun _ => 0) 12)))), ((u9 14), .inl (cI, 16, .inl (fun _ => 0))), ((u9 15), .inl (cL, 16, .inr (.inl (fun _ => 0))))]) (w1 := [(q16, .inr (2, [.ref q5, .ref (u24 16), .ref (u24 17), .ref (u24 18)])), ((u24 16), .inl (cL, 12, .inr (.inl (fun _ => 0)))), ((u24 17), .inl (cL, 110, .inr (.inl (fun _ => 0)))), ((u24 18), .inl (cL, 10240, .inr (.inl (fun _ => 0))))]) hP hD [13] [0, 1, 2, 3, 4, 5, 6, 7, 8, 9, 10, 11, 12] rfl rfl (by decide) (by decide) hk1 hFc hP1 hD1
  generalize H1 = H at hP hS ⊢
  have hP : va_P D vwCl [(h0, .inr (0, [.ref q5, .null, .null, .null])), (q5, .inr (1, [.int 0, .ref (u9 5), .ref (u9 6), .ref (u9 7), .ref (u9 8), .ref (u9 9), .int 0, .ref (u9 10), .ref (u9 11), .ref (u9 12), .ref (u9 13), .int 0, .ref (u9 14), .ref (u9 15)])), ((u9 5), .inl (cI, 10, .inl (fun _ => 0))), ((u9 6), .inl (cI, 10, .inl (fun _ => 0))), ((u9 7), .inl (cI, 10, .inl (fun _ => 0))), ((u9 8), .inl (cL, 10, .inr (.inl (fun _ => 0)))), ((u9 9), .inl (cI, 10, .inl (fun _ => 0))), ((u9 10), .inl (cL, 36, .inr (.inl (fun _ => 0)))), ((u9 11), .inl (cL, 36, .inr (.inl (fun _ => 0)))), ((u9 12), .inl (cL, 12, .inr (.inl (fun _ => 0)))), ((u9 13), .inl (cL, 12, .inr (.inl (ac_fillL 27720 (fun _ => 0) 12)))), ((u9 14), .inl (cI, 16, .inl (fun _ => 0))), ((u9 15), .inl (cL, 16, .inr (.inl (fun _ => 0)))), (q16, .inr (2, [.ref q5, .ref (u24 16), .ref (u24 17), .ref (u24 18)])), ((u24 16), .inl (cL, 12, .inr (.inl (fun _ => 0)))), ((u24 17), .inl (cL, 110, .inr (.inl (fun _ => 0)))), ((u24 18), .inl (cL, 10240, .inr (.inl (fun _ => 0))))] H := hP
  have hD : va_D A [(h0, .inr (0, [.ref q5, .null, .null, .null])), (q5, .inr (1, [.int 0, .ref (u9 5), .ref (u9 6), .ref (u9 7), .ref (u9 8), .ref (u9 9), .int 0, .ref (u9 10), .ref (u9 11), .ref (u9 12), .ref (u9 13), .int 0, .ref (u9 14), .ref (u9 15)])), ((u9 5), .inl (cI, 10, .inl (fun _ => 0))), ((u9 6), .inl (cI, 10, .inl (fun _ => 0))), ((u9 7), .inl (cI, 10, .inl (fun _ => 0))), ((u9 8), .inl (cL, 10, .inr (.inl (fun _ => 0)))), ((u9 9), .inl (cI, 10, .inl (fun _ => 0))), ((u9 10), .inl (cL, 36, .inr (.inl (fun _ => 0)))), ((u9 11), .inl (cL, 36, .inr (.inl (fun _ => 0)))), ((u9 12), .inl (cL, 12, .inr (.inl (fun _ => 0)))), ((u9 13), .inl (cL, 12, .inr (.inl (ac_fillL 27720 (fun _ => 0) 12)))), ((u9 14), .inl (cI, 16, .inl (fun _ => 0))), ((u9 15), .inl (cL, 16, .inr (.inl (fun _ => 0)))), (q16, .inr (2, [.ref q5, .ref (u24 16), .ref (u24 17), .ref (u24 18)])), ((u24 16), .inl (cL, 12, .inr (.inl (fun _ => 0)))), ((u24 17), .inl (cL, 110, .inr (.inl (fun _ => 0)))), ((u24 18), .inl (cL, 10240, .inr (.inl (fun _ => 0))))] := hD
  refine W.widen (k := 16) (n := 10558) (by omega) (by omega) ?_
  refine va_putF (D := D) (ci := 0) (v := .ref q16) (ty := .object "ApartCost$Planner") (C := RX0) (T := TX0) (N := 4) hx hb hts hin_X0 tyX0 tyX0_ok nmX0 hown hK hP hD hS 0 rfl rfl 1 (by decide) hf_21 (fun _ h9 => h9) rfl hin9 rfl (by decide +kernel) rfl rfl (Nat.le_of_ble_eq_true rfl) dX0_init_27 (fun H locs hP hD hS => ?_)
  have hP : va_P D vwCl [(h0, .inr (0, [.ref q5, .ref q16, .null, .null])), (q5, .inr (1, [.int 0, .ref (u9 5), .ref (u9 6), .ref (u9 7), .ref (u9 8), .ref (u9 9), .int 0, .ref (u9 10), .ref (u9 11), .ref (u9 12), .ref (u9 13), .int 0, .ref (u9 14), .ref (u9 15)])), ((u9 5), .inl (cI, 10, .inl (fun _ => 0))), ((u9 6), .inl (cI, 10, .inl (fun _ => 0))), ((u9 7), .inl (cI, 10, .inl (fun _ => 0))), ((u9 8), .inl (cL, 10, .inr (.inl (fun _ => 0)))), ((u9 9), .inl (cI, 10, .inl (fun _ => 0))), ((u9 10), .inl (cL, 36, .inr (.inl (fun _ => 0)))), ((u9 11), .inl (cL, 36, .inr (.inl (fun _ => 0)))), ((u9 12), .inl (cL, 12, .inr (.inl (fun _ => 0)))), ((u9 13), .inl (cL, 12, .inr (.inl (ac_fillL 27720 (fun _ => 0) 12)))), ((u9 14), .inl (cI, 16, .inl (fun _ => 0))), ((u9 15), .inl (cL, 16, .inr (.inl (fun _ => 0)))), (q16, .inr (2, [.ref q5, .ref (u24 16), .ref (u24 17), .ref (u24 18)])), ((u24 16), .inl (cL, 12, .inr (.inl (fun _ => 0)))), ((u24 17), .inl (cL, 110, .inr (.inl (fun _ => 0)))), ((u24 18), .inl (cL, 10240, .inr (.inl (fun _ => 0))))] H := hP
  have hD : va_D A [(h0, .inr (0, [.ref q5, .ref q16, .null, .null])), (q5, .inr (1, [.int 0, .ref (u9 5), .ref (u9 6), .ref (u9 7), .ref (u9 8), .ref (u9 9), .int 0, .ref (u9 10), .ref (u9 11), .ref (u9 12), .ref (u9 13), .int 0, .ref (u9 14), .ref (u9 15)])), ((u9 5), .inl (cI, 10, .inl (fun _ => 0))), ((u9 6), .inl (cI, 10, .inl (fun _ => 0))), ((u9 7), .inl (cI, 10, .inl (fun _ => 0))), ((u9 8), .inl (cL, 10, .inr (.inl (fun _ => 0)))), ((u9 9), .inl (cI, 10, .inl (fun _ => 0))), ((u9 10), .inl (cL, 36, .inr (.inl (fun _ => 0)))), ((u9 11), .inl (cL, 36, .inr (.inl (fun _ => 0)))), ((u9 12), .inl (cL, 12, .inr (.inl (fun _ => 0)))), ((u9 13), .inl (cL, 12, .inr (.inl (ac_fillL 27720 (fun _ => 0) 12)))), ((u9 14), .inl (cI, 16, .inl (fun _ => 0))), ((u9 15), .inl (cL, 16, .inr (.inl (fun _ => 0)))), (q16, .inr (2, [.ref q5, .ref (u24 16), .ref (u24 17), .ref (u24 18)])), ((u24 16), .inl (cL, 12, .inr (.inl (fun _ => 0)))), ((u24 17), .inl (cL, 110, .inr (.inl (fun _ => 0)))), ((u24 18), .inl (cL, 10240, .inr (.inl (fun _ => 0))))] := hD
  refine lv_aload_n hx hb dX0_init_30 rfl (lv_at hl 0 rfl) ?_
  refine va_new (ci := 3) (fs := [.int 0, .int 0, .int 0, .int 0, .int 0, .long 0, .null, .null]) (C := RX3) (T := TX3) (N := 8) hx hb hts hin_X3 tyX3 tyX3_ok hown (ht 116 _ rfl) (ht 117 _ rfl) (ht 33 _ rfl) hK hP hD hS hA rfl (fun j hj => by rcases (show j = 0 ∨ j = 1 ∨ j = 2 ∨ j = 3 ∨ j = 4 ∨ j = 5 ∨ j = 6 ∨ j = 7 by omega) with rfl | rfl | rfl | rfl | rfl | rfl | rfl | rfl <;> rfl) (Nat.le_of_ble_eq_true rfl) (Nat.le_of_ble_eq_true rfl) dX0_init_31 (fun q31 H hP hD hS => ?_)
  have hP : va_P D vwCl [(h0, .inr (0, [.ref q5, .ref q16, .null, .null])), (q5, .inr (1, [.int 0, .ref (u9 5), .ref (u9 6), .ref (u9 7), .ref (u9 8), .ref (u9 9), .int 0, .ref (u9 10), .ref (u9 11), .ref (u9 12), .ref (u9 13), .int 0, .ref (u9 14), .ref (u9 15)])), ((u9 5), .inl (cI, 10, .inl (fun _ => 0))), ((u9 6), .inl (cI, 10, .inl (fun _ => 0))), ((u9 7), .inl (cI, 10, .inl (fun _ => 0))), ((u9 8), .inl (cL, 10, .inr (.inl (fun _ => 0)))), ((u9 9), .inl (cI, 10, .inl (fun _ => 0))), ((u9 10), .inl (cL, 36, .inr (.inl (fun _ => 0)))), ((u9 11), .inl (cL, 36, .inr (.inl (fun _ => 0)))), ((u9 12), .inl (cL, 12, .inr (.inl (fun _ => 0)))), ((u9 13), .inl (cL, 12, .inr (.inl (ac_fillL 27720 (fun _ => 0) 12)))), ((u9 14), .inl (cI, 16, .inl (fun _ => 0))), ((u9 15), .inl (cL, 16, .inr (.inl (fun _ => 0)))), (q16, .inr (2, [.ref q5, .ref (u24 16), .ref (u24 17), .ref (u24 18)])), ((u24 16), .inl (cL, 12, .inr (.inl (fun _ => 0)))), ((u24 17), .inl (cL, 110, .inr (.inl (fun _ => 0)))), ((u24 18), .inl (cL, 10240, .inr (.inl (fun _ => 0)))), (q31, .inr (3, [.int 0, .int 0, .int 0, .int 0, .int 0, .long 0, .null, .null]))] H := hP
  have hD : va_D A [(h0, .inr (0, [.ref q5, .ref q16, .null, .null])), (q5, .inr (1, [.int 0, .ref (u9 5), .ref (u9 6), .ref (u9 7), .ref (u9 8), .ref (u9 9), .int 0, .ref (u9 10), .ref (u9 11), .ref (u9 12), .ref (u9 13), .int 0, .ref (u9 14), .ref (u9 15)])), ((u9 5), .inl (cI, 10, .inl (fun _ => 0))), ((u9 6), .inl (cI, 10, .inl (fun _ => 0))), ((u9 7), .inl (cI, 10, .inl (fun _ => 0))), ((u9 8), .inl (cL, 10, .inr (.inl (fun _ => 0)))), ((u9 9), .inl (cI, 10, .inl (fun _ => 0))), ((u9 10), .inl (cL, 36, .inr (.inl (fun _ => 0)))), ((u9 11), .inl (cL, 36, .inr (.inl (fun _ => 0)))), ((u9 12), .inl (cL, 12, .inr (.inl (fun _ => 0)))), ((u9 13), .inl (cL, 12, .inr (.inl (ac_fillL 27720 (fun _ => 0) 12)))), ((u9 14), .inl (cI, 16, .inl (fun _ => 0))), ((u9 15), .inl (cL, 16, .inr (.inl (fun _ => 0)))), (q16, .inr (2, [.ref q5, .ref (u24 16), .ref (u24 17), .ref (u24 18)])), ((u24 16), .inl (cL, 12, .inr (.inl (fun _ => 0)))), ((u24 17), .inl (cL, 110, .inr (.inl (fun _ => 0)))), ((u24 18), .inl (cL, 10240, .inr (.inl (fun _ => 0)))), (q31, .inr (3, [.int 0, .int 0, .int 0, .int 0, .int 0, .long 0, .null, .null]))] := hD
  refine W.widen (k := 17) (n := 10566) (by omega) (by omega) ?_
  refine lv_dup hx hb dX0_init_34 rfl ?_
  have hPc := hP.sub (ws' := [(q31, .inr (3, [.int 0, .int 0, .int 0, .int 0, .int 0, .long 0, .null, .null]))]) [17] rfl
  have hDc := hD.sub (ws' := [(q31, .inr (3, [.int 0, .int 0, .int 0, .int 0, .int 0, .long 0, .null, .null]))]) [17] (by decide) rfl
  have hFc := va_free (wc := [(q31, .inr (3, [.int 0, .int 0, .int 0, .int 0, .int 0, .long 0, .null, .null]))]) hD hS hA [17] rfl
  refine va_callv (va_runIN (As := []) (rest := [.ref q31, .ref h0]) ⟨hx, hb, hml, hown, hts⟩ (c_X3_init l D cI cL q31 H.size) ⟨va_cnB 0 hts (am_gN (am_in 119 rfl)) rfl rfl rfl (am_nw_at hN 0 rfl) (ht 33 _ rfl) (by decide +kernel) ⟨Nat.le_of_ble_eq_true rfl, Nat.le_of_ble_eq_true rfl⟩, rfl, (ht 118 _ rfl)⟩ ⟨am_blindC, fun U hU hW => ⟨rfl, by rw [hU], by rw [hU]; exact hPc, va_K.moved hW.alike hK, am_nw_warm hW hN, hDc.weaken (fun _ _ _ _ => trivial)⟩⟩ rfl rfl hl.1 rfl (lv_room (Nat.le_of_ble_eq_true rfl)) dX0_init_35 ⟨Nat.le_of_ble_eq_true rfl, Nat.le_of_ble_eq_true rfl⟩) hS (fun q _ h => hFc q h) hFc (fun u35 t H1 locs ht9 hvm hw hB hz1 hk1 hS => ?_)
  obtain ⟨hP1, hD1⟩ := hB
  rw [ht9] at hP1
  obtain ⟨hP, hD⟩ := va_join (wr := [(h0, .inr (0, [.ref q5, .ref q16, .null, .null])), (q5, .inr (1, [.int 0, .ref (u9 5), .ref (u9 6), .ref (u9 7), .ref (u9 8), .ref (u9 9), .int 0, .ref (u9 10), .ref (u9 11), .ref (u9 12), .ref (u9 13), .int 0, .ref (u9 14), .ref (u9 15)])), ((u9 5), .inl (cI, 10, .inl (fun _ => 0))), ((u9 6), .inl (cI, 10, .inl (fun _ => 0))), ((u9 7), .inl (cI, 10, .inl (fun _ => 0))), ((u9 8), .inl (cL, 10, .inr (.inl (fun _ => 0)))), ((u9 9), .inl (cI, 10, .inl (fun _ => 0))), ((u9 10), .inl (cL, 36, .inr (.inl (fun _ => 0)))), ((u9 11), .inl (cL, 36, .inr (.inl (fun _ => 0)))), ((u9 12), .inl (cL, 12, .inr (.inl (fun _ => 0)))), ((u9 13), .inl (cL, 12, .inr (.inl (ac_fillL 27720 (fun _ => 0) 12)))), ((u9 14), .inl (cI, 16, .inl (fun _ => 0))), ((u9 15), .inl (cL, 16, .inr (.inl (fun _ => 0)))), (q16, .inr (2, [.ref q5, .ref (u24 16), .ref (u24 17), .ref (u24 18)])), ((u24 16), .inl (cL, 12, .inr (.inl (fun _ => 0)))), ((u24 17), .inl (cL, 110, .inr (.inl (fun _ => 0)))), ((u24 18), .inl (cL, 10240, .inr (.inl (fun _ => 0))))]) (w1 := [(q31, .inr (3, [.int 0, .int 0, .int 0, .int 0, .int 0, .long 0, .ref (u35 19), .ref (u35 20)])), ((u35 19), .inl (cI, 10, .inl (fun _ => 0))), ((u35 20), .inl (cL, 12, .inr (.inl (fun _ => 0))))]) hP hD [17] [0, 1, 2, 3, 4, 5, 6, 7, 8, 9, 10, 11, 12, 13, 14, 15, 16] rfl rfl (by decide) (by decide) hk1 hFc hP1 hD1
  generalize H1 = H at hP hS ⊢
  have hP : va_P D vwCl [(h0, .inr (0, [.ref q5, .ref q16, .null, .null])), (q5, .inr (1, [.int 0, .ref (u9 5), .ref (u9 6), .ref (u9 7), .ref (u9 8), .ref (u9 9), .int 0, .ref (u9 10), .ref (u9 11), .ref (u9 12), .ref (u9 13), .int 0, .ref (u9 14), .ref (u9 15)])), ((u9 5), .inl (cI, 10, .inl (fun _ => 0))), ((u9 6), .inl (cI, 10, .inl (fun _ => 0))), ((u9 7), .inl (cI, 10, .inl (fun _ => 0))), ((u9 8), .inl (cL, 10, .inr (.inl (fun _ => 0)))), ((u9 9), .inl (cI, 10, .inl (fun _ => 0))), ((u9 10), .inl (cL, 36, .inr (.inl (fun _ => 0)))), ((u9 11), .inl (cL, 36, .inr (.inl (fun _ => 0)))), ((u9 12), .inl (cL, 12, .inr (.inl (fun _ => 0)))), ((u9 13), .inl (cL, 12, .inr (.inl (ac_fillL 27720 (fun _ => 0) 12)))), ((u9 14), .inl (cI, 16, .inl (fun _ => 0))), ((u9 15), .inl (cL, 16, .inr (.inl (fun _ => 0)))), (q16, .inr (2, [.ref q5, .ref (u24 16), .ref (u24 17), .ref (u24 18)])), ((u24 16), .inl (cL, 12, .inr (.inl (fun _ => 0)))), ((u24 17), .inl (cL, 110, .inr (.inl (fun _ => 0)))), ((u24 18), .inl (cL, 10240, .inr (.inl (fun _ => 0)))), (q31, .inr (3, [.int 0, .int 0, .int 0, .int 0, .int 0, .long 0, .ref (u35 19), .ref (u35 20)])), ((u35 19), .inl (cI, 10, .inl (fun _ => 0))), ((u35 20), .inl (cL, 12, .inr (.inl (fun _ => 0))))] H := hP
  have hD : va_D A [(h0, .inr (0, [.ref q5, .ref q16, .null, .null])), (q5, .inr (1, [.int 0, .ref (u9 5), .ref (u9 6), .ref (u9 7), .ref (u9 8), .ref (u9 9), .int 0, .ref (u9 10), .ref (u9 11), .ref (u9 12), .ref (u9 13), .int 0, .ref (u9 14), .ref (u9 15)])), ((u9 5), .inl (cI, 10, .inl (fun _ => 0))), ((u9 6), .inl (cI, 10, .inl (fun _ => 0))), ((u9 7), .inl (cI, 10, .inl (fun _ => 0))), ((u9 8), .inl (cL, 10, .inr (.inl (fun _ => 0)))), ((u9 9), .inl (cI, 10, .inl (fun _ => 0))), ((u9 10), .inl (cL, 36, .inr (.inl (fun _ => 0)))), ((u9 11), .inl (cL, 36, .inr (.inl (fun _ => 0)))), ((u9 12), .inl (cL, 12, .inr (.inl (fun _ => 0)))), ((u9 13), .inl (cL, 12, .inr (.inl (ac_fillL 27720 (fun _ => 0) 12)))), ((u9 14), .inl (cI, 16, .inl (fun _ => 0))), ((u9 15), .inl (cL, 16, .inr (.inl (fun _ => 0)))), (q16, .inr (2, [.ref q5, .ref (u24 16), .ref (u24 17), .ref (u24 18)])), ((u24 16), .inl (cL, 12, .inr (.inl (fun _ => 0)))), ((u24 17), .inl (cL, 110, .inr (.inl (fun _ => 0)))), ((u24 18), .inl (cL, 10240, .inr (.inl (fun _ => 0)))), (q31, .inr (3, [.int 0, .int 0, .int 0, .int 0, .int 0, .long 0, .ref (u35 19), .ref (u35 20)])), ((u35 19), .inl (cI, 10, .inl (fun _ => 0))), ((u35 20), .inl (cL, 12, .inr (.inl (fun _ => 0))))] := hD
  refine W.widen (k := 19) (n := 10588) (by omega) (by omega) ?_
  refine va_putF (D := D) (ci := 0) (v := .ref q31) (ty := .object "ApartCost$Found") (C := RX0) (T := TX0) (N := 4) hx hb hts hin_X0 tyX0 tyX0_ok nmX0 hown hK hP hD hS 0 rfl rfl 2 (by decide) hf_28 (fun _ h9 => h9) rfl hin9 rfl (by decide +kernel) rfl rfl (Nat.le_of_ble_eq_true rfl) dX0_init_38 (fun H locs hP hD hS => ?_)
  have hP : va_P D vwCl [(h0, .inr (0, [.ref q5, .ref q16, .ref q31, .null])), (q5, .inr (1, [.int 0, .ref (u9 5), .ref (u9 6), .ref (u9 7), .ref (u9 8), .ref (u9 9), .int 0, .ref (u9 10), .ref (u9 11), .ref (u9 12), .ref (u9 13), .int 0, .ref (u9 14), .ref (u9 15)])), ((u9 5), .inl (cI, 10, .inl (fun _ => 0))), ((u9 6), .inl (cI, 10, .inl (fun _ => 0))), ((u9 7), .inl (cI, 10, .inl (fun _ => 0))), ((u9 8), .inl (cL, 10, .inr (.inl (fun _ => 0)))), ((u9 9), .inl (cI, 10, .inl (fun _ => 0))), ((u9 10), .inl (cL, 36, .inr (.inl (fun _ => 0)))), ((u9 11), .inl (cL, 36, .inr (.inl (fun _ => 0)))), ((u9 12), .inl (cL, 12, .inr (.inl (fun _ => 0)))), ((u9 13), .inl (cL, 12, .inr (.inl (ac_fillL 27720 (fun _ => 0) 12)))), ((u9 14), .inl (cI, 16, .inl (fun _ => 0))), ((u9 15), .inl (cL, 16, .inr (.inl (fun _ => 0)))), (q16, .inr (2, [.ref q5, .ref (u24 16), .ref (u24 17), .ref (u24 18)])), ((u24 16), .inl (cL, 12, .inr (.inl (fun _ => 0)))), ((u24 17), .inl (cL, 110, .inr (.inl (fun _ => 0)))), ((u24 18), .inl (cL, 10240, .inr (.inl (fun _ => 0)))), (q31, .inr (3, [.int 0, .int 0, .int 0, .int 0, .int 0, .long 0, .ref (u35 19), .ref (u35 20)])), ((u35 19), .inl (cI, 10, .inl (fun _ => 0))), ((u35 20), .inl (cL, 12, .inr (.inl (fun _ => 0))))] H := hP
  have hD : va_D A [(h0, .inr (0, [.ref q5, .ref q16, .ref q31, .null])), (q5, .inr (1, [.int 0, .ref (u9 5), .ref (u9 6), .ref (u9 7), .ref (u9 8), .ref (u9 9), .int 0, .ref (u9 10), .ref (u9 11), .ref (u9 12), .ref (u9 13), .int 0, .ref (u9 14), .ref (u9 15)])), ((u9 5), .inl (cI, 10, .inl (fun _ => 0))), ((u9 6), .inl (cI, 10, .inl (fun _ => 0))), ((u9 7), .inl (cI, 10, .inl (fun _ => 0))), ((u9 8), .inl (cL, 10, .inr (.inl (fun _ => 0)))), ((u9 9), .inl (cI, 10, .inl (fun _ => 0))), ((u9 10), .inl (cL, 36, .inr (.inl (fun _ => 0)))), ((u9 11), .inl (cL, 36, .inr (.inl (fun _ => 0)))), ((u9 12), .inl (cL, 12, .inr (.inl (fun _ => 0)))), ((u9 13), .inl (cL, 12, .inr (.inl (ac_fillL 27720 (fun _ => 0) 12)))), ((u9 14), .inl (cI, 16, .inl (fun _ => 0))), ((u9 15), .inl (cL, 16, .inr (.inl (fun _ => 0)))), (q16, .inr (2, [.ref q5, .ref (u24 16), .ref (u24 17), .ref (u24 18)])), ((u24 16), .inl (cL, 12, .inr (.inl (fun _ => 0)))), ((u24 17), .inl (cL, 110, .inr (.inl (fun _ => 0)))), ((u24 18), .inl (cL, 10240, .inr (.inl (fun _ => 0)))), (q31, .inr (3, [.int 0, .int 0, .int 0, .int 0, .int 0, .long 0, .ref (u35 19), .ref (u35 20)])), ((u35 19), .inl (cI, 10, .inl (fun _ => 0))), ((u35 20), .inl (cL, 12, .inr (.inl (fun _ => 0))))] := hD
  refine lv_aload_n hx hb dX0_init_41 rfl (lv_at hl 0 rfl) ?_
  refine va_new (ci := 4) (fs := [.null, .null, .null, .null, .int 0, .int 0, .long 0, .long 0]) (C := RX4) (T := TX4) (N := 8) hx hb hts hin_X4 tyX4 tyX4_ok hown (ht 144 _ rfl) (ht 145 _ rfl) (ht 34 _ rfl) hK hP hD hS hA rfl (fun j hj => by rcases (show j = 0 ∨ j = 1 ∨ j = 2 ∨ j = 3 ∨ j = 4 ∨ j = 5 ∨ j = 6 ∨ j = 7 by omega) with rfl | rfl | rfl | rfl | rfl | rfl | rfl | rfl <;> rfl) (Nat.le_of_ble_eq_true rfl) (Nat.le_of_ble_eq_true rfl) dX0_init_42 (fun q42 H hP hD hS => ?_)
  have hP : va_P D vwCl [(h0, .inr (0, [.ref q5, .ref q16, .ref q31, .null])), (q5, .inr (1, [.int 0, .ref (u9 5), .ref (u9 6), .ref (u9 7), .ref (u9 8), .ref (u9 9), .int 0, .ref (u9 10), .ref (u9 11), .ref (u9 12), .ref (u9 13), .int 0, .ref (u9 14), .ref (u9 15)])), ((u9 5), .inl (cI, 10, .inl (fun _ => 0))), ((u9 6), .inl (cI, 10, .inl (fun _ => 0))), ((u9 7), .inl (cI, 10, .inl (fun _ => 0))), ((u9 8), .inl (cL, 10, .inr (.inl (fun _ => 0)))), ((u9 9), .inl (cI, 10, .inl (fun _ => 0))), ((u9 10), .inl (cL, 36, .inr (.inl (fun _ => 0)))), ((u9 11), .inl (cL, 36, .inr (.inl (fun _ => 0)))), ((u9 12), .inl (cL, 12, .inr (.inl (fun _ => 0)))), ((u9 13), .inl (cL, 12, .inr (.inl (ac_fillL 27720 (fun _ => 0) 12)))), ((u9 14), .inl (cI, 16, .inl (fun _ => 0))), ((u9 15), .inl (cL, 16, .inr (.inl (fun _ => 0)))), (q16, .inr (2, [.ref q5, .ref (u24 16), .ref (u24 17), .ref (u24 18)])), ((u24 16), .inl (cL, 12, .inr (.inl (fun _ => 0)))), ((u24 17), .inl (cL, 110, .inr (.inl (fun _ => 0)))), ((u24 18), .inl (cL, 10240, .inr (.inl (fun _ => 0)))), (q31, .inr (3, [.int 0, .int 0, .int 0, .int 0, .int 0, .long 0, .ref (u35 19), .ref (u35 20)])), ((u35 19), .inl (cI, 10, .inl (fun _ => 0))), ((u35 20), .inl (cL, 12, .inr (.inl (fun _ => 0)))), (q42, .inr (4, [.null, .null, .null, .null, .int 0, .int 0, .long 0, .long 0]))] H := hP
  have hD : va_D A [(h0, .inr (0, [.ref q5, .ref q16, .ref q31, .null])), (q5, .inr (1, [.int 0, .ref (u9 5), .ref (u9 6), .ref (u9 7), .ref (u9 8), .ref (u9 9), .int 0, .ref (u9 10), .ref (u9 11), .ref (u9 12), .ref (u9 13), .int 0, .ref (u9 14), .ref (u9 15)])), ((u9 5), .inl (cI, 10, .inl (fun _ => 0))), ((u9 6), .inl (cI, 10, .inl (fun _ => 0))), ((u9 7), .inl (cI, 10, .inl (fun _ => 0))), ((u9 8), .inl (cL, 10, .inr (.inl (fun _ => 0)))), ((u9 9), .inl (cI, 10, .inl (fun _ => 0))), ((u9 10), .inl (cL, 36, .inr (.inl (fun _ => 0)))), ((u9 11), .inl (cL, 36, .inr (.inl (fun _ => 0)))), ((u9 12), .inl (cL, 12, .inr (.inl (fun _ => 0)))), ((u9 13), .inl (cL, 12, .inr (.inl (ac_fillL 27720 (fun _ => 0) 12)))), ((u9 14), .inl (cI, 16, .inl (fun _ => 0))), ((u9 15), .inl (cL, 16, .inr (.inl (fun _ => 0)))), (q16, .inr (2, [.ref q5, .ref (u24 16), .ref (u24 17), .ref (u24 18)])), ((u24 16), .inl (cL, 12, .inr (.inl (fun _ => 0)))), ((u24 17), .inl (cL, 110, .inr (.inl (fun _ => 0)))), ((u24 18), .inl (cL, 10240, .inr (.inl (fun _ => 0)))), (q31, .inr (3, [.int 0, .int 0, .int 0, .int 0, .int 0, .long 0, .ref (u35 19), .ref (u35 20)])), ((u35 19), .inl (cI, 10, .inl (fun _ => 0))), ((u35 20), .inl (cL, 12, .inr (.inl (fun _ => 0)))), (q42, .inr (4, [.null, .null, .null, .null, .int 0, .int 0, .long 0, .long 0]))] := hD
  refine W.widen (k := 20) (n := 10596) (by omega) (by omega) ?_
  refine lv_dup hx hb dX0_init_45 rfl ?_
  refine lv_aload_n hx hb dX0_init_46 rfl (lv_at hl 0 rfl) ?_
  refine va_get (D := D) (ci := 0) (v := .ref q5) (C := RX0) (T := TX0) (N := 4) hx hb hts hin_X0 hown hK hP 0 rfl rfl 0 (by decide) hf_12 (fun _ h9 => h9) rfl dX0_init_47 ?_
  have hPc := hP.sub (ws' := [(q42, .inr (4, [.null, .null, .null, .null, .int 0, .int 0, .long 0, .long 0]))]) [20] rfl
  have hDc := hD.sub (ws' := [(q42, .inr (4, [.null, .null, .null, .null, .int 0, .int 0, .long 0, .long 0]))]) [20] (by decide) rfl
  have hFc := va_free (wc := [(q42, .inr (4, [.null, .null, .null, .null, .int 0, .int 0, .long 0, .long 0]))]) hD hS hA [20] rfl
  refine va_callv (va_runI (As := [.ref q5]) (rest := [.ref q42, .ref h0]) ⟨hx, hb, hml, hown, hts⟩ (c_X4_init l D cI cL q42 H.size q5) (cwI 1 hts (am_gN (am_in 148 rfl)) rfl rfl rfl (ht 34 _ rfl) (ht 146 _ rfl) (ht 147 _ rfl) rfl (by decide +kernel) ⟨Nat.le_of_ble_eq_true rfl, Nat.le_of_ble_eq_true rfl⟩) ⟨am_blindC, fun U hU hW => ⟨rfl, by rw [hU], by rw [hU]; exact hPc, va_K.moved hW.alike hK, am_nw_warm hW hN, hDc.weaken (fun _ _ _ _ => trivial)⟩⟩ rfl rfl hl.1 rfl (lv_room (Nat.le_of_ble_eq_true rfl)) dX0_init_50 ⟨Nat.le_of_ble_eq_true rfl, Nat.le_of_ble_eq_true rfl⟩) hS (fun q _ h => hFc q h) hFc (fun u50 t H1 locs ht9 hvm hw hB hz1 hk1 hS => ?_)
  obtain ⟨hP1, hD1⟩ := hB
  rw [ht9] at hP1
  obtain ⟨hP, hD⟩ := va_join (wr := [(h0, .inr (0, [.ref q5, .ref q16, .ref q31, .null])), (q5, .inr (1, [.int 0, .ref (u9 5), .ref (u9 6), .ref (u9 7), .ref (u9 8), .ref (u9 9), .int 0, .ref (u9 10), .ref (u9 11), .ref (u9 12), .ref (u9 13), .int 0, .ref (u9 14), .ref (u9 15)])), ((u9 5), .inl (cI, 10, .inl (fun _ => 0))), ((u9 6), .inl (cI, 10, .inl (fun _ => 0))), ((u9 7), .inl (cI, 10, .inl (fun _ => 0))), ((u9 8), .inl (cL, 10, .inr (.inl (fun _ => 0)))), ((u9 9), .inl (cI, 10, .inl (fun _ => 0))), ((u9 10), .inl (cL, 36, .inr (.inl (fun _ => 0)))), ((u9 11), .inl (cL, 36, .inr (.inl (fun _ => 0)))), ((u9 12), .inl (cL, 12, .inr (.inl (fun _ => 0)))), ((u9 13), .inl (cL, 12, .inr (.inl (ac_fillL 27720 (fun _ => 0) 12)))), ((u9 14), .inl (cI, 16, .inl (fun _ => 0))), ((u9 15), .inl (cL, 16, .inr (.inl (fun _ => 0)))), (q16, .inr (2, [.ref q5, .ref (u24 16), .ref (u24 17), .ref (u24 18)])), ((u24 16), .inl (cL, 12, .inr (.inl (fun _ => 0)))), ((u24 17), .inl (cL, 110, .inr (.inl (fun _ => 0)))), ((u24 18), .inl (cL, 10240, .inr (.inl (fun _ => 0)))), (q31, .inr (3, [.int 0, .int 0, .int 0, .int 0, .int 0, .long 0, .ref (u35 19), .ref (u35 20)])), ((u35 19), .inl (cI, 10, .inl (fun _ => 0))), ((u35 20), .inl (cL, 12, .inr (.inl (fun _ => 0))))]) (w1 := [(q42, .inr (4, [.ref (u50 21), .ref q5, .ref (u50 22), .ref (u50 23), .int 0, .int 0, .long 0, .long 0])), ((u50 21), .inl (cI, 10, .inl (ac_fillI (-1) (fun _ => 0) 10))), ((u50 22), .inl (cI, 10, .inl (fun _ => 0))), ((u50 23), .inl (cL, 4, .inr (.inl (fun _ => 0))))]) hP hD [20] [0, 1, 2, 3, 4, 5, 6, 7, 8, 9, 10, 11, 12, 13, 14, 15, 16, 17, 18, 19] rfl rfl (by decide) (by decide) hk1 hFc hP1 hD1
  generalize H1 = H at hP hS ⊢
  have hP : va_P D vwCl [(h0, .inr (0, [.ref q5, .ref q16, .ref q31, .null])), (q5, .inr (1, [.int 0, .ref (u9 5), .ref (u9 6), .ref (u9 7), .ref (u9 8), .ref (u9 9), .int 0, .ref (u9 10), .ref (u9 11), .ref (u9 12), .ref (u9 13), .int 0, .ref (u9 14), .ref (u9 15)])), ((u9 5), .inl (cI, 10, .inl (fun _ => 0))), ((u9 6), .inl (cI, 10, .inl (fun _ => 0))), ((u9 7), .inl (cI, 10, .inl (fun _ => 0))), ((u9 8), .inl (cL, 10, .inr (.inl (fun _ => 0)))), ((u9 9), .inl (cI, 10, .inl (fun _ => 0))), ((u9 10), .inl (cL, 36, .inr (.inl (fun _ => 0)))), ((u9 11), .inl (cL, 36, .inr (.inl (fun _ => 0)))), ((u9 12), .inl (cL, 12, .inr (.inl (fun _ => 0)))), ((u9 13), .inl (cL, 12, .inr (.inl (ac_fillL 27720 (fun _ => 0) 12)))), ((u9 14), .inl (cI, 16, .inl (fun _ => 0))), ((u9 15), .inl (cL, 16, .inr (.inl (fun _ => 0)))), (q16, .inr (2, [.ref q5, .ref (u24 16), .ref (u24 17), .ref (u24 18)])), ((u24 16), .inl (cL, 12, .inr (.inl (fun _ => 0)))), ((u24 17), .inl (cL, 110, .inr (.inl (fun _ => 0)))), ((u24 18), .inl (cL, 10240, .inr (.inl (fun _ => 0)))), (q31, .inr (3, [.int 0, .int 0, .int 0, .int 0, .int 0, .long 0, .ref (u35 19), .ref (u35 20)])), ((u35 19), .inl (cI, 10, .inl (fun _ => 0))), ((u35 20), .inl (cL, 12, .inr (.inl (fun _ => 0)))), (q42, .inr (4, [.ref (u50 21), .ref q5, .ref (u50 22), .ref (u50 23), .int 0, .int 0, .long 0, .long 0])), ((u50 21), .inl (cI, 10, .inl (ac_fillI (-1) (fun _ => 0) 10))), ((u50 22), .inl (cI, 10, .inl (fun _ => 0))), ((u50 23), .inl (cL, 4, .inr (.inl (fun _ => 0))))] H := hP
  have hD : va_D A [(h0, .inr (0, [.ref q5, .ref q16, .ref q31, .null])), (q5, .inr (1, [.int 0, .ref (u9 5), .ref (u9 6), .ref (u9 7), .ref (u9 8), .ref (u9 9), .int 0, .ref (u9 10), .ref (u9 11), .ref (u9 12), .ref (u9 13), .int 0, .ref (u9 14), .ref (u9 15)])), ((u9 5), .inl (cI, 10, .inl (fun _ => 0))), ((u9 6), .inl (cI, 10, .inl (fun _ => 0))), ((u9 7), .inl (cI, 10, .inl (fun _ => 0))), ((u9 8), .inl (cL, 10, .inr (.inl (fun _ => 0)))), ((u9 9), .inl (cI, 10, .inl (fun _ => 0))), ((u9 10), .inl (cL, 36, .inr (.inl (fun _ => 0)))), ((u9 11), .inl (cL, 36, .inr (.inl (fun _ => 0)))), ((u9 12), .inl (cL, 12, .inr (.inl (fun _ => 0)))), ((u9 13), .inl (cL, 12, .inr (.inl (ac_fillL 27720 (fun _ => 0) 12)))), ((u9 14), .inl (cI, 16, .inl (fun _ => 0))), ((u9 15), .inl (cL, 16, .inr (.inl (fun _ => 0)))), (q16, .inr (2, [.ref q5, .ref (u24 16), .ref (u24 17), .ref (u24 18)])), ((u24 16), .inl (cL, 12, .inr (.inl (fun _ => 0)))), ((u24 17), .inl (cL, 110, .inr (.inl (fun _ => 0)))), ((u24 18), .inl (cL, 10240, .inr (.inl (fun _ => 0)))), (q31, .inr (3, [.int 0, .int 0, .int 0, .int 0, .int 0, .long 0, .ref (u35 19), .ref (u35 20)])), ((u35 19), .inl (cI, 10, .inl (fun _ => 0))), ((u35 20), .inl (cL, 12, .inr (.inl (fun _ => 0)))), (q42, .inr (4, [.ref (u50 21), .ref q5, .ref (u50 22), .ref (u50 23), .int 0, .int 0, .long 0, .long 0])), ((u50 21), .inl (cI, 10, .inl (ac_fillI (-1) (fun _ => 0) 10))), ((u50 22), .inl (cI, 10, .inl (fun _ => 0))), ((u50 23), .inl (cL, 4, .inr (.inl (fun _ => 0))))] := hD
  refine W.widen (k := 23) (n := 10620) (by omega) (by omega) ?_
  refine va_putF (D := D) (ci := 0) (v := .ref q42) (ty := .object "ApartCost$Line") (C := RX0) (T := TX0) (N := 4) hx hb hts hin_X0 tyX0 tyX0_ok nmX0 hown hK hP hD hS 0 rfl rfl 3 (by decide) hf_35 (fun _ h9 => h9) rfl hin9 rfl (by decide +kernel) rfl rfl (Nat.le_of_ble_eq_true rfl) dX0_init_53 (fun H locs hP hD hS => ?_)
  have hP : va_P D vwCl [(h0, .inr (0, [.ref q5, .ref q16, .ref q31, .ref q42])), (q5, .inr (1, [.int 0, .ref (u9 5), .ref (u9 6), .ref (u9 7), .ref (u9 8), .ref (u9 9), .int 0, .ref (u9 10), .ref (u9 11), .ref (u9 12), .ref (u9 13), .int 0, .ref (u9 14), .ref (u9 15)])), ((u9 5), .inl (cI, 10, .inl (fun _ => 0))), ((u9 6), .inl (cI, 10, .inl (fun _ => 0))), ((u9 7), .inl (cI, 10, .inl (fun _ => 0))), ((u9 8), .inl (cL, 10, .inr (.inl (fun _ => 0)))), ((u9 9), .inl (cI, 10, .inl (fun _ => 0))), ((u9 10), .inl (cL, 36, .inr (.inl (fun _ => 0)))), ((u9 11), .inl (cL, 36, .inr (.inl (fun _ => 0)))), ((u9 12), .inl (cL, 12, .inr (.inl (fun _ => 0)))), ((u9 13), .inl (cL, 12, .inr (.inl (ac_fillL 27720 (fun _ => 0) 12)))), ((u9 14), .inl (cI, 16, .inl (fun _ => 0))), ((u9 15), .inl (cL, 16, .inr (.inl (fun _ => 0)))), (q16, .inr (2, [.ref q5, .ref (u24 16), .ref (u24 17), .ref (u24 18)])), ((u24 16), .inl (cL, 12, .inr (.inl (fun _ => 0)))), ((u24 17), .inl (cL, 110, .inr (.inl (fun _ => 0)))), ((u24 18), .inl (cL, 10240, .inr (.inl (fun _ => 0)))), (q31, .inr (3, [.int 0, .int 0, .int 0, .int 0, .int 0, .long 0, .ref (u35 19), .ref (u35 20)])), ((u35 19), .inl (cI, 10, .inl (fun _ => 0))), ((u35 20), .inl (cL, 12, .inr (.inl (fun _ => 0)))), (q42, .inr (4, [.ref (u50 21), .ref q5, .ref (u50 22), .ref (u50 23), .int 0, .int 0, .long 0, .long 0])), ((u50 21), .inl (cI, 10, .inl (ac_fillI (-1) (fun _ => 0) 10))), ((u50 22), .inl (cI, 10, .inl (fun _ => 0))), ((u50 23), .inl (cL, 4, .inr (.inl (fun _ => 0))))] H := hP
  have hD : va_D A [(h0, .inr (0, [.ref q5, .ref q16, .ref q31, .ref q42])), (q5, .inr (1, [.int 0, .ref (u9 5), .ref (u9 6), .ref (u9 7), .ref (u9 8), .ref (u9 9), .int 0, .ref (u9 10), .ref (u9 11), .ref (u9 12), .ref (u9 13), .int 0, .ref (u9 14), .ref (u9 15)])), ((u9 5), .inl (cI, 10, .inl (fun _ => 0))), ((u9 6), .inl (cI, 10, .inl (fun _ => 0))), ((u9 7), .inl (cI, 10, .inl (fun _ => 0))), ((u9 8), .inl (cL, 10, .inr (.inl (fun _ => 0)))), ((u9 9), .inl (cI, 10, .inl (fun _ => 0))), ((u9 10), .inl (cL, 36, .inr (.inl (fun _ => 0)))), ((u9 11), .inl (cL, 36, .inr (.inl (fun _ => 0)))), ((u9 12), .inl (cL, 12, .inr (.inl (fun _ => 0)))), ((u9 13), .inl (cL, 12, .inr (.inl (ac_fillL 27720 (fun _ => 0) 12)))), ((u9 14), .inl (cI, 16, .inl (fun _ => 0))), ((u9 15), .inl (cL, 16, .inr (.inl (fun _ => 0)))), (q16, .inr (2, [.ref q5, .ref (u24 16), .ref (u24 17), .ref (u24 18)])), ((u24 16), .inl (cL, 12, .inr (.inl (fun _ => 0)))), ((u24 17), .inl (cL, 110, .inr (.inl (fun _ => 0)))), ((u24 18), .inl (cL, 10240, .inr (.inl (fun _ => 0)))), (q31, .inr (3, [.int 0, .int 0, .int 0, .int 0, .int 0, .long 0, .ref (u35 19), .ref (u35 20)])), ((u35 19), .inl (cI, 10, .inl (fun _ => 0))), ((u35 20), .inl (cL, 12, .inr (.inl (fun _ => 0)))), (q42, .inr (4, [.ref (u50 21), .ref q5, .ref (u50 22), .ref (u50 23), .int 0, .int 0, .long 0, .long 0])), ((u50 21), .inl (cI, 10, .inl (ac_fillI (-1) (fun _ => 0) 10))), ((u50 22), .inl (cI, 10, .inl (fun _ => 0))), ((u50 23), .inl (cL, 4, .inr (.inl (fun _ => 0))))] := hD
  have hP9 := hP.sub (ws' := [(h0, .inr (0, [.ref q5, .ref q16, .ref q31, .ref q42])), (q5, .inr (1, [.int 0, .ref (u9 5), .ref (u9 6), .ref (u9 7), .ref (u9 8), .ref (u9 9), .int 0, .ref (u9 10), .ref (u9 11), .ref (u9 12), .ref (u9 13), .int 0, .ref (u9 14), .ref (u9 15)])), (q16, .inr (2, [.ref q5, .ref (u24 16), .ref (u24 17), .ref (u24 18)])), (q31, .inr (3, [.int 0, .int 0, .int 0, .int 0, .int 0, .long 0, .ref (u35 19), .ref (u35 20)])), (q42, .inr (4, [.ref (u50 21), .ref q5, .ref (u50 22), .ref (u50 23), .int 0, .int 0, .long 0, .long 0])), ((u9 5), .inl (cI, 10, .inl (fun _ => 0))), ((u9 6), .inl (cI, 10, .inl (fun _ => 0))), ((u9 7), .inl (cI, 10, .inl (fun _ => 0))), ((u9 8), .inl (cL, 10, .inr (.inl (fun _ => 0)))), ((u9 9), .inl (cI, 10, .inl (fun _ => 0))), ((u9 10), .inl (cL, 36, .inr (.inl (fun _ => 0)))), ((u9 11), .inl (cL, 36, .inr (.inl (fun _ => 0)))), ((u9 12), .inl (cL, 12, .inr (.inl (fun _ => 0)))), ((u9 13), .inl (cL, 12, .inr (.inl (ac_fillL 27720 (fun _ => 0) 12)))), ((u9 14), .inl (cI, 16, .inl (fun _ => 0))), ((u9 15), .inl (cL, 16, .inr (.inl (fun _ => 0)))), ((u24 16), .inl (cL, 12, .inr (.inl (fun _ => 0)))), ((u24 17), .inl (cL, 110, .inr (.inl (fun _ => 0)))), ((u24 18), .inl (cL, 10240, .inr (.inl (fun _ => 0)))), ((u35 19), .inl (cI, 10, .inl (fun _ => 0))), ((u35 20), .inl (cL, 12, .inr (.inl (fun _ => 0)))), ((u50 21), .inl (cI, 10, .inl (ac_fillI (-1) (fun _ => 0) 10))), ((u50 22), .inl (cI, 10, .inl (fun _ => 0))), ((u50 23), .inl (cL, 4, .inr (.inl (fun _ => 0))))]) [0, 1, 13, 17, 20, 2, 3, 4, 5, 6, 7, 8, 9, 10, 11, 12, 14, 15, 16, 18, 19, 21, 22, 23] rfl
  have hD9 := hD.sub (ws' := [(h0, .inr (0, [.ref q5, .ref q16, .ref q31, .ref q42])), (q5, .inr (1, [.int 0, .ref (u9 5), .ref (u9 6), .ref (u9 7), .ref (u9 8), .ref (u9 9), .int 0, .ref (u9 10), .ref (u9 11), .ref (u9 12), .ref (u9 13), .int 0, .ref (u9 14), .ref (u9 15)])), (q16, .inr (2, [.ref q5, .ref (u24 16), .ref (u24 17), .ref (u24 18)])), (q31, .inr (3, [.int 0, .int 0, .int 0, .int 0, .int 0, .long 0, .ref (u35 19), .ref (u35 20)])), (q42, .inr (4, [.ref (u50 21), .ref q5, .ref (u50 22), .ref (u50 23), .int 0, .int 0, .long 0, .long 0])), ((u9 5), .inl (cI, 10, .inl (fun _ => 0))), ((u9 6), .inl (cI, 10, .inl (fun _ => 0))), ((u9 7), .inl (cI, 10, .inl (fun _ => 0))), ((u9 8), .inl (cL, 10, .inr (.inl (fun _ => 0)))), ((u9 9), .inl (cI, 10, .inl (fun _ => 0))), ((u9 10), .inl (cL, 36, .inr (.inl (fun _ => 0)))), ((u9 11), .inl (cL, 36, .inr (.inl (fun _ => 0)))), ((u9 12), .inl (cL, 12, .inr (.inl (fun _ => 0)))), ((u9 13), .inl (cL, 12, .inr (.inl (ac_fillL 27720 (fun _ => 0) 12)))), ((u9 14), .inl (cI, 16, .inl (fun _ => 0))), ((u9 15), .inl (cL, 16, .inr (.inl (fun _ => 0)))), ((u24 16), .inl (cL, 12, .inr (.inl (fun _ => 0)))), ((u24 17), .inl (cL, 110, .inr (.inl (fun _ => 0)))), ((u24 18), .inl (cL, 10240, .inr (.inl (fun _ => 0)))), ((u35 19), .inl (cI, 10, .inl (fun _ => 0))), ((u35 20), .inl (cL, 12, .inr (.inl (fun _ => 0)))), ((u50 21), .inl (cI, 10, .inl (ac_fillI (-1) (fun _ => 0) 10))), ((u50 22), .inl (cI, 10, .inl (fun _ => 0))), ((u50 23), .inl (cL, 4, .inr (.inl (fun _ => 0))))]) [0, 1, 13, 17, 20, 2, 3, 4, 5, 6, 7, 8, 9, 10, 11, 12, 14, 15, 16, 18, 19, 21, 22, 23] (by decide) rfl
  exact W.vret hx hb hr (fun t ht _ => ⟨⟨(fun k => if k = 0 then h0 else if k = 1 then q5 else if k = 2 then q16 else if k = 3 then q31 else if k = 4 then q42 else if k = 5 then (u9 5) else if k = 6 then (u9 6) else if k = 7 then (u9 7) else if k = 8 then (u9 8) else if k = 9 then (u9 9) else if k = 10 then (u9 10) else if k = 11 then (u9 11) else if k = 12 then (u9 12) else if k = 13 then (u9 13) else if k = 14 then (u9 14) else if k = 15 then (u9 15) else if k = 16 then (u24 16) else if k = 17 then (u24 17) else if k = 18 then (u24 18) else if k = 19 then (u35 19) else if k = 20 then (u35 20) else if k = 21 then (u50 21) else if k = 22 then (u50 22) else if k = 23 then (u50 23) else 0), rfl, rfl, by rw [ht]; exact hP9, hD9⟩, hS.F ht⟩) hS.2.2 dX0_init_56
end
