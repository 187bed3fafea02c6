section
-- ===== PART A: goes FIRST, ahead of the names: the tables' words, and 'selects' of the private methods out of them =====
/-- a private method of a class that the tables say can be made, by its rows of tables_1 -/
def lw_okq (q : MethodName × Nat) : Prop := (q.1.cls ≠ "java/lang/invoke/MethodHandle" ∧ q.1.cls ≠ "java/lang/invoke/VarHandle") ∧ Cond.instantiable q.1.cls q.2 ∈ tables_1 ∧ Cond.privateMethod q.1 ∈ tables_1 ∧ Cond.instanceMethod q.1 ∈ tables_1
theorem lw_p0 : lw_okq (⟨"ClosureFlows", "forgetRuns", "()V"⟩, 3) := ⟨⟨by decide +kernel, by decide +kernel⟩, List.mem_of_getElem? (i := 9) (by decide +kernel), List.mem_of_getElem? (i := 143) (by decide +kernel), List.mem_of_getElem? (i := 144) (by decide +kernel)⟩
theorem lw_p1 : lw_okq (⟨"ClosureFlows$Program", "mayStand", "(II)Z"⟩, 6) := ⟨⟨by decide +kernel, by decide +kernel⟩, List.mem_of_getElem? (i := 17) (by decide +kernel), List.mem_of_getElem? (i := 163) (by decide +kernel), List.mem_of_getElem? (i := 164) (by decide +kernel)⟩
theorem lw_p2 : lw_okq (⟨"ClosureFlows$Machine", "tryStep", "()V"⟩, 9) := ⟨⟨by decide +kernel, by decide +kernel⟩, List.mem_of_getElem? (i := 43) (by decide +kernel), List.mem_of_getElem? (i := 243) (by decide +kernel), List.mem_of_getElem? (i := 244) (by decide +kernel)⟩
theorem lw_p3 : lw_okq (⟨"ClosureFlows$Machine", "meaning", "(I)I"⟩, 9) := ⟨⟨by decide +kernel, by decide +kernel⟩, List.mem_of_getElem? (i := 43) (by decide +kernel), List.mem_of_getElem? (i := 256) (by decide +kernel), List.mem_of_getElem? (i := 257) (by decide +kernel)⟩
theorem lw_p4 : lw_okq (⟨"ClosureFlows$Machine", "applyOperator", "(I)V"⟩, 9) := ⟨⟨by decide +kernel, by decide +kernel⟩, List.mem_of_getElem? (i := 43) (by decide +kernel), List.mem_of_getElem? (i := 269) (by decide +kernel), List.mem_of_getElem? (i := 270) (by decide +kernel)⟩
theorem lw_p5 : lw_okq (⟨"ClosureFlows$Machine", "applyDirectly", "(II)V"⟩, 9) := ⟨⟨by decide +kernel, by decide +kernel⟩, List.mem_of_getElem? (i := 43) (by decide +kernel), List.mem_of_getElem? (i := 274) (by decide +kernel), List.mem_of_getElem? (i := 275) (by decide +kernel)⟩
theorem lw_p6 : lw_okq (⟨"ClosureFlows$Machine", "enter", "(III)V"⟩, 9) := ⟨⟨by decide +kernel, by decide +kernel⟩, List.mem_of_getElem? (i := 43) (by decide +kernel), List.mem_of_getElem? (i := 285) (by decide +kernel), List.mem_of_getElem? (i := 286) (by decide +kernel)⟩
theorem lw_p7 : lw_okq (⟨"ClosureFlows$Analysis", "emptySets", "()V"⟩, 12) := ⟨⟨by decide +kernel, by decide +kernel⟩, List.mem_of_getElem? (i := 77) (by decide +kernel), List.mem_of_getElem? (i := 333) (by decide +kernel), List.mem_of_getElem? (i := 334) (by decide +kernel)⟩
theorem lw_p8 : lw_okq (⟨"ClosureFlows$Analysis", "visit", "(III)V"⟩, 12) := ⟨⟨by decide +kernel, by decide +kernel⟩, List.mem_of_getElem? (i := 77) (by decide +kernel), List.mem_of_getElem? (i := 347) (by decide +kernel), List.mem_of_getElem? (i := 348) (by decide +kernel)⟩
theorem lw_p9 : lw_okq (⟨"ClosureFlows$Analysis", "loadOperand", "(III)V"⟩, 12) := ⟨⟨by decide +kernel, by decide +kernel⟩, List.mem_of_getElem? (i := 77) (by decide +kernel), List.mem_of_getElem? (i := 353) (by decide +kernel), List.mem_of_getElem? (i := 354) (by decide +kernel)⟩
theorem lw_p10 : lw_okq (⟨"ClosureFlows$Analysis", "applyDirectly", "(III)V"⟩, 12) := ⟨⟨by decide +kernel, by decide +kernel⟩, List.mem_of_getElem? (i := 77) (by decide +kernel), List.mem_of_getElem? (i := 368) (by decide +kernel), List.mem_of_getElem? (i := 369) (by decide +kernel)⟩
theorem lw_p11 : lw_okq (⟨"ClosureFlows$Analysis", "enter", "(III)V"⟩, 12) := ⟨⟨by decide +kernel, by decide +kernel⟩, List.mem_of_getElem? (i := 77) (by decide +kernel), List.mem_of_getElem? (i := 374) (by decide +kernel), List.mem_of_getElem? (i := 375) (by decide +kernel)⟩
theorem lw_p12 : lw_okq (⟨"ClosureFlows$Analysis", "addState", "(I)V"⟩, 12) := ⟨⟨by decide +kernel, by decide +kernel⟩, List.mem_of_getElem? (i := 77) (by decide +kernel), List.mem_of_getElem? (i := 378) (by decide +kernel), List.mem_of_getElem? (i := 379) (by decide +kernel)⟩
theorem lw_p13 : lw_okq (⟨"ClosureFlows$Analysis", "widen", "(IIJ)V"⟩, 12) := ⟨⟨by decide +kernel, by decide +kernel⟩, List.mem_of_getElem? (i := 77) (by decide +kernel), List.mem_of_getElem? (i := 382) (by decide +kernel), List.mem_of_getElem? (i := 383) (by decide +kernel)⟩
theorem lw_p14 : lw_okq (⟨"ClosureFlows$Analysis", "carryOver", "(II)V"⟩, 12) := ⟨⟨by decide +kernel, by decide +kernel⟩, List.mem_of_getElem? (i := 77) (by decide +kernel), List.mem_of_getElem? (i := 390) (by decide +kernel), List.mem_of_getElem? (i := 391) (by decide +kernel)⟩
theorem lw_p15 : lw_okq (⟨"ClosureFlows$Analysis", "loadSums", "(II)Z"⟩, 12) := ⟨⟨by decide +kernel, by decide +kernel⟩, List.mem_of_getElem? (i := 77) (by decide +kernel), List.mem_of_getElem? (i := 394) (by decide +kernel), List.mem_of_getElem? (i := 395) (by decide +kernel)⟩
def lw_privs_1 : List (MethodName × Nat) := [(⟨"ClosureFlows", "forgetRuns", "()V"⟩, 3), (⟨"ClosureFlows$Program", "mayStand", "(II)Z"⟩, 6), (⟨"ClosureFlows$Machine", "tryStep", "()V"⟩, 9), (⟨"ClosureFlows$Machine", "meaning", "(I)I"⟩, 9), (⟨"ClosureFlows$Machine", "applyOperator", "(I)V"⟩, 9), (⟨"ClosureFlows$Machine", "applyDirectly", "(II)V"⟩, 9), (⟨"ClosureFlows$Machine", "enter", "(III)V"⟩, 9), (⟨"ClosureFlows$Analysis", "emptySets", "()V"⟩, 12), (⟨"ClosureFlows$Analysis", "visit", "(III)V"⟩, 12), (⟨"ClosureFlows$Analysis", "loadOperand", "(III)V"⟩, 12), (⟨"ClosureFlows$Analysis", "applyDirectly", "(III)V"⟩, 12), (⟨"ClosureFlows$Analysis", "enter", "(III)V"⟩, 12), (⟨"ClosureFlows$Analysis", "addState", "(I)V"⟩, 12), (⟨"ClosureFlows$Analysis", "widen", "(IIJ)V"⟩, 12), (⟨"ClosureFlows$Analysis", "carryOver", "(II)V"⟩, 12), (⟨"ClosureFlows$Analysis", "loadSums", "(II)Z"⟩, 12)]
theorem lw_r1 : ∀ q ∈ lw_privs_1, lw_okq q := List.forall_mem_cons.mpr ⟨lw_p0, List.forall_mem_cons.mpr ⟨lw_p1, List.forall_mem_cons.mpr ⟨lw_p2, List.forall_mem_cons.mpr ⟨lw_p3, List.forall_mem_cons.mpr ⟨lw_p4, List.forall_mem_cons.mpr ⟨lw_p5, List.forall_mem_cons.mpr ⟨lw_p6, List.forall_mem_cons.mpr ⟨lw_p7, List.forall_mem_cons.mpr ⟨lw_p8, List.forall_mem_cons.mpr ⟨lw_p9, List.forall_mem_cons.mpr ⟨lw_p10, List.forall_mem_cons.mpr ⟨lw_p11, List.forall_mem_cons.mpr ⟨lw_p12, List.forall_mem_cons.mpr ⟨lw_p13, List.forall_mem_cons.mpr ⟨lw_p14, List.forall_mem_cons.mpr ⟨lw_p15, fun _ h => absurd h List.not_mem_nil⟩⟩⟩⟩⟩⟩⟩⟩⟩⟩⟩⟩⟩⟩⟩⟩
theorem lw_p16 : lw_okq (⟨"ClosureFlowsModel", "isLambda", "(I)Z"⟩, 25) := ⟨⟨by decide +kernel, by decide +kernel⟩, List.mem_of_getElem? (i := 452) (by decide +kernel), List.mem_of_getElem? (i := 538) (by decide +kernel), List.mem_of_getElem? (i := 539) (by decide +kernel)⟩
theorem lw_p17 : lw_okq (⟨"ClosureFlowsModel", "change", "()V"⟩, 25) := ⟨⟨by decide +kernel, by decide +kernel⟩, List.mem_of_getElem? (i := 452) (by decide +kernel), List.mem_of_getElem? (i := 542) (by decide +kernel), List.mem_of_getElem? (i := 543) (by decide +kernel)⟩
theorem lw_p18 : lw_okq (⟨"ClosureFlowsModel", "mayStand", "(II)Z"⟩, 25) := ⟨⟨by decide +kernel, by decide +kernel⟩, List.mem_of_getElem? (i := 452) (by decide +kernel), List.mem_of_getElem? (i := 550) (by decide +kernel), List.mem_of_getElem? (i := 551) (by decide +kernel)⟩
theorem lw_p19 : lw_okq (⟨"ClosureFlowsModel", "around", "(II)Z"⟩, 25) := ⟨⟨by decide +kernel, by decide +kernel⟩, List.mem_of_getElem? (i := 452) (by decide +kernel), List.mem_of_getElem? (i := 554) (by decide +kernel), List.mem_of_getElem? (i := 555) (by decide +kernel)⟩
theorem lw_p20 : lw_okq (⟨"ClosureFlowsModel", "move", "()Z"⟩, 25) := ⟨⟨by decide +kernel, by decide +kernel⟩, List.mem_of_getElem? (i := 452) (by decide +kernel), List.mem_of_getElem? (i := 578) (by decide +kernel), List.mem_of_getElem? (i := 579) (by decide +kernel)⟩
theorem lw_p21 : lw_okq (⟨"ClosureFlowsModel", "valueOf", "(I)I"⟩, 25) := ⟨⟨by decide +kernel, by decide +kernel⟩, List.mem_of_getElem? (i := 452) (by decide +kernel), List.mem_of_getElem? (i := 582) (by decide +kernel), List.mem_of_getElem? (i := 583) (by decide +kernel)⟩
theorem lw_p22 : lw_okq (⟨"ClosureFlowsModel", "envOf", "(II)I"⟩, 25) := ⟨⟨by decide +kernel, by decide +kernel⟩, List.mem_of_getElem? (i := 452) (by decide +kernel), List.mem_of_getElem? (i := 586) (by decide +kernel), List.mem_of_getElem? (i := 587) (by decide +kernel)⟩
theorem lw_p23 : lw_okq (⟨"ClosureFlowsModel", "enter", "(III)V"⟩, 25) := ⟨⟨by decide +kernel, by decide +kernel⟩, List.mem_of_getElem? (i := 452) (by decide +kernel), List.mem_of_getElem? (i := 593) (by decide +kernel), List.mem_of_getElem? (i := 594) (by decide +kernel)⟩
theorem lw_p24 : lw_okq (⟨"ClosureFlowsModel", "visit", "(II)V"⟩, 25) := ⟨⟨by decide +kernel, by decide +kernel⟩, List.mem_of_getElem? (i := 452) (by decide +kernel), List.mem_of_getElem? (i := 624) (by decide +kernel), List.mem_of_getElem? (i := 625) (by decide +kernel)⟩
theorem lw_p25 : lw_okq (⟨"ClosureFlowsModel", "look", "(III)V"⟩, 25) := ⟨⟨by decide +kernel, by decide +kernel⟩, List.mem_of_getElem? (i := 452) (by decide +kernel), List.mem_of_getElem? (i := 628) (by decide +kernel), List.mem_of_getElem? (i := 629) (by decide +kernel)⟩
theorem lw_p26 : lw_okq (⟨"ClosureFlowsModel", "applyPairs", "(JIII)V"⟩, 25) := ⟨⟨by decide +kernel, by decide +kernel⟩, List.mem_of_getElem? (i := 452) (by decide +kernel), List.mem_of_getElem? (i := 632) (by decide +kernel), List.mem_of_getElem? (i := 633) (by decide +kernel)⟩
theorem lw_p27 : lw_okq (⟨"ClosureFlowsModel", "callPair", "(IIII)V"⟩, 25) := ⟨⟨by decide +kernel, by decide +kernel⟩, List.mem_of_getElem? (i := 452) (by decide +kernel), List.mem_of_getElem? (i := 636) (by decide +kernel), List.mem_of_getElem? (i := 637) (by decide +kernel)⟩
theorem lw_p28 : lw_okq (⟨"ClosureFlowsModel", "grow", "(IIJ)V"⟩, 25) := ⟨⟨by decide +kernel, by decide +kernel⟩, List.mem_of_getElem? (i := 452) (by decide +kernel), List.mem_of_getElem? (i := 640) (by decide +kernel), List.mem_of_getElem? (i := 641) (by decide +kernel)⟩
theorem lw_p29 : lw_okq (⟨"ClosureFlowsModel", "answer", "(I)V"⟩, 25) := ⟨⟨by decide +kernel, by decide +kernel⟩, List.mem_of_getElem? (i := 452) (by decide +kernel), List.mem_of_getElem? (i := 645) (by decide +kernel), List.mem_of_getElem? (i := 646) (by decide +kernel)⟩
theorem lw_p30 : lw_okq (⟨"ClosureFlowsModel", "isParameter", "(II)Z"⟩, 25) := ⟨⟨by decide +kernel, by decide +kernel⟩, List.mem_of_getElem? (i := 452) (by decide +kernel), List.mem_of_getElem? (i := 665) (by decide +kernel), List.mem_of_getElem? (i := 666) (by decide +kernel)⟩
def lw_privs_2 : List (MethodName × Nat) := [(⟨"ClosureFlowsModel", "isLambda", "(I)Z"⟩, 25), (⟨"ClosureFlowsModel", "change", "()V"⟩, 25), (⟨"ClosureFlowsModel", "mayStand", "(II)Z"⟩, 25), (⟨"ClosureFlowsModel", "around", "(II)Z"⟩, 25), (⟨"ClosureFlowsModel", "move", "()Z"⟩, 25), (⟨"ClosureFlowsModel", "valueOf", "(I)I"⟩, 25), (⟨"ClosureFlowsModel", "envOf", "(II)I"⟩, 25), (⟨"ClosureFlowsModel", "enter", "(III)V"⟩, 25), (⟨"ClosureFlowsModel", "visit", "(II)V"⟩, 25), (⟨"ClosureFlowsModel", "look", "(III)V"⟩, 25), (⟨"ClosureFlowsModel", "applyPairs", "(JIII)V"⟩, 25), (⟨"ClosureFlowsModel", "callPair", "(IIII)V"⟩, 25), (⟨"ClosureFlowsModel", "grow", "(IIJ)V"⟩, 25), (⟨"ClosureFlowsModel", "answer", "(I)V"⟩, 25), (⟨"ClosureFlowsModel", "isParameter", "(II)Z"⟩, 25)]
theorem lw_r2 : ∀ q ∈ lw_privs_2, lw_okq q := List.forall_mem_cons.mpr ⟨lw_p16, List.forall_mem_cons.mpr ⟨lw_p17, List.forall_mem_cons.mpr ⟨lw_p18, List.forall_mem_cons.mpr ⟨lw_p19, List.forall_mem_cons.mpr ⟨lw_p20, List.forall_mem_cons.mpr ⟨lw_p21, List.forall_mem_cons.mpr ⟨lw_p22, List.forall_mem_cons.mpr ⟨lw_p23, List.forall_mem_cons.mpr ⟨lw_p24, List.forall_mem_cons.mpr ⟨lw_p25, List.forall_mem_cons.mpr ⟨lw_p26, List.forall_mem_cons.mpr ⟨lw_p27, List.forall_mem_cons.mpr ⟨lw_p28, List.forall_mem_cons.mpr ⟨lw_p29, List.forall_mem_cons.mpr ⟨lw_p30, fun _ h => absurd h List.not_mem_nil⟩⟩⟩⟩⟩⟩⟩⟩⟩⟩⟩⟩⟩⟩⟩
def lw_privs : List (MethodName × Nat) := lw_privs_1 ++ (lw_privs_2)
def lw_tbl : List Cond := k2_sels lw_privs ++ tables_1
theorem lw_privs_ok : ∀ q ∈ lw_privs, lw_okq q := by
  show ∀ q ∈ lw_privs_1 ++ (lw_privs_2), lw_okq q
  exact List.forall_mem_append.mpr ⟨lw_r1, lw_r2⟩
end
section
/-- words that stay: the kit's, and links to a nest mate's private methods -/
def okb : Cond → Bool
  | .methodLinkNest .. => true
  | w => goodWord w
def big : List Cond := lw_tbl.filter okb
theorem big_of {w : Cond} (i : Nat) (h : lw_tbl[i]? = some w) (ok : okb w = true) : w ∈ big := List.mem_filter.mpr ⟨List.mem_of_getElem? h, ok⟩
def R_A : String := "ClosureFlows$Analysis"
def R_M : String := "ClosureFlows$Machine"
def R_P : String := "ClosureFlows$Program"
def R_C : String := "ClosureFlows"
def R_R : String := "ClosureFlowsModel"
def R_JL : String := "java/lang/Long"
def R_JA : String := "java/util/Arrays"
def R_JO : String := "java/lang/Object"
def F_A : u_T := fun k => match k with
  | 0 => ("ClosureFlows$Analysis", "program", "LClosureFlows$Program;", true)
  | 1 => ("ClosureFlows$Analysis", "constantSets", "[I", true)
  | 2 => ("ClosureFlows$Analysis", "pairSets", "[J", true)
  | 3 => ("ClosureFlows$Analysis", "operandConstants", "[I", true)
  | 4 => ("ClosureFlows$Analysis", "operandPairs", "[J", true)
  | 5 => ("ClosureFlows$Analysis", "flowSets", "[I", true)
  | 6 => ("ClosureFlows$Analysis", "states", "J", false)
  | 7 => ("ClosureFlows$Analysis", "outcomes", "I", false)
  | 8 => ("ClosureFlows$Analysis", "visited", "I", false)
  | 9 => ("ClosureFlows$Analysis", "newContour", "I", false)
  | 10 => ("ClosureFlows$Analysis", "grown", "Z", false)
  | _ => ("ClosureFlows$Analysis", "made", "Z", false)
def t_A : Nat → FieldType := fun k => match k with
  | 0 => .object "ClosureFlows$Program"
  | 1 => .array .int
  | 2 => .array .long
  | 3 => .array .int
  | 4 => .array .long
  | 5 => .array .int
  | 6 => .long
  | 7 => .int
  | 8 => .int
  | 9 => .int
  | 10 => .boolean
  | _ => .boolean
theorem nm_A : ∀ a, a < 12 → ∀ b, b < 12 → a ≠ b → (F_A a).2.1 ≠ (F_A b).2.1 := by decide +kernel
theorem ty_A : ∀ k, k < 12 → parseFieldDescriptor (F_A k).2.2.1 = some (t_A k) := by decide +kernel
def F_M : u_T := fun k => match k with
  | 0 => ("ClosureFlows$Machine", "program", "LClosureFlows$Program;", true)
  | 1 => ("ClosureFlows$Machine", "owners", "[I", true)
  | 2 => ("ClosureFlows$Machine", "outers", "[I", true)
  | 3 => ("ClosureFlows$Machine", "bindings", "[I", true)
  | 4 => ("ClosureFlows$Machine", "calledSets", "[I", true)
  | 5 => ("ClosureFlows$Machine", "operands", "[I", true)
  | 6 => ("ClosureFlows$Machine", "applied", "I", false)
  | 7 => ("ClosureFlows$Machine", "phase", "I", false)
  | _ => ("ClosureFlows$Machine", "outcome", "I", false)
def t_M : Nat → FieldType := fun k => match k with
  | 0 => .object "ClosureFlows$Program"
  | 1 => .array .int
  | 2 => .array .int
  | 3 => .array .int
  | 4 => .array .int
  | 5 => .array .int
  | 6 => .int
  | 7 => .int
  | _ => .int
theorem nm_M : ∀ a, a < 9 → ∀ b, b < 9 → a ≠ b → (F_M a).2.1 ≠ (F_M b).2.1 := by decide +kernel
theorem ty_M : ∀ k, k < 9 → parseFieldDescriptor (F_M k).2.2.1 = some (t_M k) := by decide +kernel
def F_P : u_T := fun k => match k with
  | 0 => ("ClosureFlows$Program", "parents", "[I", true)
  | 1 => ("ClosureFlows$Program", "paramCounts", "[I", true)
  | 2 => ("ClosureFlows$Program", "lineages", "[I", true)
  | 3 => ("ClosureFlows$Program", "callLengths", "[I", true)
  | 4 => ("ClosureFlows$Program", "atoms", "[I", true)
  | _ => ("ClosureFlows$Program", "count", "I", false)
def t_P : Nat → FieldType := fun k => match k with
  | 0 => .array .int
  | 1 => .array .int
  | 2 => .array .int
  | 3 => .array .int
  | 4 => .array .int
  | _ => .int
theorem nm_P : ∀ a, a < 6 → ∀ b, b < 6 → a ≠ b → (F_P a).2.1 ≠ (F_P b).2.1 := by decide +kernel
theorem ty_P : ∀ k, k < 6 → parseFieldDescriptor (F_P k).2.2.1 = some (t_P k) := by decide +kernel
def F_C : u_T := fun k => match k with
  | 0 => ("ClosureFlows", "program", "LClosureFlows$Program;", true)
  | 1 => ("ClosureFlows", "machine", "LClosureFlows$Machine;", true)
  | _ => ("ClosureFlows", "analysis", "LClosureFlows$Analysis;", true)
def t_C : Nat → FieldType := fun k => match k with
  | 0 => .object "ClosureFlows$Program"
  | 1 => .object "ClosureFlows$Machine"
  | _ => .object "ClosureFlows$Analysis"
theorem nm_C : ∀ a, a < 3 → ∀ b, b < 3 → a ≠ b → (F_C a).2.1 ≠ (F_C b).2.1 := by decide +kernel
theorem ty_C : ∀ k, k < 3 → parseFieldDescriptor (F_C k).2.2.1 = some (t_C k) := by decide +kernel
def F_R : u_T := fun k => match k with
  | 0 => ("ClosureFlowsModel", "count", "I", false)
  | 1 => ("ClosureFlowsModel", "up", "[I", false)
  | 2 => ("ClosureFlowsModel", "params", "[I", false)
  | 3 => ("ClosureFlowsModel", "size", "[I", false)
  | 4 => ("ClosureFlowsModel", "atoms", "[I", false)
  | 5 => ("ClosureFlowsModel", "mode", "I", false)
  | 6 => ("ClosureFlowsModel", "here", "I", false)
  | 7 => ("ClosureFlowsModel", "env", "I", false)
  | 8 => ("ClosureFlowsModel", "applied", "I", false)
  | 9 => ("ClosureFlowsModel", "outcome", "I", false)
  | 10 => ("ClosureFlowsModel", "calledAt", "[I", false)
  | 11 => ("ClosureFlowsModel", "envLambda", "[I", false)
  | 12 => ("ClosureFlowsModel", "envUp", "[I", false)
  | 13 => ("ClosureFlowsModel", "envValue", "[I", false)
  | 14 => ("ClosureFlowsModel", "arg", "[I", false)
  | 15 => ("ClosureFlowsModel", "analysed", "Z", false)
  | 16 => ("ClosureFlowsModel", "k", "I", false)
  | 17 => ("ClosureFlowsModel", "plain", "[I", false)
  | 18 => ("ClosureFlowsModel", "pairs", "[J", false)
  | 19 => ("ClosureFlowsModel", "states", "J", false)
  | 20 => ("ClosureFlowsModel", "flowAt", "[I", false)
  | 21 => ("ClosureFlowsModel", "answers", "I", false)
  | 22 => ("ClosureFlowsModel", "changed", "Z", false)
  | 23 => ("ClosureFlowsModel", "atomPlain", "[I", false)
  | _ => ("ClosureFlowsModel", "atomPairs", "[J", false)
def t_R : Nat → FieldType := fun k => match k with
  | 0 => .int
  | 1 => .array .int
  | 2 => .array .int
  | 3 => .array .int
  | 4 => .array .int
  | 5 => .int
  | 6 => .int
  | 7 => .int
  | 8 => .int
  | 9 => .int
  | 10 => .array .int
  | 11 => .array .int
  | 12 => .array .int
  | 13 => .array .int
  | 14 => .array .int
  | 15 => .boolean
  | 16 => .int
  | 17 => .array .int
  | 18 => .array .long
  | 19 => .long
  | 20 => .array .int
  | 21 => .int
  | 22 => .boolean
  | 23 => .array .int
  | _ => .array .long
theorem nm_R : ∀ a, a < 25 → ∀ b, b < 25 → a ≠ b → (F_R a).2.1 ≠ (F_R b).2.1 := by decide +kernel
theorem ty_R : ∀ k, k < 25 → parseFieldDescriptor (F_R k).2.2.1 = some (t_R k) := by decide +kernel
abbrev cls5 : List vw_C := [(R_A, F_A, 12), (R_M, F_M, 9), (R_P, F_P, 6), (R_C, F_C, 3), (R_R, F_R, 25)]
abbrev c_C_init : ByteArray := prog_1_method_1_code
def y_C_init : MethodName := ⟨R_C, "<init>", "()V"⟩
abbrev c_JO_init : ByteArray := object_method_1_code
def y_JO_init : MethodName := ⟨R_JO, "<init>", "()V"⟩
abbrev c_P_init : ByteArray := prog_4_method_1_code
def y_P_init : MethodName := ⟨R_P, "<init>", "()V"⟩
abbrev c_M_init : ByteArray := prog_3_method_1_code
def y_M_init : MethodName := ⟨R_M, "<init>", "(LClosureFlows$Program;)V"⟩
abbrev c_A_init : ByteArray := prog_2_method_1_code
def y_A_init : MethodName := ⟨R_A, "<init>", "(LClosureFlows$Program;)V"⟩
abbrev c_C_lambda : ByteArray := prog_1_method_2_code
def y_C_lambda : MethodName := ⟨R_C, "lambda", "(II)I"⟩
abbrev c_P_makeLambda : ByteArray := prog_4_method_11_code
def y_P_makeLambda : MethodName := ⟨R_P, "makeLambda", "(II)I"⟩
abbrev c_P_hasLambda : ByteArray := prog_4_method_4_code
def y_P_hasLambda : MethodName := ⟨R_P, "hasLambda", "(I)Z"⟩
abbrev c_C_forgetRuns : ByteArray := prog_1_method_20_code
def y_C_forgetRuns : MethodName := ⟨R_C, "forgetRuns", "()V"⟩
abbrev c_M_forget : ByteArray := prog_3_method_2_code
def y_M_forget : MethodName := ⟨R_M, "forget", "()V"⟩
abbrev c_A_forget : ByteArray := prog_2_method_2_code
def y_A_forget : MethodName := ⟨R_A, "forget", "()V"⟩
abbrev c_C_put : ByteArray := prog_1_method_3_code
def y_C_put : MethodName := ⟨R_C, "put", "(II)Z"⟩
abbrev c_P_append : ByteArray := prog_4_method_12_code
def y_P_append : MethodName := ⟨R_P, "append", "(II)Z"⟩
abbrev c_P_mayStand : ByteArray := prog_4_method_13_code
def y_P_mayStand : MethodName := ⟨R_P, "mayStand", "(II)Z"⟩
abbrev c_C_isParameter : ByteArray := prog_1_method_23_code
def y_C_isParameter : MethodName := ⟨R_C, "isParameter", "(I)Z"⟩
abbrev c_C_lambdaOfParameter : ByteArray := prog_1_method_25_code
def y_C_lambdaOfParameter : MethodName := ⟨R_C, "lambdaOfParameter", "(I)I"⟩
abbrev c_C_indexOfParameter : ByteArray := prog_1_method_26_code
def y_C_indexOfParameter : MethodName := ⟨R_C, "indexOfParameter", "(I)I"⟩
abbrev c_P_hasParameter : ByteArray := prog_4_method_5_code
def y_P_hasParameter : MethodName := ⟨R_P, "hasParameter", "(II)Z"⟩
abbrev c_C_has : ByteArray := prog_1_method_28_code
def y_C_has : MethodName := ⟨R_C, "has", "(II)Z"⟩
abbrev c_C_isLambda : ByteArray := prog_1_method_24_code
def y_C_isLambda : MethodName := ⟨R_C, "isLambda", "(I)Z"⟩
abbrev c_C_isNumber : ByteArray := prog_1_method_21_code
def y_C_isNumber : MethodName := ⟨R_C, "isNumber", "(I)Z"⟩
abbrev c_C_isPrimitive : ByteArray := prog_1_method_22_code
def y_C_isPrimitive : MethodName := ⟨R_C, "isPrimitive", "(I)Z"⟩
abbrev c_C_clear : ByteArray := prog_1_method_4_code
def y_C_clear : MethodName := ⟨R_C, "clear", "()V"⟩
abbrev c_P_empty : ByteArray := prog_4_method_2_code
def y_P_empty : MethodName := ⟨R_P, "empty", "()V"⟩
abbrev c_C_lambdas : ByteArray := prog_1_method_5_code
def y_C_lambdas : MethodName := ⟨R_C, "lambdas", "()I"⟩
abbrev c_P_size : ByteArray := prog_4_method_3_code
def y_P_size : MethodName := ⟨R_P, "size", "()I"⟩
abbrev c_C_atom : ByteArray := prog_1_method_6_code
def y_C_atom : MethodName := ⟨R_C, "atom", "(II)I"⟩
abbrev c_P_hasAtom : ByteArray := prog_4_method_6_code
def y_P_hasAtom : MethodName := ⟨R_P, "hasAtom", "(II)Z"⟩
abbrev c_P_atomOf : ByteArray := prog_4_method_9_code
def y_P_atomOf : MethodName := ⟨R_P, "atomOf", "(II)I"⟩
abbrev c_C_start : ByteArray := prog_1_method_7_code
def y_C_start : MethodName := ⟨R_C, "start", "()V"⟩
abbrev c_M_begin : ByteArray := prog_3_method_3_code
def y_M_begin : MethodName := ⟨R_M, "begin", "()V"⟩
abbrev c_JA_fill : ByteArray := prog_8_method_103_code
def y_JA_fill : MethodName := ⟨R_JA, "fill", "([II)V"⟩
abbrev c_C_step : ByteArray := prog_1_method_8_code
def y_C_step : MethodName := ⟨R_C, "step", "(I)I"⟩
abbrev c_M_isStarted : ByteArray := prog_3_method_4_code
def y_M_isStarted : MethodName := ⟨R_M, "isStarted", "()Z"⟩
abbrev c_M_advance : ByteArray := prog_3_method_10_code
def y_M_advance : MethodName := ⟨R_M, "advance", "(I)I"⟩
abbrev c_M_tryStep : ByteArray := prog_3_method_11_code
def y_M_tryStep : MethodName := ⟨R_M, "tryStep", "()V"⟩
abbrev c_M_place : ByteArray := prog_3_method_6_code
def y_M_place : MethodName := ⟨R_M, "place", "()I"⟩
abbrev c_P_callLength : ByteArray := prog_4_method_8_code
def y_P_callLength : MethodName := ⟨R_P, "callLength", "(I)I"⟩
abbrev c_M_meaning : ByteArray := prog_3_method_12_code
def y_M_meaning : MethodName := ⟨R_M, "meaning", "(I)I"⟩
abbrev c_M_bound : ByteArray := prog_3_method_9_code
def y_M_bound : MethodName := ⟨R_M, "bound", "(II)I"⟩
abbrev c_M_applyOperator : ByteArray := prog_3_method_13_code
def y_M_applyOperator : MethodName := ⟨R_M, "applyOperator", "(I)V"⟩
abbrev c_M_applyDirectly : ByteArray := prog_3_method_14_code
def y_M_applyDirectly : MethodName := ⟨R_M, "applyDirectly", "(II)V"⟩
abbrev c_C_told : ByteArray := prog_1_method_27_code
def y_C_told : MethodName := ⟨R_C, "told", "(I)I"⟩
abbrev c_P_paramsOf : ByteArray := prog_4_method_7_code
def y_P_paramsOf : MethodName := ⟨R_P, "paramsOf", "(I)I"⟩
abbrev c_M_enter : ByteArray := prog_3_method_15_code
def y_M_enter : MethodName := ⟨R_M, "enter", "(III)V"⟩
abbrev c_C_state : ByteArray := prog_1_method_9_code
def y_C_state : MethodName := ⟨R_C, "state", "()I"⟩
abbrev c_M_phase : ByteArray := prog_3_method_5_code
def y_M_phase : MethodName := ⟨R_M, "phase", "()I"⟩
abbrev c_C_at : ByteArray := prog_1_method_10_code
def y_C_at : MethodName := ⟨R_C, "at", "()I"⟩
abbrev c_C_value : ByteArray := prog_1_method_11_code
def y_C_value : MethodName := ⟨R_C, "value", "(II)I"⟩
abbrev c_C_result : ByteArray := prog_1_method_12_code
def y_C_result : MethodName := ⟨R_C, "result", "()I"⟩
abbrev c_M_outcome : ByteArray := prog_3_method_7_code
def y_M_outcome : MethodName := ⟨R_M, "outcome", "()I"⟩
abbrev c_C_called : ByteArray := prog_1_method_13_code
def y_C_called : MethodName := ⟨R_C, "called", "(I)I"⟩
abbrev c_M_calledFrom : ByteArray := prog_3_method_8_code
def y_M_calledFrom : MethodName := ⟨R_M, "calledFrom", "(I)I"⟩
abbrev c_C_analyse : ByteArray := prog_1_method_14_code
def y_C_analyse : MethodName := ⟨R_C, "analyse", "(I)I"⟩
abbrev c_A_make : ByteArray := prog_2_method_9_code
def y_A_make : MethodName := ⟨R_A, "make", "(I)I"⟩
abbrev c_A_emptySets : ByteArray := prog_2_method_10_code
def y_A_emptySets : MethodName := ⟨R_A, "emptySets", "()V"⟩
abbrev c_JA_fill_JJV : ByteArray := prog_8_method_101_code
def y_JA_fill_JJV : MethodName := ⟨R_JA, "fill", "([JJ)V"⟩
abbrev c_A_pair : ByteArray := prog_2_method_20_code
def y_A_pair : MethodName := ⟨R_A, "pair", "(II)J"⟩
abbrev c_A_hasPair : ByteArray := prog_2_method_21_code
def y_A_hasPair : MethodName := ⟨R_A, "hasPair", "(JI)Z"⟩
abbrev c_A_visit : ByteArray := prog_2_method_11_code
def y_A_visit : MethodName := ⟨R_A, "visit", "(III)V"⟩
abbrev c_A_loadOperand : ByteArray := prog_2_method_12_code
def y_A_loadOperand : MethodName := ⟨R_A, "loadOperand", "(III)V"⟩
abbrev c_A_slot : ByteArray := prog_2_method_19_code
def y_A_slot : MethodName := ⟨R_A, "slot", "(III)I"⟩
abbrev c_A_constantBit : ByteArray := prog_2_method_23_code
def y_A_constantBit : MethodName := ⟨R_A, "constantBit", "(I)I"⟩
abbrev c_A_applyDirectly : ByteArray := prog_2_method_14_code
def y_A_applyDirectly : MethodName := ⟨R_A, "applyDirectly", "(III)V"⟩
abbrev c_A_enter : ByteArray := prog_2_method_15_code
def y_A_enter : MethodName := ⟨R_A, "enter", "(III)V"⟩
abbrev c_A_addState : ByteArray := prog_2_method_16_code
def y_A_addState : MethodName := ⟨R_A, "addState", "(I)V"⟩
abbrev c_A_widen : ByteArray := prog_2_method_18_code
def y_A_widen : MethodName := ⟨R_A, "widen", "(IIJ)V"⟩
abbrev c_P_lineageOf : ByteArray := prog_4_method_10_code
def y_P_lineageOf : MethodName := ⟨R_P, "lineageOf", "(I)I"⟩
abbrev c_A_carryOver : ByteArray := prog_2_method_17_code
def y_A_carryOver : MethodName := ⟨R_A, "carryOver", "(II)V"⟩
abbrev c_A_loadSums : ByteArray := prog_2_method_13_code
def y_A_loadSums : MethodName := ⟨R_A, "loadSums", "(II)Z"⟩
abbrev c_JL_bitCount : ByteArray := prog_7_method_50_code
def y_JL_bitCount : MethodName := ⟨R_JL, "bitCount", "(J)I"⟩
abbrev c_C_flow : ByteArray := prog_1_method_15_code
def y_C_flow : MethodName := ⟨R_C, "flow", "(I)I"⟩
abbrev c_A_isMade : ByteArray := prog_2_method_3_code
def y_A_isMade : MethodName := ⟨R_A, "isMade", "()Z"⟩
abbrev c_A_flowFrom : ByteArray := prog_2_method_4_code
def y_A_flowFrom : MethodName := ⟨R_A, "flowFrom", "(I)I"⟩
abbrev c_C_contours : ByteArray := prog_1_method_16_code
def y_C_contours : MethodName := ⟨R_C, "contours", "(I)I"⟩
abbrev c_A_contoursOf : ByteArray := prog_2_method_5_code
def y_A_contoursOf : MethodName := ⟨R_A, "contoursOf", "(I)I"⟩
abbrev c_A_contoursIn : ByteArray := prog_2_method_22_code
def y_A_contoursIn : MethodName := ⟨R_A, "contoursIn", "(JI)I"⟩
abbrev c_C_constants : ByteArray := prog_1_method_17_code
def y_C_constants : MethodName := ⟨R_C, "constants", "(II)I"⟩
abbrev c_A_constantsIn : ByteArray := prog_2_method_7_code
def y_A_constantsIn : MethodName := ⟨R_A, "constantsIn", "(II)I"⟩
abbrev c_C_closures : ByteArray := prog_1_method_18_code
def y_C_closures : MethodName := ⟨R_C, "closures", "(II)I"⟩
abbrev c_A_lambdasIn : ByteArray := prog_2_method_8_code
def y_A_lambdasIn : MethodName := ⟨R_A, "lambdasIn", "(II)I"⟩
abbrev c_C_results : ByteArray := prog_1_method_19_code
def y_C_results : MethodName := ⟨R_C, "results", "()I"⟩
abbrev c_A_outcomes : ByteArray := prog_2_method_6_code
def y_A_outcomes : MethodName := ⟨R_A, "outcomes", "()I"⟩
abbrev c_R_init : ByteArray := prog_6_method_1_code
def y_R_init : MethodName := ⟨R_R, "<init>", "()V"⟩
abbrev c_R_lambda : ByteArray := prog_6_method_4_code
def y_R_lambda : MethodName := ⟨R_R, "lambda", "(II)I"⟩
abbrev c_R_isLambda : ByteArray := prog_6_method_2_code
def y_R_isLambda : MethodName := ⟨R_R, "isLambda", "(I)Z"⟩
abbrev c_R_change : ByteArray := prog_6_method_3_code
def y_R_change : MethodName := ⟨R_R, "change", "()V"⟩
abbrev c_R_put : ByteArray := prog_6_method_7_code
def y_R_put : MethodName := ⟨R_R, "put", "(II)Z"⟩
abbrev c_R_mayStand : ByteArray := prog_6_method_6_code
def y_R_mayStand : MethodName := ⟨R_R, "mayStand", "(II)Z"⟩
abbrev c_R_around : ByteArray := prog_6_method_5_code
def y_R_around : MethodName := ⟨R_R, "around", "(II)Z"⟩
abbrev c_R_clear : ByteArray := prog_6_method_8_code
def y_R_clear : MethodName := ⟨R_R, "clear", "()V"⟩
abbrev c_R_lambdas : ByteArray := prog_6_method_9_code
def y_R_lambdas : MethodName := ⟨R_R, "lambdas", "()I"⟩
abbrev c_R_atom : ByteArray := prog_6_method_10_code
def y_R_atom : MethodName := ⟨R_R, "atom", "(II)I"⟩
abbrev c_R_start : ByteArray := prog_6_method_11_code
def y_R_start : MethodName := ⟨R_R, "start", "()V"⟩
abbrev c_R_step : ByteArray := prog_6_method_17_code
def y_R_step : MethodName := ⟨R_R, "step", "(I)I"⟩
abbrev c_R_move : ByteArray := prog_6_method_15_code
def y_R_move : MethodName := ⟨R_R, "move", "()Z"⟩
abbrev c_R_valueOf : ByteArray := prog_6_method_13_code
def y_R_valueOf : MethodName := ⟨R_R, "valueOf", "(I)I"⟩
abbrev c_R_envOf : ByteArray := prog_6_method_12_code
def y_R_envOf : MethodName := ⟨R_R, "envOf", "(II)I"⟩
abbrev c_R_isNumber : ByteArray := prog_6_method_14_code
def y_R_isNumber : MethodName := ⟨R_R, "isNumber", "(I)Z"⟩
abbrev c_R_enter : ByteArray := prog_6_method_16_code
def y_R_enter : MethodName := ⟨R_R, "enter", "(III)V"⟩
abbrev c_R_state : ByteArray := prog_6_method_18_code
def y_R_state : MethodName := ⟨R_R, "state", "()I"⟩
abbrev c_R_at : ByteArray := prog_6_method_19_code
def y_R_at : MethodName := ⟨R_R, "at", "()I"⟩
abbrev c_R_value : ByteArray := prog_6_method_21_code
def y_R_value : MethodName := ⟨R_R, "value", "(II)I"⟩
abbrev c_R_told : ByteArray := prog_6_method_20_code
def y_R_told : MethodName := ⟨R_R, "told", "(I)I"⟩
abbrev c_R_result : ByteArray := prog_6_method_22_code
def y_R_result : MethodName := ⟨R_R, "result", "()I"⟩
abbrev c_R_called : ByteArray := prog_6_method_23_code
def y_R_called : MethodName := ⟨R_R, "called", "(I)I"⟩
abbrev c_R_analyse : ByteArray := prog_6_method_31_code
def y_R_analyse : MethodName := ⟨R_R, "analyse", "(I)I"⟩
abbrev c_R_visit : ByteArray := prog_6_method_30_code
def y_R_visit : MethodName := ⟨R_R, "visit", "(II)V"⟩
abbrev c_R_look : ByteArray := prog_6_method_25_code
def y_R_look : MethodName := ⟨R_R, "look", "(III)V"⟩
abbrev c_R_applyPairs : ByteArray := prog_6_method_26_code
def y_R_applyPairs : MethodName := ⟨R_R, "applyPairs", "(JIII)V"⟩
abbrev c_R_callPair : ByteArray := prog_6_method_27_code
def y_R_callPair : MethodName := ⟨R_R, "callPair", "(IIII)V"⟩
abbrev c_R_grow : ByteArray := prog_6_method_24_code
def y_R_grow : MethodName := ⟨R_R, "grow", "(IIJ)V"⟩
abbrev c_R_answer : ByteArray := prog_6_method_28_code
def y_R_answer : MethodName := ⟨R_R, "answer", "(I)V"⟩
abbrev c_R_sums : ByteArray := prog_6_method_29_code
def y_R_sums : MethodName := ⟨R_R, "sums", "(II)I"⟩
abbrev c_R_flow : ByteArray := prog_6_method_32_code
def y_R_flow : MethodName := ⟨R_R, "flow", "(I)I"⟩
abbrev c_R_contours : ByteArray := prog_6_method_33_code
def y_R_contours : MethodName := ⟨R_R, "contours", "(I)I"⟩
abbrev c_R_constants : ByteArray := prog_6_method_35_code
def y_R_constants : MethodName := ⟨R_R, "constants", "(II)I"⟩
abbrev c_R_isParameter : ByteArray := prog_6_method_34_code
def y_R_isParameter : MethodName := ⟨R_R, "isParameter", "(II)Z"⟩
abbrev c_R_closures : ByteArray := prog_6_method_36_code
def y_R_closures : MethodName := ⟨R_R, "closures", "(II)I"⟩
abbrev c_R_results : ByteArray := prog_6_method_37_code
def y_R_results : MethodName := ⟨R_R, "results", "()I"⟩
theorem in_A : ∀ w ∈ u_ws R_A F_A 12, w ∈ big := by
  intro w hw
  rw [show u_ws R_A F_A 12 = ([125, 127, 129, 131, 133, 135, 137, 139, 141, 143, 145, 147] : List Nat).filterMap (fun i => lw_tbl[i]?) from by decide +kernel] at hw
  obtain ⟨i, -, hi⟩ := List.mem_filterMap.mp hw
  exact List.mem_filter.mpr ⟨List.mem_of_getElem? hi, List.all_eq_true.mp (show (([125, 127, 129, 131, 133, 135, 137, 139, 141, 143, 145, 147] : List Nat).filterMap (fun i => lw_tbl[i]?)).all okb = true from by decide +kernel) w hw⟩
theorem in_M : ∀ w ∈ u_ws R_M F_M 9, w ∈ big := by
  intro w hw
  rw [show u_ws R_M F_M 9 = ([88, 90, 92, 94, 96, 98, 100, 102, 104] : List Nat).filterMap (fun i => lw_tbl[i]?) from by decide +kernel] at hw
  obtain ⟨i, -, hi⟩ := List.mem_filterMap.mp hw
  exact List.mem_filter.mpr ⟨List.mem_of_getElem? hi, List.all_eq_true.mp (show (([88, 90, 92, 94, 96, 98, 100, 102, 104] : List Nat).filterMap (fun i => lw_tbl[i]?)).all okb = true from by decide +kernel) w hw⟩
theorem in_P : ∀ w ∈ u_ws R_P F_P 6, w ∈ big := by
  intro w hw
  rw [show u_ws R_P F_P 6 = ([59, 61, 63, 65, 67, 69] : List Nat).filterMap (fun i => lw_tbl[i]?) from by decide +kernel] at hw
  obtain ⟨i, -, hi⟩ := List.mem_filterMap.mp hw
  exact List.mem_filter.mpr ⟨List.mem_of_getElem? hi, List.all_eq_true.mp (show (([59, 61, 63, 65, 67, 69] : List Nat).filterMap (fun i => lw_tbl[i]?)).all okb = true from by decide +kernel) w hw⟩
theorem in_C : ∀ w ∈ u_ws R_C F_C 3, w ∈ big := by
  intro w hw
  rw [show u_ws R_C F_C 3 = ([154, 156, 158] : List Nat).filterMap (fun i => lw_tbl[i]?) from by decide +kernel] at hw
  obtain ⟨i, -, hi⟩ := List.mem_filterMap.mp hw
  exact List.mem_filter.mpr ⟨List.mem_of_getElem? hi, List.all_eq_true.mp (show (([154, 156, 158] : List Nat).filterMap (fun i => lw_tbl[i]?)).all okb = true from by decide +kernel) w hw⟩
theorem in_R : ∀ w ∈ u_ws R_R F_R 25, w ∈ big := by
  intro w hw
  rw [show u_ws R_R F_R 25 = ([513, 515, 517, 519, 521, 523, 525, 527, 529, 531, 533, 535, 537, 539, 541, 543, 545, 547, 549, 551, 553, 555, 557, 559, 561] : List Nat).filterMap (fun i => lw_tbl[i]?) from by decide +kernel] at hw
  obtain ⟨i, -, hi⟩ := List.mem_filterMap.mp hw
  exact List.mem_filter.mpr ⟨List.mem_of_getElem? hi, List.all_eq_true.mp (show (([513, 515, 517, 519, 521, 523, 525, 527, 529, 531, 533, 535, 537, 539, 541, 543, 545, 547, 549, 551, 553, 555, 557, 559, 561] : List Nat).filterMap (fun i => lw_tbl[i]?)).all okb = true from by decide +kernel) w hw⟩
theorem w_C_init : Cond.code y_C_init c_C_init 1 none ∈ big := big_of 43 (by decide +kernel) rfl
theorem wi_C_init : Cond.instanceMethod y_C_init ∈ big := big_of 42 (by decide +kernel) rfl
theorem wd_C_init : y_C_init.cls ≠ "java/lang/invoke/MethodHandle" ∧ y_C_init.cls ≠ "java/lang/invoke/VarHandle" ∧ (parseMethodDescriptor y_C_init.desc).map (fun d => d.parameters.length) = some 0 := by decide +kernel
theorem w_JO_init : Cond.code y_JO_init c_JO_init 1 none ∈ big := big_of 46 (by decide +kernel) rfl
theorem wi_JO_init : Cond.instanceMethod y_JO_init ∈ big := big_of 45 (by decide +kernel) rfl
theorem wd_JO_init : y_JO_init.cls ≠ "java/lang/invoke/MethodHandle" ∧ y_JO_init.cls ≠ "java/lang/invoke/VarHandle" ∧ (parseMethodDescriptor y_JO_init.desc).map (fun d => d.parameters.length) = some 0 := by decide +kernel
theorem w_P_init : Cond.code y_P_init c_P_init 1 none ∈ big := big_of 51 (by decide +kernel) rfl
theorem wi_P_init : Cond.instanceMethod y_P_init ∈ big := big_of 50 (by decide +kernel) rfl
theorem wd_P_init : y_P_init.cls ≠ "java/lang/invoke/MethodHandle" ∧ y_P_init.cls ≠ "java/lang/invoke/VarHandle" ∧ (parseMethodDescriptor y_P_init.desc).map (fun d => d.parameters.length) = some 0 := by decide +kernel
theorem w_M_init : Cond.code y_M_init c_M_init 2 none ∈ big := big_of 77 (by decide +kernel) rfl
theorem wi_M_init : Cond.instanceMethod y_M_init ∈ big := big_of 76 (by decide +kernel) rfl
theorem wd_M_init : y_M_init.cls ≠ "java/lang/invoke/MethodHandle" ∧ y_M_init.cls ≠ "java/lang/invoke/VarHandle" ∧ (parseMethodDescriptor y_M_init.desc).map (fun d => d.parameters.length) = some 1 := by decide +kernel
theorem w_A_init : Cond.code y_A_init c_A_init 2 none ∈ big := big_of 111 (by decide +kernel) rfl
theorem wi_A_init : Cond.instanceMethod y_A_init ∈ big := big_of 110 (by decide +kernel) rfl
theorem wd_A_init : y_A_init.cls ≠ "java/lang/invoke/MethodHandle" ∧ y_A_init.cls ≠ "java/lang/invoke/VarHandle" ∧ (parseMethodDescriptor y_A_init.desc).map (fun d => d.parameters.length) = some 1 := by decide +kernel
theorem w_C_lambda : Cond.code y_C_lambda c_C_lambda 4 (some .int) ∈ big := big_of 164 (by decide +kernel) rfl
theorem wi_C_lambda : Cond.instanceMethod y_C_lambda ∈ big := big_of 162 (by decide +kernel) rfl
theorem wv_C_lambda : Cond.selects R_C y_C_lambda y_C_lambda ∈ big := big_of 163 (by decide +kernel) rfl
theorem wd_C_lambda : y_C_lambda.cls ≠ "java/lang/invoke/MethodHandle" ∧ y_C_lambda.cls ≠ "java/lang/invoke/VarHandle" ∧ (parseMethodDescriptor y_C_lambda.desc).map (fun d => d.parameters.length) = some 2 := by decide +kernel
theorem w_P_makeLambda : Cond.code y_P_makeLambda c_P_makeLambda 4 (some .int) ∈ big := big_of 168 (by decide +kernel) rfl
theorem wi_P_makeLambda : Cond.instanceMethod y_P_makeLambda ∈ big := big_of 166 (by decide +kernel) rfl
theorem wv_P_makeLambda : Cond.selects R_P y_P_makeLambda y_P_makeLambda ∈ big := big_of 167 (by decide +kernel) rfl
theorem wd_P_makeLambda : y_P_makeLambda.cls ≠ "java/lang/invoke/MethodHandle" ∧ y_P_makeLambda.cls ≠ "java/lang/invoke/VarHandle" ∧ (parseMethodDescriptor y_P_makeLambda.desc).map (fun d => d.parameters.length) = some 2 := by decide +kernel
theorem w_P_hasLambda : Cond.code y_P_hasLambda c_P_hasLambda 2 (some .boolean) ∈ big := big_of 172 (by decide +kernel) rfl
theorem wi_P_hasLambda : Cond.instanceMethod y_P_hasLambda ∈ big := big_of 170 (by decide +kernel) rfl
theorem wv_P_hasLambda : Cond.selects R_P y_P_hasLambda y_P_hasLambda ∈ big := big_of 171 (by decide +kernel) rfl
theorem wd_P_hasLambda : y_P_hasLambda.cls ≠ "java/lang/invoke/MethodHandle" ∧ y_P_hasLambda.cls ≠ "java/lang/invoke/VarHandle" ∧ (parseMethodDescriptor y_P_hasLambda.desc).map (fun d => d.parameters.length) = some 1 := by decide +kernel
theorem w_C_forgetRuns : Cond.code y_C_forgetRuns c_C_forgetRuns 1 none ∈ big := big_of 176 (by decide +kernel) rfl
theorem wi_C_forgetRuns : Cond.instanceMethod y_C_forgetRuns ∈ big := big_of 175 (by decide +kernel) rfl
theorem wv_C_forgetRuns : Cond.selects R_C y_C_forgetRuns y_C_forgetRuns ∈ big := big_of 0 (by decide +kernel) rfl
theorem wd_C_forgetRuns : y_C_forgetRuns.cls ≠ "java/lang/invoke/MethodHandle" ∧ y_C_forgetRuns.cls ≠ "java/lang/invoke/VarHandle" ∧ (parseMethodDescriptor y_C_forgetRuns.desc).map (fun d => d.parameters.length) = some 0 := by decide +kernel
theorem w_M_forget : Cond.code y_M_forget c_M_forget 1 none ∈ big := big_of 180 (by decide +kernel) rfl
theorem wi_M_forget : Cond.instanceMethod y_M_forget ∈ big := big_of 178 (by decide +kernel) rfl
theorem wv_M_forget : Cond.selects R_M y_M_forget y_M_forget ∈ big := big_of 179 (by decide +kernel) rfl
theorem wd_M_forget : y_M_forget.cls ≠ "java/lang/invoke/MethodHandle" ∧ y_M_forget.cls ≠ "java/lang/invoke/VarHandle" ∧ (parseMethodDescriptor y_M_forget.desc).map (fun d => d.parameters.length) = some 0 := by decide +kernel
theorem w_A_forget : Cond.code y_A_forget c_A_forget 1 none ∈ big := big_of 184 (by decide +kernel) rfl
theorem wi_A_forget : Cond.instanceMethod y_A_forget ∈ big := big_of 182 (by decide +kernel) rfl
theorem wv_A_forget : Cond.selects R_A y_A_forget y_A_forget ∈ big := big_of 183 (by decide +kernel) rfl
theorem wd_A_forget : y_A_forget.cls ≠ "java/lang/invoke/MethodHandle" ∧ y_A_forget.cls ≠ "java/lang/invoke/VarHandle" ∧ (parseMethodDescriptor y_A_forget.desc).map (fun d => d.parameters.length) = some 0 := by decide +kernel
theorem w_C_put : Cond.code y_C_put c_C_put 4 (some .boolean) ∈ big := big_of 188 (by decide +kernel) rfl
theorem wi_C_put : Cond.instanceMethod y_C_put ∈ big := big_of 186 (by decide +kernel) rfl
theorem wv_C_put : Cond.selects R_C y_C_put y_C_put ∈ big := big_of 187 (by decide +kernel) rfl
theorem wd_C_put : y_C_put.cls ≠ "java/lang/invoke/MethodHandle" ∧ y_C_put.cls ≠ "java/lang/invoke/VarHandle" ∧ (parseMethodDescriptor y_C_put.desc).map (fun d => d.parameters.length) = some 2 := by decide +kernel
theorem w_P_append : Cond.code y_P_append c_P_append 3 (some .boolean) ∈ big := big_of 192 (by decide +kernel) rfl
theorem wi_P_append : Cond.instanceMethod y_P_append ∈ big := big_of 190 (by decide +kernel) rfl
theorem wv_P_append : Cond.selects R_P y_P_append y_P_append ∈ big := big_of 191 (by decide +kernel) rfl
theorem wd_P_append : y_P_append.cls ≠ "java/lang/invoke/MethodHandle" ∧ y_P_append.cls ≠ "java/lang/invoke/VarHandle" ∧ (parseMethodDescriptor y_P_append.desc).map (fun d => d.parameters.length) = some 2 := by decide +kernel
theorem w_P_mayStand : Cond.code y_P_mayStand c_P_mayStand 4 (some .boolean) ∈ big := big_of 196 (by decide +kernel) rfl
theorem wi_P_mayStand : Cond.instanceMethod y_P_mayStand ∈ big := big_of 195 (by decide +kernel) rfl
theorem wv_P_mayStand : Cond.selects R_P y_P_mayStand y_P_mayStand ∈ big := big_of 1 (by decide +kernel) rfl
theorem wd_P_mayStand : y_P_mayStand.cls ≠ "java/lang/invoke/MethodHandle" ∧ y_P_mayStand.cls ≠ "java/lang/invoke/VarHandle" ∧ (parseMethodDescriptor y_P_mayStand.desc).map (fun d => d.parameters.length) = some 2 := by decide +kernel
theorem w_C_isParameter : Cond.code y_C_isParameter c_C_isParameter 1 (some .boolean) ∈ big := big_of 199 (by decide +kernel) rfl
theorem ws_C_isParameter : Cond.static y_C_isParameter ∈ big := big_of 198 (by decide +kernel) rfl
theorem wd_C_isParameter : y_C_isParameter.cls ≠ "java/lang/invoke/MethodHandle" ∧ y_C_isParameter.cls ≠ "java/lang/invoke/VarHandle" ∧ (parseMethodDescriptor y_C_isParameter.desc).map (fun d => d.parameters.length) = some 1 := by decide +kernel
theorem w_C_lambdaOfParameter : Cond.code y_C_lambdaOfParameter c_C_lambdaOfParameter 1 (some .int) ∈ big := big_of 202 (by decide +kernel) rfl
theorem ws_C_lambdaOfParameter : Cond.static y_C_lambdaOfParameter ∈ big := big_of 201 (by decide +kernel) rfl
theorem wd_C_lambdaOfParameter : y_C_lambdaOfParameter.cls ≠ "java/lang/invoke/MethodHandle" ∧ y_C_lambdaOfParameter.cls ≠ "java/lang/invoke/VarHandle" ∧ (parseMethodDescriptor y_C_lambdaOfParameter.desc).map (fun d => d.parameters.length) = some 1 := by decide +kernel
theorem w_C_indexOfParameter : Cond.code y_C_indexOfParameter c_C_indexOfParameter 1 (some .int) ∈ big := big_of 205 (by decide +kernel) rfl
theorem ws_C_indexOfParameter : Cond.static y_C_indexOfParameter ∈ big := big_of 204 (by decide +kernel) rfl
theorem wd_C_indexOfParameter : y_C_indexOfParameter.cls ≠ "java/lang/invoke/MethodHandle" ∧ y_C_indexOfParameter.cls ≠ "java/lang/invoke/VarHandle" ∧ (parseMethodDescriptor y_C_indexOfParameter.desc).map (fun d => d.parameters.length) = some 1 := by decide +kernel
theorem w_P_hasParameter : Cond.code y_P_hasParameter c_P_hasParameter 3 (some .boolean) ∈ big := big_of 209 (by decide +kernel) rfl
theorem wi_P_hasParameter : Cond.instanceMethod y_P_hasParameter ∈ big := big_of 207 (by decide +kernel) rfl
theorem wv_P_hasParameter : Cond.selects R_P y_P_hasParameter y_P_hasParameter ∈ big := big_of 208 (by decide +kernel) rfl
theorem wd_P_hasParameter : y_P_hasParameter.cls ≠ "java/lang/invoke/MethodHandle" ∧ y_P_hasParameter.cls ≠ "java/lang/invoke/VarHandle" ∧ (parseMethodDescriptor y_P_hasParameter.desc).map (fun d => d.parameters.length) = some 2 := by decide +kernel
theorem w_C_has : Cond.code y_C_has c_C_has 2 (some .boolean) ∈ big := big_of 212 (by decide +kernel) rfl
theorem ws_C_has : Cond.static y_C_has ∈ big := big_of 211 (by decide +kernel) rfl
theorem wd_C_has : y_C_has.cls ≠ "java/lang/invoke/MethodHandle" ∧ y_C_has.cls ≠ "java/lang/invoke/VarHandle" ∧ (parseMethodDescriptor y_C_has.desc).map (fun d => d.parameters.length) = some 2 := by decide +kernel
theorem w_C_isLambda : Cond.code y_C_isLambda c_C_isLambda 1 (some .boolean) ∈ big := big_of 215 (by decide +kernel) rfl
theorem ws_C_isLambda : Cond.static y_C_isLambda ∈ big := big_of 214 (by decide +kernel) rfl
theorem wd_C_isLambda : y_C_isLambda.cls ≠ "java/lang/invoke/MethodHandle" ∧ y_C_isLambda.cls ≠ "java/lang/invoke/VarHandle" ∧ (parseMethodDescriptor y_C_isLambda.desc).map (fun d => d.parameters.length) = some 1 := by decide +kernel
theorem w_C_isNumber : Cond.code y_C_isNumber c_C_isNumber 1 (some .boolean) ∈ big := big_of 218 (by decide +kernel) rfl
theorem ws_C_isNumber : Cond.static y_C_isNumber ∈ big := big_of 217 (by decide +kernel) rfl
theorem wd_C_isNumber : y_C_isNumber.cls ≠ "java/lang/invoke/MethodHandle" ∧ y_C_isNumber.cls ≠ "java/lang/invoke/VarHandle" ∧ (parseMethodDescriptor y_C_isNumber.desc).map (fun d => d.parameters.length) = some 1 := by decide +kernel
theorem w_C_isPrimitive : Cond.code y_C_isPrimitive c_C_isPrimitive 1 (some .boolean) ∈ big := big_of 221 (by decide +kernel) rfl
theorem ws_C_isPrimitive : Cond.static y_C_isPrimitive ∈ big := big_of 220 (by decide +kernel) rfl
theorem wd_C_isPrimitive : y_C_isPrimitive.cls ≠ "java/lang/invoke/MethodHandle" ∧ y_C_isPrimitive.cls ≠ "java/lang/invoke/VarHandle" ∧ (parseMethodDescriptor y_C_isPrimitive.desc).map (fun d => d.parameters.length) = some 1 := by decide +kernel
theorem w_C_clear : Cond.code y_C_clear c_C_clear 1 none ∈ big := big_of 225 (by decide +kernel) rfl
theorem wi_C_clear : Cond.instanceMethod y_C_clear ∈ big := big_of 223 (by decide +kernel) rfl
theorem wv_C_clear : Cond.selects R_C y_C_clear y_C_clear ∈ big := big_of 224 (by decide +kernel) rfl
theorem wd_C_clear : y_C_clear.cls ≠ "java/lang/invoke/MethodHandle" ∧ y_C_clear.cls ≠ "java/lang/invoke/VarHandle" ∧ (parseMethodDescriptor y_C_clear.desc).map (fun d => d.parameters.length) = some 0 := by decide +kernel
theorem w_P_empty : Cond.code y_P_empty c_P_empty 1 none ∈ big := big_of 229 (by decide +kernel) rfl
theorem wi_P_empty : Cond.instanceMethod y_P_empty ∈ big := big_of 227 (by decide +kernel) rfl
theorem wv_P_empty : Cond.selects R_P y_P_empty y_P_empty ∈ big := big_of 228 (by decide +kernel) rfl
theorem wd_P_empty : y_P_empty.cls ≠ "java/lang/invoke/MethodHandle" ∧ y_P_empty.cls ≠ "java/lang/invoke/VarHandle" ∧ (parseMethodDescriptor y_P_empty.desc).map (fun d => d.parameters.length) = some 0 := by decide +kernel
theorem w_C_lambdas : Cond.code y_C_lambdas c_C_lambdas 1 (some .int) ∈ big := big_of 233 (by decide +kernel) rfl
theorem wi_C_lambdas : Cond.instanceMethod y_C_lambdas ∈ big := big_of 231 (by decide +kernel) rfl
theorem wv_C_lambdas : Cond.selects R_C y_C_lambdas y_C_lambdas ∈ big := big_of 232 (by decide +kernel) rfl
theorem wd_C_lambdas : y_C_lambdas.cls ≠ "java/lang/invoke/MethodHandle" ∧ y_C_lambdas.cls ≠ "java/lang/invoke/VarHandle" ∧ (parseMethodDescriptor y_C_lambdas.desc).map (fun d => d.parameters.length) = some 0 := by decide +kernel
theorem w_P_size : Cond.code y_P_size c_P_size 1 (some .int) ∈ big := big_of 237 (by decide +kernel) rfl
theorem wi_P_size : Cond.instanceMethod y_P_size ∈ big := big_of 235 (by decide +kernel) rfl
theorem wv_P_size : Cond.selects R_P y_P_size y_P_size ∈ big := big_of 236 (by decide +kernel) rfl
theorem wd_P_size : y_P_size.cls ≠ "java/lang/invoke/MethodHandle" ∧ y_P_size.cls ≠ "java/lang/invoke/VarHandle" ∧ (parseMethodDescriptor y_P_size.desc).map (fun d => d.parameters.length) = some 0 := by decide +kernel
theorem w_C_atom : Cond.code y_C_atom c_C_atom 3 (some .int) ∈ big := big_of 241 (by decide +kernel) rfl
theorem wi_C_atom : Cond.instanceMethod y_C_atom ∈ big := big_of 239 (by decide +kernel) rfl
theorem wv_C_atom : Cond.selects R_C y_C_atom y_C_atom ∈ big := big_of 240 (by decide +kernel) rfl
theorem wd_C_atom : y_C_atom.cls ≠ "java/lang/invoke/MethodHandle" ∧ y_C_atom.cls ≠ "java/lang/invoke/VarHandle" ∧ (parseMethodDescriptor y_C_atom.desc).map (fun d => d.parameters.length) = some 2 := by decide +kernel
theorem w_P_hasAtom : Cond.code y_P_hasAtom c_P_hasAtom 3 (some .boolean) ∈ big := big_of 245 (by decide +kernel) rfl
theorem wi_P_hasAtom : Cond.instanceMethod y_P_hasAtom ∈ big := big_of 243 (by decide +kernel) rfl
theorem wv_P_hasAtom : Cond.selects R_P y_P_hasAtom y_P_hasAtom ∈ big := big_of 244 (by decide +kernel) rfl
theorem wd_P_hasAtom : y_P_hasAtom.cls ≠ "java/lang/invoke/MethodHandle" ∧ y_P_hasAtom.cls ≠ "java/lang/invoke/VarHandle" ∧ (parseMethodDescriptor y_P_hasAtom.desc).map (fun d => d.parameters.length) = some 2 := by decide +kernel
theorem w_P_atomOf : Cond.code y_P_atomOf c_P_atomOf 3 (some .int) ∈ big := big_of 249 (by decide +kernel) rfl
theorem wi_P_atomOf : Cond.instanceMethod y_P_atomOf ∈ big := big_of 247 (by decide +kernel) rfl
theorem wv_P_atomOf : Cond.selects R_P y_P_atomOf y_P_atomOf ∈ big := big_of 248 (by decide +kernel) rfl
theorem wd_P_atomOf : y_P_atomOf.cls ≠ "java/lang/invoke/MethodHandle" ∧ y_P_atomOf.cls ≠ "java/lang/invoke/VarHandle" ∧ (parseMethodDescriptor y_P_atomOf.desc).map (fun d => d.parameters.length) = some 2 := by decide +kernel
theorem w_C_start : Cond.code y_C_start c_C_start 1 none ∈ big := big_of 253 (by decide +kernel) rfl
theorem wi_C_start : Cond.instanceMethod y_C_start ∈ big := big_of 251 (by decide +kernel) rfl
theorem wv_C_start : Cond.selects R_C y_C_start y_C_start ∈ big := big_of 252 (by decide +kernel) rfl
theorem wd_C_start : y_C_start.cls ≠ "java/lang/invoke/MethodHandle" ∧ y_C_start.cls ≠ "java/lang/invoke/VarHandle" ∧ (parseMethodDescriptor y_C_start.desc).map (fun d => d.parameters.length) = some 0 := by decide +kernel
theorem w_M_begin : Cond.code y_M_begin c_M_begin 1 none ∈ big := big_of 257 (by decide +kernel) rfl
theorem wi_M_begin : Cond.instanceMethod y_M_begin ∈ big := big_of 255 (by decide +kernel) rfl
theorem wv_M_begin : Cond.selects R_M y_M_begin y_M_begin ∈ big := big_of 256 (by decide +kernel) rfl
theorem wd_M_begin : y_M_begin.cls ≠ "java/lang/invoke/MethodHandle" ∧ y_M_begin.cls ≠ "java/lang/invoke/VarHandle" ∧ (parseMethodDescriptor y_M_begin.desc).map (fun d => d.parameters.length) = some 0 := by decide +kernel
theorem w_JA_fill : Cond.code y_JA_fill c_JA_fill 4 none ∈ big := big_of 260 (by decide +kernel) rfl
theorem ws_JA_fill : Cond.static y_JA_fill ∈ big := big_of 259 (by decide +kernel) rfl
theorem wd_JA_fill : y_JA_fill.cls ≠ "java/lang/invoke/MethodHandle" ∧ y_JA_fill.cls ≠ "java/lang/invoke/VarHandle" ∧ (parseMethodDescriptor y_JA_fill.desc).map (fun d => d.parameters.length) = some 2 := by decide +kernel
theorem w_C_step : Cond.code y_C_step c_C_step 2 (some .int) ∈ big := big_of 264 (by decide +kernel) rfl
theorem wi_C_step : Cond.instanceMethod y_C_step ∈ big := big_of 262 (by decide +kernel) rfl
theorem wv_C_step : Cond.selects R_C y_C_step y_C_step ∈ big := big_of 263 (by decide +kernel) rfl
theorem wd_C_step : y_C_step.cls ≠ "java/lang/invoke/MethodHandle" ∧ y_C_step.cls ≠ "java/lang/invoke/VarHandle" ∧ (parseMethodDescriptor y_C_step.desc).map (fun d => d.parameters.length) = some 1 := by decide +kernel
theorem w_M_isStarted : Cond.code y_M_isStarted c_M_isStarted 1 (some .boolean) ∈ big := big_of 268 (by decide +kernel) rfl
theorem wi_M_isStarted : Cond.instanceMethod y_M_isStarted ∈ big := big_of 266 (by decide +kernel) rfl
theorem wv_M_isStarted : Cond.selects R_M y_M_isStarted y_M_isStarted ∈ big := big_of 267 (by decide +kernel) rfl
theorem wd_M_isStarted : y_M_isStarted.cls ≠ "java/lang/invoke/MethodHandle" ∧ y_M_isStarted.cls ≠ "java/lang/invoke/VarHandle" ∧ (parseMethodDescriptor y_M_isStarted.desc).map (fun d => d.parameters.length) = some 0 := by decide +kernel
theorem w_M_advance : Cond.code y_M_advance c_M_advance 3 (some .int) ∈ big := big_of 272 (by decide +kernel) rfl
theorem wi_M_advance : Cond.instanceMethod y_M_advance ∈ big := big_of 270 (by decide +kernel) rfl
theorem wv_M_advance : Cond.selects R_M y_M_advance y_M_advance ∈ big := big_of 271 (by decide +kernel) rfl
theorem wd_M_advance : y_M_advance.cls ≠ "java/lang/invoke/MethodHandle" ∧ y_M_advance.cls ≠ "java/lang/invoke/VarHandle" ∧ (parseMethodDescriptor y_M_advance.desc).map (fun d => d.parameters.length) = some 1 := by decide +kernel
theorem w_M_tryStep : Cond.code y_M_tryStep c_M_tryStep 3 none ∈ big := big_of 276 (by decide +kernel) rfl
theorem wi_M_tryStep : Cond.instanceMethod y_M_tryStep ∈ big := big_of 275 (by decide +kernel) rfl
theorem wv_M_tryStep : Cond.selects R_M y_M_tryStep y_M_tryStep ∈ big := big_of 2 (by decide +kernel) rfl
theorem wd_M_tryStep : y_M_tryStep.cls ≠ "java/lang/invoke/MethodHandle" ∧ y_M_tryStep.cls ≠ "java/lang/invoke/VarHandle" ∧ (parseMethodDescriptor y_M_tryStep.desc).map (fun d => d.parameters.length) = some 0 := by decide +kernel
theorem w_M_place : Cond.code y_M_place c_M_place 1 (some .int) ∈ big := big_of 280 (by decide +kernel) rfl
theorem wi_M_place : Cond.instanceMethod y_M_place ∈ big := big_of 278 (by decide +kernel) rfl
theorem wv_M_place : Cond.selects R_M y_M_place y_M_place ∈ big := big_of 279 (by decide +kernel) rfl
theorem wd_M_place : y_M_place.cls ≠ "java/lang/invoke/MethodHandle" ∧ y_M_place.cls ≠ "java/lang/invoke/VarHandle" ∧ (parseMethodDescriptor y_M_place.desc).map (fun d => d.parameters.length) = some 0 := by decide +kernel
theorem w_P_callLength : Cond.code y_P_callLength c_P_callLength 2 (some .int) ∈ big := big_of 284 (by decide +kernel) rfl
theorem wi_P_callLength : Cond.instanceMethod y_P_callLength ∈ big := big_of 282 (by decide +kernel) rfl
theorem wv_P_callLength : Cond.selects R_P y_P_callLength y_P_callLength ∈ big := big_of 283 (by decide +kernel) rfl
theorem wd_P_callLength : y_P_callLength.cls ≠ "java/lang/invoke/MethodHandle" ∧ y_P_callLength.cls ≠ "java/lang/invoke/VarHandle" ∧ (parseMethodDescriptor y_P_callLength.desc).map (fun d => d.parameters.length) = some 1 := by decide +kernel
theorem w_M_meaning : Cond.code y_M_meaning c_M_meaning 2 (some .int) ∈ big := big_of 289 (by decide +kernel) rfl
theorem wi_M_meaning : Cond.instanceMethod y_M_meaning ∈ big := big_of 288 (by decide +kernel) rfl
theorem wv_M_meaning : Cond.selects R_M y_M_meaning y_M_meaning ∈ big := big_of 3 (by decide +kernel) rfl
theorem wd_M_meaning : y_M_meaning.cls ≠ "java/lang/invoke/MethodHandle" ∧ y_M_meaning.cls ≠ "java/lang/invoke/VarHandle" ∧ (parseMethodDescriptor y_M_meaning.desc).map (fun d => d.parameters.length) = some 1 := by decide +kernel
theorem w_M_bound : Cond.code y_M_bound c_M_bound 5 (some .int) ∈ big := big_of 296 (by decide +kernel) rfl
theorem wi_M_bound : Cond.instanceMethod y_M_bound ∈ big := big_of 294 (by decide +kernel) rfl
theorem wv_M_bound : Cond.selects R_M y_M_bound y_M_bound ∈ big := big_of 295 (by decide +kernel) rfl
theorem wd_M_bound : y_M_bound.cls ≠ "java/lang/invoke/MethodHandle" ∧ y_M_bound.cls ≠ "java/lang/invoke/VarHandle" ∧ (parseMethodDescriptor y_M_bound.desc).map (fun d => d.parameters.length) = some 2 := by decide +kernel
theorem w_M_applyOperator : Cond.code y_M_applyOperator c_M_applyOperator 3 none ∈ big := big_of 302 (by decide +kernel) rfl
theorem wi_M_applyOperator : Cond.instanceMethod y_M_applyOperator ∈ big := big_of 301 (by decide +kernel) rfl
theorem wv_M_applyOperator : Cond.selects R_M y_M_applyOperator y_M_applyOperator ∈ big := big_of 4 (by decide +kernel) rfl
theorem wd_M_applyOperator : y_M_applyOperator.cls ≠ "java/lang/invoke/MethodHandle" ∧ y_M_applyOperator.cls ≠ "java/lang/invoke/VarHandle" ∧ (parseMethodDescriptor y_M_applyOperator.desc).map (fun d => d.parameters.length) = some 1 := by decide +kernel
theorem w_M_applyDirectly : Cond.code y_M_applyDirectly c_M_applyDirectly 4 none ∈ big := big_of 307 (by decide +kernel) rfl
theorem wi_M_applyDirectly : Cond.instanceMethod y_M_applyDirectly ∈ big := big_of 306 (by decide +kernel) rfl
theorem wv_M_applyDirectly : Cond.selects R_M y_M_applyDirectly y_M_applyDirectly ∈ big := big_of 5 (by decide +kernel) rfl
theorem wd_M_applyDirectly : y_M_applyDirectly.cls ≠ "java/lang/invoke/MethodHandle" ∧ y_M_applyDirectly.cls ≠ "java/lang/invoke/VarHandle" ∧ (parseMethodDescriptor y_M_applyDirectly.desc).map (fun d => d.parameters.length) = some 2 := by decide +kernel
theorem w_C_told : Cond.code y_C_told c_C_told 1 (some .int) ∈ big := big_of 310 (by decide +kernel) rfl
theorem ws_C_told : Cond.static y_C_told ∈ big := big_of 309 (by decide +kernel) rfl
theorem wd_C_told : y_C_told.cls ≠ "java/lang/invoke/MethodHandle" ∧ y_C_told.cls ≠ "java/lang/invoke/VarHandle" ∧ (parseMethodDescriptor y_C_told.desc).map (fun d => d.parameters.length) = some 1 := by decide +kernel
theorem w_P_paramsOf : Cond.code y_P_paramsOf c_P_paramsOf 2 (some .int) ∈ big := big_of 314 (by decide +kernel) rfl
theorem wi_P_paramsOf : Cond.instanceMethod y_P_paramsOf ∈ big := big_of 312 (by decide +kernel) rfl
theorem wv_P_paramsOf : Cond.selects R_P y_P_paramsOf y_P_paramsOf ∈ big := big_of 313 (by decide +kernel) rfl
theorem wd_P_paramsOf : y_P_paramsOf.cls ≠ "java/lang/invoke/MethodHandle" ∧ y_P_paramsOf.cls ≠ "java/lang/invoke/VarHandle" ∧ (parseMethodDescriptor y_P_paramsOf.desc).map (fun d => d.parameters.length) = some 1 := by decide +kernel
theorem w_M_enter : Cond.code y_M_enter c_M_enter 5 none ∈ big := big_of 318 (by decide +kernel) rfl
theorem wi_M_enter : Cond.instanceMethod y_M_enter ∈ big := big_of 317 (by decide +kernel) rfl
theorem wv_M_enter : Cond.selects R_M y_M_enter y_M_enter ∈ big := big_of 6 (by decide +kernel) rfl
theorem wd_M_enter : y_M_enter.cls ≠ "java/lang/invoke/MethodHandle" ∧ y_M_enter.cls ≠ "java/lang/invoke/VarHandle" ∧ (parseMethodDescriptor y_M_enter.desc).map (fun d => d.parameters.length) = some 3 := by decide +kernel
theorem w_C_state : Cond.code y_C_state c_C_state 1 (some .int) ∈ big := big_of 322 (by decide +kernel) rfl
theorem wi_C_state : Cond.instanceMethod y_C_state ∈ big := big_of 320 (by decide +kernel) rfl
theorem wv_C_state : Cond.selects R_C y_C_state y_C_state ∈ big := big_of 321 (by decide +kernel) rfl
theorem wd_C_state : y_C_state.cls ≠ "java/lang/invoke/MethodHandle" ∧ y_C_state.cls ≠ "java/lang/invoke/VarHandle" ∧ (parseMethodDescriptor y_C_state.desc).map (fun d => d.parameters.length) = some 0 := by decide +kernel
theorem w_M_phase : Cond.code y_M_phase c_M_phase 1 (some .int) ∈ big := big_of 326 (by decide +kernel) rfl
theorem wi_M_phase : Cond.instanceMethod y_M_phase ∈ big := big_of 324 (by decide +kernel) rfl
theorem wv_M_phase : Cond.selects R_M y_M_phase y_M_phase ∈ big := big_of 325 (by decide +kernel) rfl
theorem wd_M_phase : y_M_phase.cls ≠ "java/lang/invoke/MethodHandle" ∧ y_M_phase.cls ≠ "java/lang/invoke/VarHandle" ∧ (parseMethodDescriptor y_M_phase.desc).map (fun d => d.parameters.length) = some 0 := by decide +kernel
theorem w_C_at : Cond.code y_C_at c_C_at 1 (some .int) ∈ big := big_of 330 (by decide +kernel) rfl
theorem wi_C_at : Cond.instanceMethod y_C_at ∈ big := big_of 328 (by decide +kernel) rfl
theorem wv_C_at : Cond.selects R_C y_C_at y_C_at ∈ big := big_of 329 (by decide +kernel) rfl
theorem wd_C_at : y_C_at.cls ≠ "java/lang/invoke/MethodHandle" ∧ y_C_at.cls ≠ "java/lang/invoke/VarHandle" ∧ (parseMethodDescriptor y_C_at.desc).map (fun d => d.parameters.length) = some 0 := by decide +kernel
theorem w_C_value : Cond.code y_C_value c_C_value 3 (some .int) ∈ big := big_of 335 (by decide +kernel) rfl
theorem wi_C_value : Cond.instanceMethod y_C_value ∈ big := big_of 333 (by decide +kernel) rfl
theorem wv_C_value : Cond.selects R_C y_C_value y_C_value ∈ big := big_of 334 (by decide +kernel) rfl
theorem wd_C_value : y_C_value.cls ≠ "java/lang/invoke/MethodHandle" ∧ y_C_value.cls ≠ "java/lang/invoke/VarHandle" ∧ (parseMethodDescriptor y_C_value.desc).map (fun d => d.parameters.length) = some 2 := by decide +kernel
theorem w_C_result : Cond.code y_C_result c_C_result 1 (some .int) ∈ big := big_of 341 (by decide +kernel) rfl
theorem wi_C_result : Cond.instanceMethod y_C_result ∈ big := big_of 339 (by decide +kernel) rfl
theorem wv_C_result : Cond.selects R_C y_C_result y_C_result ∈ big := big_of 340 (by decide +kernel) rfl
theorem wd_C_result : y_C_result.cls ≠ "java/lang/invoke/MethodHandle" ∧ y_C_result.cls ≠ "java/lang/invoke/VarHandle" ∧ (parseMethodDescriptor y_C_result.desc).map (fun d => d.parameters.length) = some 0 := by decide +kernel
theorem w_M_outcome : Cond.code y_M_outcome c_M_outcome 1 (some .int) ∈ big := big_of 345 (by decide +kernel) rfl
theorem wi_M_outcome : Cond.instanceMethod y_M_outcome ∈ big := big_of 343 (by decide +kernel) rfl
theorem wv_M_outcome : Cond.selects R_M y_M_outcome y_M_outcome ∈ big := big_of 344 (by decide +kernel) rfl
theorem wd_M_outcome : y_M_outcome.cls ≠ "java/lang/invoke/MethodHandle" ∧ y_M_outcome.cls ≠ "java/lang/invoke/VarHandle" ∧ (parseMethodDescriptor y_M_outcome.desc).map (fun d => d.parameters.length) = some 0 := by decide +kernel
theorem w_C_called : Cond.code y_C_called c_C_called 2 (some .int) ∈ big := big_of 349 (by decide +kernel) rfl
theorem wi_C_called : Cond.instanceMethod y_C_called ∈ big := big_of 347 (by decide +kernel) rfl
theorem wv_C_called : Cond.selects R_C y_C_called y_C_called ∈ big := big_of 348 (by decide +kernel) rfl
theorem wd_C_called : y_C_called.cls ≠ "java/lang/invoke/MethodHandle" ∧ y_C_called.cls ≠ "java/lang/invoke/VarHandle" ∧ (parseMethodDescriptor y_C_called.desc).map (fun d => d.parameters.length) = some 1 := by decide +kernel
theorem w_M_calledFrom : Cond.code y_M_calledFrom c_M_calledFrom 2 (some .int) ∈ big := big_of 354 (by decide +kernel) rfl
theorem wi_M_calledFrom : Cond.instanceMethod y_M_calledFrom ∈ big := big_of 352 (by decide +kernel) rfl
theorem wv_M_calledFrom : Cond.selects R_M y_M_calledFrom y_M_calledFrom ∈ big := big_of 353 (by decide +kernel) rfl
theorem wd_M_calledFrom : y_M_calledFrom.cls ≠ "java/lang/invoke/MethodHandle" ∧ y_M_calledFrom.cls ≠ "java/lang/invoke/VarHandle" ∧ (parseMethodDescriptor y_M_calledFrom.desc).map (fun d => d.parameters.length) = some 1 := by decide +kernel
theorem w_C_analyse : Cond.code y_C_analyse c_C_analyse 2 (some .int) ∈ big := big_of 358 (by decide +kernel) rfl
theorem wi_C_analyse : Cond.instanceMethod y_C_analyse ∈ big := big_of 356 (by decide +kernel) rfl
theorem wv_C_analyse : Cond.selects R_C y_C_analyse y_C_analyse ∈ big := big_of 357 (by decide +kernel) rfl
theorem wd_C_analyse : y_C_analyse.cls ≠ "java/lang/invoke/MethodHandle" ∧ y_C_analyse.cls ≠ "java/lang/invoke/VarHandle" ∧ (parseMethodDescriptor y_C_analyse.desc).map (fun d => d.parameters.length) = some 1 := by decide +kernel
theorem w_A_make : Cond.code y_A_make c_A_make 4 (some .int) ∈ big := big_of 362 (by decide +kernel) rfl
theorem wi_A_make : Cond.instanceMethod y_A_make ∈ big := big_of 360 (by decide +kernel) rfl
theorem wv_A_make : Cond.selects R_A y_A_make y_A_make ∈ big := big_of 361 (by decide +kernel) rfl
theorem wd_A_make : y_A_make.cls ≠ "java/lang/invoke/MethodHandle" ∧ y_A_make.cls ≠ "java/lang/invoke/VarHandle" ∧ (parseMethodDescriptor y_A_make.desc).map (fun d => d.parameters.length) = some 1 := by decide +kernel
theorem w_A_emptySets : Cond.code y_A_emptySets c_A_emptySets 1 none ∈ big := big_of 366 (by decide +kernel) rfl
theorem wi_A_emptySets : Cond.instanceMethod y_A_emptySets ∈ big := big_of 365 (by decide +kernel) rfl
theorem wv_A_emptySets : Cond.selects R_A y_A_emptySets y_A_emptySets ∈ big := big_of 7 (by decide +kernel) rfl
theorem wd_A_emptySets : y_A_emptySets.cls ≠ "java/lang/invoke/MethodHandle" ∧ y_A_emptySets.cls ≠ "java/lang/invoke/VarHandle" ∧ (parseMethodDescriptor y_A_emptySets.desc).map (fun d => d.parameters.length) = some 0 := by decide +kernel
theorem w_JA_fill_JJV : Cond.code y_JA_fill_JJV c_JA_fill_JJV 5 none ∈ big := big_of 370 (by decide +kernel) rfl
theorem ws_JA_fill_JJV : Cond.static y_JA_fill_JJV ∈ big := big_of 369 (by decide +kernel) rfl
theorem wd_JA_fill_JJV : y_JA_fill_JJV.cls ≠ "java/lang/invoke/MethodHandle" ∧ y_JA_fill_JJV.cls ≠ "java/lang/invoke/VarHandle" ∧ (parseMethodDescriptor y_JA_fill_JJV.desc).map (fun d => d.parameters.length) = some 2 := by decide +kernel
theorem w_A_pair : Cond.code y_A_pair c_A_pair 2 (some .long) ∈ big := big_of 373 (by decide +kernel) rfl
theorem ws_A_pair : Cond.static y_A_pair ∈ big := big_of 372 (by decide +kernel) rfl
theorem wd_A_pair : y_A_pair.cls ≠ "java/lang/invoke/MethodHandle" ∧ y_A_pair.cls ≠ "java/lang/invoke/VarHandle" ∧ (parseMethodDescriptor y_A_pair.desc).map (fun d => d.parameters.length) = some 2 := by decide +kernel
theorem w_A_hasPair : Cond.code y_A_hasPair c_A_hasPair 3 (some .boolean) ∈ big := big_of 376 (by decide +kernel) rfl
theorem ws_A_hasPair : Cond.static y_A_hasPair ∈ big := big_of 375 (by decide +kernel) rfl
theorem wd_A_hasPair : y_A_hasPair.cls ≠ "java/lang/invoke/MethodHandle" ∧ y_A_hasPair.cls ≠ "java/lang/invoke/VarHandle" ∧ (parseMethodDescriptor y_A_hasPair.desc).map (fun d => d.parameters.length) = some 2 := by decide +kernel
theorem w_A_visit : Cond.code y_A_visit c_A_visit 7 none ∈ big := big_of 380 (by decide +kernel) rfl
theorem wi_A_visit : Cond.instanceMethod y_A_visit ∈ big := big_of 379 (by decide +kernel) rfl
theorem wv_A_visit : Cond.selects R_A y_A_visit y_A_visit ∈ big := big_of 8 (by decide +kernel) rfl
theorem wd_A_visit : y_A_visit.cls ≠ "java/lang/invoke/MethodHandle" ∧ y_A_visit.cls ≠ "java/lang/invoke/VarHandle" ∧ (parseMethodDescriptor y_A_visit.desc).map (fun d => d.parameters.length) = some 3 := by decide +kernel
theorem w_A_loadOperand : Cond.code y_A_loadOperand c_A_loadOperand 5 none ∈ big := big_of 386 (by decide +kernel) rfl
theorem wi_A_loadOperand : Cond.instanceMethod y_A_loadOperand ∈ big := big_of 385 (by decide +kernel) rfl
theorem wv_A_loadOperand : Cond.selects R_A y_A_loadOperand y_A_loadOperand ∈ big := big_of 9 (by decide +kernel) rfl
theorem wd_A_loadOperand : y_A_loadOperand.cls ≠ "java/lang/invoke/MethodHandle" ∧ y_A_loadOperand.cls ≠ "java/lang/invoke/VarHandle" ∧ (parseMethodDescriptor y_A_loadOperand.desc).map (fun d => d.parameters.length) = some 3 := by decide +kernel
theorem w_A_slot : Cond.code y_A_slot c_A_slot 3 (some .int) ∈ big := big_of 392 (by decide +kernel) rfl
theorem ws_A_slot : Cond.static y_A_slot ∈ big := big_of 391 (by decide +kernel) rfl
theorem wd_A_slot : y_A_slot.cls ≠ "java/lang/invoke/MethodHandle" ∧ y_A_slot.cls ≠ "java/lang/invoke/VarHandle" ∧ (parseMethodDescriptor y_A_slot.desc).map (fun d => d.parameters.length) = some 3 := by decide +kernel
theorem w_A_constantBit : Cond.code y_A_constantBit c_A_constantBit 1 (some .int) ∈ big := big_of 396 (by decide +kernel) rfl
theorem ws_A_constantBit : Cond.static y_A_constantBit ∈ big := big_of 395 (by decide +kernel) rfl
theorem wd_A_constantBit : y_A_constantBit.cls ≠ "java/lang/invoke/MethodHandle" ∧ y_A_constantBit.cls ≠ "java/lang/invoke/VarHandle" ∧ (parseMethodDescriptor y_A_constantBit.desc).map (fun d => d.parameters.length) = some 1 := by decide +kernel
theorem w_A_applyDirectly : Cond.code y_A_applyDirectly c_A_applyDirectly 7 none ∈ big := big_of 401 (by decide +kernel) rfl
theorem wi_A_applyDirectly : Cond.instanceMethod y_A_applyDirectly ∈ big := big_of 400 (by decide +kernel) rfl
theorem wv_A_applyDirectly : Cond.selects R_A y_A_applyDirectly y_A_applyDirectly ∈ big := big_of 10 (by decide +kernel) rfl
theorem wd_A_applyDirectly : y_A_applyDirectly.cls ≠ "java/lang/invoke/MethodHandle" ∧ y_A_applyDirectly.cls ≠ "java/lang/invoke/VarHandle" ∧ (parseMethodDescriptor y_A_applyDirectly.desc).map (fun d => d.parameters.length) = some 3 := by decide +kernel
theorem w_A_enter : Cond.code y_A_enter c_A_enter 6 none ∈ big := big_of 407 (by decide +kernel) rfl
theorem wi_A_enter : Cond.instanceMethod y_A_enter ∈ big := big_of 406 (by decide +kernel) rfl
theorem wv_A_enter : Cond.selects R_A y_A_enter y_A_enter ∈ big := big_of 11 (by decide +kernel) rfl
theorem wd_A_enter : y_A_enter.cls ≠ "java/lang/invoke/MethodHandle" ∧ y_A_enter.cls ≠ "java/lang/invoke/VarHandle" ∧ (parseMethodDescriptor y_A_enter.desc).map (fun d => d.parameters.length) = some 3 := by decide +kernel
theorem w_A_addState : Cond.code y_A_addState c_A_addState 4 none ∈ big := big_of 411 (by decide +kernel) rfl
theorem wi_A_addState : Cond.instanceMethod y_A_addState ∈ big := big_of 410 (by decide +kernel) rfl
theorem wv_A_addState : Cond.selects R_A y_A_addState y_A_addState ∈ big := big_of 12 (by decide +kernel) rfl
theorem wd_A_addState : y_A_addState.cls ≠ "java/lang/invoke/MethodHandle" ∧ y_A_addState.cls ≠ "java/lang/invoke/VarHandle" ∧ (parseMethodDescriptor y_A_addState.desc).map (fun d => d.parameters.length) = some 1 := by decide +kernel
theorem w_A_widen : Cond.code y_A_widen c_A_widen 8 none ∈ big := big_of 415 (by decide +kernel) rfl
theorem wi_A_widen : Cond.instanceMethod y_A_widen ∈ big := big_of 414 (by decide +kernel) rfl
theorem wv_A_widen : Cond.selects R_A y_A_widen y_A_widen ∈ big := big_of 13 (by decide +kernel) rfl
theorem wd_A_widen : y_A_widen.cls ≠ "java/lang/invoke/MethodHandle" ∧ y_A_widen.cls ≠ "java/lang/invoke/VarHandle" ∧ (parseMethodDescriptor y_A_widen.desc).map (fun d => d.parameters.length) = some 3 := by decide +kernel
theorem w_P_lineageOf : Cond.code y_P_lineageOf c_P_lineageOf 2 (some .int) ∈ big := big_of 419 (by decide +kernel) rfl
theorem wi_P_lineageOf : Cond.instanceMethod y_P_lineageOf ∈ big := big_of 417 (by decide +kernel) rfl
theorem wv_P_lineageOf : Cond.selects R_P y_P_lineageOf y_P_lineageOf ∈ big := big_of 418 (by decide +kernel) rfl
theorem wd_P_lineageOf : y_P_lineageOf.cls ≠ "java/lang/invoke/MethodHandle" ∧ y_P_lineageOf.cls ≠ "java/lang/invoke/VarHandle" ∧ (parseMethodDescriptor y_P_lineageOf.desc).map (fun d => d.parameters.length) = some 1 := by decide +kernel
theorem w_A_carryOver : Cond.code y_A_carryOver c_A_carryOver 5 none ∈ big := big_of 423 (by decide +kernel) rfl
theorem wi_A_carryOver : Cond.instanceMethod y_A_carryOver ∈ big := big_of 422 (by decide +kernel) rfl
theorem wv_A_carryOver : Cond.selects R_A y_A_carryOver y_A_carryOver ∈ big := big_of 14 (by decide +kernel) rfl
theorem wd_A_carryOver : y_A_carryOver.cls ≠ "java/lang/invoke/MethodHandle" ∧ y_A_carryOver.cls ≠ "java/lang/invoke/VarHandle" ∧ (parseMethodDescriptor y_A_carryOver.desc).map (fun d => d.parameters.length) = some 2 := by decide +kernel
theorem w_A_loadSums : Cond.code y_A_loadSums c_A_loadSums 6 (some .boolean) ∈ big := big_of 427 (by decide +kernel) rfl
theorem wi_A_loadSums : Cond.instanceMethod y_A_loadSums ∈ big := big_of 426 (by decide +kernel) rfl
theorem wv_A_loadSums : Cond.selects R_A y_A_loadSums y_A_loadSums ∈ big := big_of 15 (by decide +kernel) rfl
theorem wd_A_loadSums : y_A_loadSums.cls ≠ "java/lang/invoke/MethodHandle" ∧ y_A_loadSums.cls ≠ "java/lang/invoke/VarHandle" ∧ (parseMethodDescriptor y_A_loadSums.desc).map (fun d => d.parameters.length) = some 2 := by decide +kernel
theorem w_JL_bitCount : Cond.code y_JL_bitCount c_JL_bitCount 2 (some .int) ∈ big := big_of 430 (by decide +kernel) rfl
theorem ws_JL_bitCount : Cond.static y_JL_bitCount ∈ big := big_of 429 (by decide +kernel) rfl
theorem wd_JL_bitCount : y_JL_bitCount.cls ≠ "java/lang/invoke/MethodHandle" ∧ y_JL_bitCount.cls ≠ "java/lang/invoke/VarHandle" ∧ (parseMethodDescriptor y_JL_bitCount.desc).map (fun d => d.parameters.length) = some 1 := by decide +kernel
theorem w_C_flow : Cond.code y_C_flow c_C_flow 2 (some .int) ∈ big := big_of 437 (by decide +kernel) rfl
theorem wi_C_flow : Cond.instanceMethod y_C_flow ∈ big := big_of 435 (by decide +kernel) rfl
theorem wv_C_flow : Cond.selects R_C y_C_flow y_C_flow ∈ big := big_of 436 (by decide +kernel) rfl
theorem wd_C_flow : y_C_flow.cls ≠ "java/lang/invoke/MethodHandle" ∧ y_C_flow.cls ≠ "java/lang/invoke/VarHandle" ∧ (parseMethodDescriptor y_C_flow.desc).map (fun d => d.parameters.length) = some 1 := by decide +kernel
theorem w_A_isMade : Cond.code y_A_isMade c_A_isMade 1 (some .boolean) ∈ big := big_of 441 (by decide +kernel) rfl
theorem wi_A_isMade : Cond.instanceMethod y_A_isMade ∈ big := big_of 439 (by decide +kernel) rfl
theorem wv_A_isMade : Cond.selects R_A y_A_isMade y_A_isMade ∈ big := big_of 440 (by decide +kernel) rfl
theorem wd_A_isMade : y_A_isMade.cls ≠ "java/lang/invoke/MethodHandle" ∧ y_A_isMade.cls ≠ "java/lang/invoke/VarHandle" ∧ (parseMethodDescriptor y_A_isMade.desc).map (fun d => d.parameters.length) = some 0 := by decide +kernel
theorem w_A_flowFrom : Cond.code y_A_flowFrom c_A_flowFrom 2 (some .int) ∈ big := big_of 445 (by decide +kernel) rfl
theorem wi_A_flowFrom : Cond.instanceMethod y_A_flowFrom ∈ big := big_of 443 (by decide +kernel) rfl
theorem wv_A_flowFrom : Cond.selects R_A y_A_flowFrom y_A_flowFrom ∈ big := big_of 444 (by decide +kernel) rfl
theorem wd_A_flowFrom : y_A_flowFrom.cls ≠ "java/lang/invoke/MethodHandle" ∧ y_A_flowFrom.cls ≠ "java/lang/invoke/VarHandle" ∧ (parseMethodDescriptor y_A_flowFrom.desc).map (fun d => d.parameters.length) = some 1 := by decide +kernel
theorem w_C_contours : Cond.code y_C_contours c_C_contours 2 (some .int) ∈ big := big_of 449 (by decide +kernel) rfl
theorem wi_C_contours : Cond.instanceMethod y_C_contours ∈ big := big_of 447 (by decide +kernel) rfl
theorem wv_C_contours : Cond.selects R_C y_C_contours y_C_contours ∈ big := big_of 448 (by decide +kernel) rfl
theorem wd_C_contours : y_C_contours.cls ≠ "java/lang/invoke/MethodHandle" ∧ y_C_contours.cls ≠ "java/lang/invoke/VarHandle" ∧ (parseMethodDescriptor y_C_contours.desc).map (fun d => d.parameters.length) = some 1 := by decide +kernel
theorem w_A_contoursOf : Cond.code y_A_contoursOf c_A_contoursOf 2 (some .int) ∈ big := big_of 453 (by decide +kernel) rfl
theorem wi_A_contoursOf : Cond.instanceMethod y_A_contoursOf ∈ big := big_of 451 (by decide +kernel) rfl
theorem wv_A_contoursOf : Cond.selects R_A y_A_contoursOf y_A_contoursOf ∈ big := big_of 452 (by decide +kernel) rfl
theorem wd_A_contoursOf : y_A_contoursOf.cls ≠ "java/lang/invoke/MethodHandle" ∧ y_A_contoursOf.cls ≠ "java/lang/invoke/VarHandle" ∧ (parseMethodDescriptor y_A_contoursOf.desc).map (fun d => d.parameters.length) = some 1 := by decide +kernel
theorem w_A_contoursIn : Cond.code y_A_contoursIn c_A_contoursIn 3 (some .int) ∈ big := big_of 456 (by decide +kernel) rfl
theorem ws_A_contoursIn : Cond.static y_A_contoursIn ∈ big := big_of 455 (by decide +kernel) rfl
theorem wd_A_contoursIn : y_A_contoursIn.cls ≠ "java/lang/invoke/MethodHandle" ∧ y_A_contoursIn.cls ≠ "java/lang/invoke/VarHandle" ∧ (parseMethodDescriptor y_A_contoursIn.desc).map (fun d => d.parameters.length) = some 2 := by decide +kernel
theorem w_C_constants : Cond.code y_C_constants c_C_constants 3 (some .int) ∈ big := big_of 460 (by decide +kernel) rfl
theorem wi_C_constants : Cond.instanceMethod y_C_constants ∈ big := big_of 458 (by decide +kernel) rfl
theorem wv_C_constants : Cond.selects R_C y_C_constants y_C_constants ∈ big := big_of 459 (by decide +kernel) rfl
theorem wd_C_constants : y_C_constants.cls ≠ "java/lang/invoke/MethodHandle" ∧ y_C_constants.cls ≠ "java/lang/invoke/VarHandle" ∧ (parseMethodDescriptor y_C_constants.desc).map (fun d => d.parameters.length) = some 2 := by decide +kernel
theorem w_A_constantsIn : Cond.code y_A_constantsIn c_A_constantsIn 5 (some .int) ∈ big := big_of 465 (by decide +kernel) rfl
theorem wi_A_constantsIn : Cond.instanceMethod y_A_constantsIn ∈ big := big_of 463 (by decide +kernel) rfl
theorem wv_A_constantsIn : Cond.selects R_A y_A_constantsIn y_A_constantsIn ∈ big := big_of 464 (by decide +kernel) rfl
theorem wd_A_constantsIn : y_A_constantsIn.cls ≠ "java/lang/invoke/MethodHandle" ∧ y_A_constantsIn.cls ≠ "java/lang/invoke/VarHandle" ∧ (parseMethodDescriptor y_A_constantsIn.desc).map (fun d => d.parameters.length) = some 2 := by decide +kernel
theorem w_C_closures : Cond.code y_C_closures c_C_closures 3 (some .int) ∈ big := big_of 469 (by decide +kernel) rfl
theorem wi_C_closures : Cond.instanceMethod y_C_closures ∈ big := big_of 467 (by decide +kernel) rfl
theorem wv_C_closures : Cond.selects R_C y_C_closures y_C_closures ∈ big := big_of 468 (by decide +kernel) rfl
theorem wd_C_closures : y_C_closures.cls ≠ "java/lang/invoke/MethodHandle" ∧ y_C_closures.cls ≠ "java/lang/invoke/VarHandle" ∧ (parseMethodDescriptor y_C_closures.desc).map (fun d => d.parameters.length) = some 2 := by decide +kernel
theorem w_A_lambdasIn : Cond.code y_A_lambdasIn c_A_lambdasIn 7 (some .int) ∈ big := big_of 473 (by decide +kernel) rfl
theorem wi_A_lambdasIn : Cond.instanceMethod y_A_lambdasIn ∈ big := big_of 471 (by decide +kernel) rfl
theorem wv_A_lambdasIn : Cond.selects R_A y_A_lambdasIn y_A_lambdasIn ∈ big := big_of 472 (by decide +kernel) rfl
theorem wd_A_lambdasIn : y_A_lambdasIn.cls ≠ "java/lang/invoke/MethodHandle" ∧ y_A_lambdasIn.cls ≠ "java/lang/invoke/VarHandle" ∧ (parseMethodDescriptor y_A_lambdasIn.desc).map (fun d => d.parameters.length) = some 2 := by decide +kernel
theorem w_C_results : Cond.code y_C_results c_C_results 1 (some .int) ∈ big := big_of 477 (by decide +kernel) rfl
theorem wi_C_results : Cond.instanceMethod y_C_results ∈ big := big_of 475 (by decide +kernel) rfl
theorem wv_C_results : Cond.selects R_C y_C_results y_C_results ∈ big := big_of 476 (by decide +kernel) rfl
theorem wd_C_results : y_C_results.cls ≠ "java/lang/invoke/MethodHandle" ∧ y_C_results.cls ≠ "java/lang/invoke/VarHandle" ∧ (parseMethodDescriptor y_C_results.desc).map (fun d => d.parameters.length) = some 0 := by decide +kernel
theorem w_A_outcomes : Cond.code y_A_outcomes c_A_outcomes 1 (some .int) ∈ big := big_of 481 (by decide +kernel) rfl
theorem wi_A_outcomes : Cond.instanceMethod y_A_outcomes ∈ big := big_of 479 (by decide +kernel) rfl
theorem wv_A_outcomes : Cond.selects R_A y_A_outcomes y_A_outcomes ∈ big := big_of 480 (by decide +kernel) rfl
theorem wd_A_outcomes : y_A_outcomes.cls ≠ "java/lang/invoke/MethodHandle" ∧ y_A_outcomes.cls ≠ "java/lang/invoke/VarHandle" ∧ (parseMethodDescriptor y_A_outcomes.desc).map (fun d => d.parameters.length) = some 0 := by decide +kernel
theorem w_R_init : Cond.code y_R_init c_R_init 1 none ∈ big := big_of 486 (by decide +kernel) rfl
theorem wi_R_init : Cond.instanceMethod y_R_init ∈ big := big_of 485 (by decide +kernel) rfl
theorem wd_R_init : y_R_init.cls ≠ "java/lang/invoke/MethodHandle" ∧ y_R_init.cls ≠ "java/lang/invoke/VarHandle" ∧ (parseMethodDescriptor y_R_init.desc).map (fun d => d.parameters.length) = some 0 := by decide +kernel
theorem w_R_lambda : Cond.code y_R_lambda c_R_lambda 3 (some .int) ∈ big := big_of 567 (by decide +kernel) rfl
theorem wi_R_lambda : Cond.instanceMethod y_R_lambda ∈ big := big_of 565 (by decide +kernel) rfl
theorem wv_R_lambda : Cond.selects R_R y_R_lambda y_R_lambda ∈ big := big_of 566 (by decide +kernel) rfl
theorem wd_R_lambda : y_R_lambda.cls ≠ "java/lang/invoke/MethodHandle" ∧ y_R_lambda.cls ≠ "java/lang/invoke/VarHandle" ∧ (parseMethodDescriptor y_R_lambda.desc).map (fun d => d.parameters.length) = some 2 := by decide +kernel
theorem w_R_isLambda : Cond.code y_R_isLambda c_R_isLambda 2 (some .boolean) ∈ big := big_of 571 (by decide +kernel) rfl
theorem wi_R_isLambda : Cond.instanceMethod y_R_isLambda ∈ big := big_of 570 (by decide +kernel) rfl
theorem wv_R_isLambda : Cond.selects R_R y_R_isLambda y_R_isLambda ∈ big := big_of 16 (by decide +kernel) rfl
theorem wd_R_isLambda : y_R_isLambda.cls ≠ "java/lang/invoke/MethodHandle" ∧ y_R_isLambda.cls ≠ "java/lang/invoke/VarHandle" ∧ (parseMethodDescriptor y_R_isLambda.desc).map (fun d => d.parameters.length) = some 1 := by decide +kernel
theorem w_R_change : Cond.code y_R_change c_R_change 1 none ∈ big := big_of 575 (by decide +kernel) rfl
theorem wi_R_change : Cond.instanceMethod y_R_change ∈ big := big_of 574 (by decide +kernel) rfl
theorem wv_R_change : Cond.selects R_R y_R_change y_R_change ∈ big := big_of 17 (by decide +kernel) rfl
theorem wd_R_change : y_R_change.cls ≠ "java/lang/invoke/MethodHandle" ∧ y_R_change.cls ≠ "java/lang/invoke/VarHandle" ∧ (parseMethodDescriptor y_R_change.desc).map (fun d => d.parameters.length) = some 0 := by decide +kernel
theorem w_R_put : Cond.code y_R_put c_R_put 3 (some .boolean) ∈ big := big_of 579 (by decide +kernel) rfl
theorem wi_R_put : Cond.instanceMethod y_R_put ∈ big := big_of 577 (by decide +kernel) rfl
theorem wv_R_put : Cond.selects R_R y_R_put y_R_put ∈ big := big_of 578 (by decide +kernel) rfl
theorem wd_R_put : y_R_put.cls ≠ "java/lang/invoke/MethodHandle" ∧ y_R_put.cls ≠ "java/lang/invoke/VarHandle" ∧ (parseMethodDescriptor y_R_put.desc).map (fun d => d.parameters.length) = some 2 := by decide +kernel
theorem w_R_mayStand : Cond.code y_R_mayStand c_R_mayStand 4 (some .boolean) ∈ big := big_of 583 (by decide +kernel) rfl
theorem wi_R_mayStand : Cond.instanceMethod y_R_mayStand ∈ big := big_of 582 (by decide +kernel) rfl
theorem wv_R_mayStand : Cond.selects R_R y_R_mayStand y_R_mayStand ∈ big := big_of 18 (by decide +kernel) rfl
theorem wd_R_mayStand : y_R_mayStand.cls ≠ "java/lang/invoke/MethodHandle" ∧ y_R_mayStand.cls ≠ "java/lang/invoke/VarHandle" ∧ (parseMethodDescriptor y_R_mayStand.desc).map (fun d => d.parameters.length) = some 2 := by decide +kernel
theorem w_R_around : Cond.code y_R_around c_R_around 4 (some .boolean) ∈ big := big_of 587 (by decide +kernel) rfl
theorem wi_R_around : Cond.instanceMethod y_R_around ∈ big := big_of 586 (by decide +kernel) rfl
theorem wv_R_around : Cond.selects R_R y_R_around y_R_around ∈ big := big_of 19 (by decide +kernel) rfl
theorem wd_R_around : y_R_around.cls ≠ "java/lang/invoke/MethodHandle" ∧ y_R_around.cls ≠ "java/lang/invoke/VarHandle" ∧ (parseMethodDescriptor y_R_around.desc).map (fun d => d.parameters.length) = some 2 := by decide +kernel
theorem w_R_clear : Cond.code y_R_clear c_R_clear 1 none ∈ big := big_of 591 (by decide +kernel) rfl
theorem wi_R_clear : Cond.instanceMethod y_R_clear ∈ big := big_of 589 (by decide +kernel) rfl
theorem wv_R_clear : Cond.selects R_R y_R_clear y_R_clear ∈ big := big_of 590 (by decide +kernel) rfl
theorem wd_R_clear : y_R_clear.cls ≠ "java/lang/invoke/MethodHandle" ∧ y_R_clear.cls ≠ "java/lang/invoke/VarHandle" ∧ (parseMethodDescriptor y_R_clear.desc).map (fun d => d.parameters.length) = some 0 := by decide +kernel
theorem w_R_lambdas : Cond.code y_R_lambdas c_R_lambdas 1 (some .int) ∈ big := big_of 595 (by decide +kernel) rfl
theorem wi_R_lambdas : Cond.instanceMethod y_R_lambdas ∈ big := big_of 593 (by decide +kernel) rfl
theorem wv_R_lambdas : Cond.selects R_R y_R_lambdas y_R_lambdas ∈ big := big_of 594 (by decide +kernel) rfl
theorem wd_R_lambdas : y_R_lambdas.cls ≠ "java/lang/invoke/MethodHandle" ∧ y_R_lambdas.cls ≠ "java/lang/invoke/VarHandle" ∧ (parseMethodDescriptor y_R_lambdas.desc).map (fun d => d.parameters.length) = some 0 := by decide +kernel
theorem w_R_atom : Cond.code y_R_atom c_R_atom 3 (some .int) ∈ big := big_of 599 (by decide +kernel) rfl
theorem wi_R_atom : Cond.instanceMethod y_R_atom ∈ big := big_of 597 (by decide +kernel) rfl
theorem wv_R_atom : Cond.selects R_R y_R_atom y_R_atom ∈ big := big_of 598 (by decide +kernel) rfl
theorem wd_R_atom : y_R_atom.cls ≠ "java/lang/invoke/MethodHandle" ∧ y_R_atom.cls ≠ "java/lang/invoke/VarHandle" ∧ (parseMethodDescriptor y_R_atom.desc).map (fun d => d.parameters.length) = some 2 := by decide +kernel
theorem w_R_start : Cond.code y_R_start c_R_start 2 none ∈ big := big_of 603 (by decide +kernel) rfl
theorem wi_R_start : Cond.instanceMethod y_R_start ∈ big := big_of 601 (by decide +kernel) rfl
theorem wv_R_start : Cond.selects R_R y_R_start y_R_start ∈ big := big_of 602 (by decide +kernel) rfl
theorem wd_R_start : y_R_start.cls ≠ "java/lang/invoke/MethodHandle" ∧ y_R_start.cls ≠ "java/lang/invoke/VarHandle" ∧ (parseMethodDescriptor y_R_start.desc).map (fun d => d.parameters.length) = some 0 := by decide +kernel
theorem w_R_step : Cond.code y_R_step c_R_step 5 (some .int) ∈ big := big_of 607 (by decide +kernel) rfl
theorem wi_R_step : Cond.instanceMethod y_R_step ∈ big := big_of 605 (by decide +kernel) rfl
theorem wv_R_step : Cond.selects R_R y_R_step y_R_step ∈ big := big_of 606 (by decide +kernel) rfl
theorem wd_R_step : y_R_step.cls ≠ "java/lang/invoke/MethodHandle" ∧ y_R_step.cls ≠ "java/lang/invoke/VarHandle" ∧ (parseMethodDescriptor y_R_step.desc).map (fun d => d.parameters.length) = some 1 := by decide +kernel
theorem w_R_move : Cond.code y_R_move c_R_move 4 (some .boolean) ∈ big := big_of 611 (by decide +kernel) rfl
theorem wi_R_move : Cond.instanceMethod y_R_move ∈ big := big_of 610 (by decide +kernel) rfl
theorem wv_R_move : Cond.selects R_R y_R_move y_R_move ∈ big := big_of 20 (by decide +kernel) rfl
theorem wd_R_move : y_R_move.cls ≠ "java/lang/invoke/MethodHandle" ∧ y_R_move.cls ≠ "java/lang/invoke/VarHandle" ∧ (parseMethodDescriptor y_R_move.desc).map (fun d => d.parameters.length) = some 0 := by decide +kernel
theorem w_R_valueOf : Cond.code y_R_valueOf c_R_valueOf 3 (some .int) ∈ big := big_of 615 (by decide +kernel) rfl
theorem wi_R_valueOf : Cond.instanceMethod y_R_valueOf ∈ big := big_of 614 (by decide +kernel) rfl
theorem wv_R_valueOf : Cond.selects R_R y_R_valueOf y_R_valueOf ∈ big := big_of 21 (by decide +kernel) rfl
theorem wd_R_valueOf : y_R_valueOf.cls ≠ "java/lang/invoke/MethodHandle" ∧ y_R_valueOf.cls ≠ "java/lang/invoke/VarHandle" ∧ (parseMethodDescriptor y_R_valueOf.desc).map (fun d => d.parameters.length) = some 1 := by decide +kernel
theorem w_R_envOf : Cond.code y_R_envOf c_R_envOf 4 (some .int) ∈ big := big_of 619 (by decide +kernel) rfl
theorem wi_R_envOf : Cond.instanceMethod y_R_envOf ∈ big := big_of 618 (by decide +kernel) rfl
theorem wv_R_envOf : Cond.selects R_R y_R_envOf y_R_envOf ∈ big := big_of 22 (by decide +kernel) rfl
theorem wd_R_envOf : y_R_envOf.cls ≠ "java/lang/invoke/MethodHandle" ∧ y_R_envOf.cls ≠ "java/lang/invoke/VarHandle" ∧ (parseMethodDescriptor y_R_envOf.desc).map (fun d => d.parameters.length) = some 2 := by decide +kernel
theorem w_R_isNumber : Cond.code y_R_isNumber c_R_isNumber 1 (some .boolean) ∈ big := big_of 622 (by decide +kernel) rfl
theorem ws_R_isNumber : Cond.static y_R_isNumber ∈ big := big_of 621 (by decide +kernel) rfl
theorem wd_R_isNumber : y_R_isNumber.cls ≠ "java/lang/invoke/MethodHandle" ∧ y_R_isNumber.cls ≠ "java/lang/invoke/VarHandle" ∧ (parseMethodDescriptor y_R_isNumber.desc).map (fun d => d.parameters.length) = some 1 := by decide +kernel
theorem w_R_enter : Cond.code y_R_enter c_R_enter 5 none ∈ big := big_of 626 (by decide +kernel) rfl
theorem wi_R_enter : Cond.instanceMethod y_R_enter ∈ big := big_of 625 (by decide +kernel) rfl
theorem wv_R_enter : Cond.selects R_R y_R_enter y_R_enter ∈ big := big_of 23 (by decide +kernel) rfl
theorem wd_R_enter : y_R_enter.cls ≠ "java/lang/invoke/MethodHandle" ∧ y_R_enter.cls ≠ "java/lang/invoke/VarHandle" ∧ (parseMethodDescriptor y_R_enter.desc).map (fun d => d.parameters.length) = some 3 := by decide +kernel
theorem w_R_state : Cond.code y_R_state c_R_state 1 (some .int) ∈ big := big_of 630 (by decide +kernel) rfl
theorem wi_R_state : Cond.instanceMethod y_R_state ∈ big := big_of 628 (by decide +kernel) rfl
theorem wv_R_state : Cond.selects R_R y_R_state y_R_state ∈ big := big_of 629 (by decide +kernel) rfl
theorem wd_R_state : y_R_state.cls ≠ "java/lang/invoke/MethodHandle" ∧ y_R_state.cls ≠ "java/lang/invoke/VarHandle" ∧ (parseMethodDescriptor y_R_state.desc).map (fun d => d.parameters.length) = some 0 := by decide +kernel
theorem w_R_at : Cond.code y_R_at c_R_at 1 (some .int) ∈ big := big_of 634 (by decide +kernel) rfl
theorem wi_R_at : Cond.instanceMethod y_R_at ∈ big := big_of 632 (by decide +kernel) rfl
theorem wv_R_at : Cond.selects R_R y_R_at y_R_at ∈ big := big_of 633 (by decide +kernel) rfl
theorem wd_R_at : y_R_at.cls ≠ "java/lang/invoke/MethodHandle" ∧ y_R_at.cls ≠ "java/lang/invoke/VarHandle" ∧ (parseMethodDescriptor y_R_at.desc).map (fun d => d.parameters.length) = some 0 := by decide +kernel
theorem w_R_value : Cond.code y_R_value c_R_value 4 (some .int) ∈ big := big_of 638 (by decide +kernel) rfl
theorem wi_R_value : Cond.instanceMethod y_R_value ∈ big := big_of 636 (by decide +kernel) rfl
theorem wv_R_value : Cond.selects R_R y_R_value y_R_value ∈ big := big_of 637 (by decide +kernel) rfl
theorem wd_R_value : y_R_value.cls ≠ "java/lang/invoke/MethodHandle" ∧ y_R_value.cls ≠ "java/lang/invoke/VarHandle" ∧ (parseMethodDescriptor y_R_value.desc).map (fun d => d.parameters.length) = some 2 := by decide +kernel
theorem w_R_told : Cond.code y_R_told c_R_told 1 (some .int) ∈ big := big_of 641 (by decide +kernel) rfl
theorem ws_R_told : Cond.static y_R_told ∈ big := big_of 640 (by decide +kernel) rfl
theorem wd_R_told : y_R_told.cls ≠ "java/lang/invoke/MethodHandle" ∧ y_R_told.cls ≠ "java/lang/invoke/VarHandle" ∧ (parseMethodDescriptor y_R_told.desc).map (fun d => d.parameters.length) = some 1 := by decide +kernel
theorem w_R_result : Cond.code y_R_result c_R_result 1 (some .int) ∈ big := big_of 645 (by decide +kernel) rfl
theorem wi_R_result : Cond.instanceMethod y_R_result ∈ big := big_of 643 (by decide +kernel) rfl
theorem wv_R_result : Cond.selects R_R y_R_result y_R_result ∈ big := big_of 644 (by decide +kernel) rfl
theorem wd_R_result : y_R_result.cls ≠ "java/lang/invoke/MethodHandle" ∧ y_R_result.cls ≠ "java/lang/invoke/VarHandle" ∧ (parseMethodDescriptor y_R_result.desc).map (fun d => d.parameters.length) = some 0 := by decide +kernel
theorem w_R_called : Cond.code y_R_called c_R_called 2 (some .int) ∈ big := big_of 649 (by decide +kernel) rfl
theorem wi_R_called : Cond.instanceMethod y_R_called ∈ big := big_of 647 (by decide +kernel) rfl
theorem wv_R_called : Cond.selects R_R y_R_called y_R_called ∈ big := big_of 648 (by decide +kernel) rfl
theorem wd_R_called : y_R_called.cls ≠ "java/lang/invoke/MethodHandle" ∧ y_R_called.cls ≠ "java/lang/invoke/VarHandle" ∧ (parseMethodDescriptor y_R_called.desc).map (fun d => d.parameters.length) = some 1 := by decide +kernel
theorem w_R_analyse : Cond.code y_R_analyse c_R_analyse 5 (some .int) ∈ big := big_of 653 (by decide +kernel) rfl
theorem wi_R_analyse : Cond.instanceMethod y_R_analyse ∈ big := big_of 651 (by decide +kernel) rfl
theorem wv_R_analyse : Cond.selects R_R y_R_analyse y_R_analyse ∈ big := big_of 652 (by decide +kernel) rfl
theorem wd_R_analyse : y_R_analyse.cls ≠ "java/lang/invoke/MethodHandle" ∧ y_R_analyse.cls ≠ "java/lang/invoke/VarHandle" ∧ (parseMethodDescriptor y_R_analyse.desc).map (fun d => d.parameters.length) = some 1 := by decide +kernel
theorem w_R_visit : Cond.code y_R_visit c_R_visit 6 none ∈ big := big_of 657 (by decide +kernel) rfl
theorem wi_R_visit : Cond.instanceMethod y_R_visit ∈ big := big_of 656 (by decide +kernel) rfl
theorem wv_R_visit : Cond.selects R_R y_R_visit y_R_visit ∈ big := big_of 24 (by decide +kernel) rfl
theorem wd_R_visit : y_R_visit.cls ≠ "java/lang/invoke/MethodHandle" ∧ y_R_visit.cls ≠ "java/lang/invoke/VarHandle" ∧ (parseMethodDescriptor y_R_visit.desc).map (fun d => d.parameters.length) = some 2 := by decide +kernel
theorem w_R_look : Cond.code y_R_look c_R_look 6 none ∈ big := big_of 661 (by decide +kernel) rfl
theorem wi_R_look : Cond.instanceMethod y_R_look ∈ big := big_of 660 (by decide +kernel) rfl
theorem wv_R_look : Cond.selects R_R y_R_look y_R_look ∈ big := big_of 25 (by decide +kernel) rfl
theorem wd_R_look : y_R_look.cls ≠ "java/lang/invoke/MethodHandle" ∧ y_R_look.cls ≠ "java/lang/invoke/VarHandle" ∧ (parseMethodDescriptor y_R_look.desc).map (fun d => d.parameters.length) = some 3 := by decide +kernel
theorem w_R_applyPairs : Cond.code y_R_applyPairs c_R_applyPairs 10 none ∈ big := big_of 665 (by decide +kernel) rfl
theorem wi_R_applyPairs : Cond.instanceMethod y_R_applyPairs ∈ big := big_of 664 (by decide +kernel) rfl
theorem wv_R_applyPairs : Cond.selects R_R y_R_applyPairs y_R_applyPairs ∈ big := big_of 26 (by decide +kernel) rfl
theorem wd_R_applyPairs : y_R_applyPairs.cls ≠ "java/lang/invoke/MethodHandle" ∧ y_R_applyPairs.cls ≠ "java/lang/invoke/VarHandle" ∧ (parseMethodDescriptor y_R_applyPairs.desc).map (fun d => d.parameters.length) = some 4 := by decide +kernel
theorem w_R_callPair : Cond.code y_R_callPair c_R_callPair 10 none ∈ big := big_of 669 (by decide +kernel) rfl
theorem wi_R_callPair : Cond.instanceMethod y_R_callPair ∈ big := big_of 668 (by decide +kernel) rfl
theorem wv_R_callPair : Cond.selects R_R y_R_callPair y_R_callPair ∈ big := big_of 27 (by decide +kernel) rfl
theorem wd_R_callPair : y_R_callPair.cls ≠ "java/lang/invoke/MethodHandle" ∧ y_R_callPair.cls ≠ "java/lang/invoke/VarHandle" ∧ (parseMethodDescriptor y_R_callPair.desc).map (fun d => d.parameters.length) = some 4 := by decide +kernel
theorem w_R_grow : Cond.code y_R_grow c_R_grow 5 none ∈ big := big_of 673 (by decide +kernel) rfl
theorem wi_R_grow : Cond.instanceMethod y_R_grow ∈ big := big_of 672 (by decide +kernel) rfl
theorem wv_R_grow : Cond.selects R_R y_R_grow y_R_grow ∈ big := big_of 28 (by decide +kernel) rfl
theorem wd_R_grow : y_R_grow.cls ≠ "java/lang/invoke/MethodHandle" ∧ y_R_grow.cls ≠ "java/lang/invoke/VarHandle" ∧ (parseMethodDescriptor y_R_grow.desc).map (fun d => d.parameters.length) = some 3 := by decide +kernel
theorem w_R_answer : Cond.code y_R_answer c_R_answer 3 none ∈ big := big_of 678 (by decide +kernel) rfl
theorem wi_R_answer : Cond.instanceMethod y_R_answer ∈ big := big_of 677 (by decide +kernel) rfl
theorem wv_R_answer : Cond.selects R_R y_R_answer y_R_answer ∈ big := big_of 29 (by decide +kernel) rfl
theorem wd_R_answer : y_R_answer.cls ≠ "java/lang/invoke/MethodHandle" ∧ y_R_answer.cls ≠ "java/lang/invoke/VarHandle" ∧ (parseMethodDescriptor y_R_answer.desc).map (fun d => d.parameters.length) = some 1 := by decide +kernel
theorem w_R_sums : Cond.code y_R_sums c_R_sums 6 (some .int) ∈ big := big_of 681 (by decide +kernel) rfl
theorem ws_R_sums : Cond.static y_R_sums ∈ big := big_of 680 (by decide +kernel) rfl
theorem wd_R_sums : y_R_sums.cls ≠ "java/lang/invoke/MethodHandle" ∧ y_R_sums.cls ≠ "java/lang/invoke/VarHandle" ∧ (parseMethodDescriptor y_R_sums.desc).map (fun d => d.parameters.length) = some 2 := by decide +kernel
theorem w_R_flow : Cond.code y_R_flow c_R_flow 2 (some .int) ∈ big := big_of 685 (by decide +kernel) rfl
theorem wi_R_flow : Cond.instanceMethod y_R_flow ∈ big := big_of 683 (by decide +kernel) rfl
theorem wv_R_flow : Cond.selects R_R y_R_flow y_R_flow ∈ big := big_of 684 (by decide +kernel) rfl
theorem wd_R_flow : y_R_flow.cls ≠ "java/lang/invoke/MethodHandle" ∧ y_R_flow.cls ≠ "java/lang/invoke/VarHandle" ∧ (parseMethodDescriptor y_R_flow.desc).map (fun d => d.parameters.length) = some 1 := by decide +kernel
theorem w_R_contours : Cond.code y_R_contours c_R_contours 2 (some .int) ∈ big := big_of 689 (by decide +kernel) rfl
theorem wi_R_contours : Cond.instanceMethod y_R_contours ∈ big := big_of 687 (by decide +kernel) rfl
theorem wv_R_contours : Cond.selects R_R y_R_contours y_R_contours ∈ big := big_of 688 (by decide +kernel) rfl
theorem wd_R_contours : y_R_contours.cls ≠ "java/lang/invoke/MethodHandle" ∧ y_R_contours.cls ≠ "java/lang/invoke/VarHandle" ∧ (parseMethodDescriptor y_R_contours.desc).map (fun d => d.parameters.length) = some 1 := by decide +kernel
theorem w_R_constants : Cond.code y_R_constants c_R_constants 5 (some .int) ∈ big := big_of 694 (by decide +kernel) rfl
theorem wi_R_constants : Cond.instanceMethod y_R_constants ∈ big := big_of 692 (by decide +kernel) rfl
theorem wv_R_constants : Cond.selects R_R y_R_constants y_R_constants ∈ big := big_of 693 (by decide +kernel) rfl
theorem wd_R_constants : y_R_constants.cls ≠ "java/lang/invoke/MethodHandle" ∧ y_R_constants.cls ≠ "java/lang/invoke/VarHandle" ∧ (parseMethodDescriptor y_R_constants.desc).map (fun d => d.parameters.length) = some 2 := by decide +kernel
theorem w_R_isParameter : Cond.code y_R_isParameter c_R_isParameter 3 (some .boolean) ∈ big := big_of 698 (by decide +kernel) rfl
theorem wi_R_isParameter : Cond.instanceMethod y_R_isParameter ∈ big := big_of 697 (by decide +kernel) rfl
theorem wv_R_isParameter : Cond.selects R_R y_R_isParameter y_R_isParameter ∈ big := big_of 30 (by decide +kernel) rfl
theorem wd_R_isParameter : y_R_isParameter.cls ≠ "java/lang/invoke/MethodHandle" ∧ y_R_isParameter.cls ≠ "java/lang/invoke/VarHandle" ∧ (parseMethodDescriptor y_R_isParameter.desc).map (fun d => d.parameters.length) = some 2 := by decide +kernel
theorem w_R_closures : Cond.code y_R_closures c_R_closures 7 (some .int) ∈ big := big_of 702 (by decide +kernel) rfl
theorem wi_R_closures : Cond.instanceMethod y_R_closures ∈ big := big_of 700 (by decide +kernel) rfl
theorem wv_R_closures : Cond.selects R_R y_R_closures y_R_closures ∈ big := big_of 701 (by decide +kernel) rfl
theorem wd_R_closures : y_R_closures.cls ≠ "java/lang/invoke/MethodHandle" ∧ y_R_closures.cls ≠ "java/lang/invoke/VarHandle" ∧ (parseMethodDescriptor y_R_closures.desc).map (fun d => d.parameters.length) = some 2 := by decide +kernel
theorem w_R_results : Cond.code y_R_results c_R_results 1 (some .int) ∈ big := big_of 706 (by decide +kernel) rfl
theorem wi_R_results : Cond.instanceMethod y_R_results ∈ big := big_of 704 (by decide +kernel) rfl
theorem wv_R_results : Cond.selects R_R y_R_results y_R_results ∈ big := big_of 705 (by decide +kernel) rfl
theorem wd_R_results : y_R_results.cls ≠ "java/lang/invoke/MethodHandle" ∧ y_R_results.cls ≠ "java/lang/invoke/VarHandle" ∧ (parseMethodDescriptor y_R_results.desc).map (fun d => d.parameters.length) = some 0 := by decide +kernel
theorem ini_A : Cond.initialized R_A ∈ big := big_of 35 (by decide +kernel) rfl
theorem inst_A : Cond.instantiable R_A 12 ∈ big := big_of 108 (by decide +kernel) rfl
theorem ini_M : Cond.initialized R_M ∈ big := big_of 34 (by decide +kernel) rfl
theorem inst_M : Cond.instantiable R_M 9 ∈ big := big_of 74 (by decide +kernel) rfl
theorem ini_P : Cond.initialized R_P ∈ big := big_of 33 (by decide +kernel) rfl
theorem inst_P : Cond.instantiable R_P 6 ∈ big := big_of 48 (by decide +kernel) rfl
theorem ini_C : Cond.initialized R_C ∈ big := big_of 32 (by decide +kernel) rfl
theorem inst_C : Cond.instantiable R_C 3 ∈ big := big_of 40 (by decide +kernel) rfl
theorem ini_R : Cond.initialized R_R ∈ big := big_of 36 (by decide +kernel) rfl
theorem inst_R : Cond.instantiable R_R 25 ∈ big := big_of 483 (by decide +kernel) rfl
theorem ini_JL : Cond.initialized R_JL ∈ big := big_of 38 (by decide +kernel) rfl
theorem ini_JA : Cond.initialized R_JA ∈ big := big_of 37 (by decide +kernel) rfl
theorem k_L_7 : Cond.classLink "ClosureFlowsLaw" 7 R_C ∈ big := big_of 39 (by decide +kernel) rfl
theorem k_L_9 : Cond.methodLink "ClosureFlowsLaw" 9 y_C_init ∈ big := big_of 41 (by decide +kernel) rfl
theorem k_C_1 : Cond.methodLink R_C 1 y_JO_init ∈ big := big_of 44 (by decide +kernel) rfl
theorem k_C_7 : Cond.classLink R_C 7 R_P ∈ big := big_of 47 (by decide +kernel) rfl
theorem k_C_9 : Cond.methodLink R_C 9 y_P_init ∈ big := big_of 49 (by decide +kernel) rfl
theorem k_P_3 : Cond.methodLink R_P 3 y_JO_init ∈ big := big_of 52 (by decide +kernel) rfl
theorem k_P_9 : Cond.fieldLink R_P 9 (F_P 0).1 (F_P 0).2.1 (F_P 0).2.2.1 ∈ big := big_of 53 (by decide +kernel) rfl
theorem k_P_15 : Cond.fieldLink R_P 15 (F_P 1).1 (F_P 1).2.1 (F_P 1).2.2.1 ∈ big := big_of 54 (by decide +kernel) rfl
theorem k_P_18 : Cond.fieldLink R_P 18 (F_P 2).1 (F_P 2).2.1 (F_P 2).2.2.1 ∈ big := big_of 55 (by decide +kernel) rfl
theorem k_P_21 : Cond.fieldLink R_P 21 (F_P 3).1 (F_P 3).2.1 (F_P 3).2.2.1 ∈ big := big_of 56 (by decide +kernel) rfl
theorem k_P_24 : Cond.fieldLink R_P 24 (F_P 4).1 (F_P 4).2.1 (F_P 4).2.2.1 ∈ big := big_of 57 (by decide +kernel) rfl
theorem k_P_27 : Cond.fieldLink R_P 27 (F_P 5).1 (F_P 5).2.1 (F_P 5).2.2.1 ∈ big := big_of 58 (by decide +kernel) rfl
theorem arr_int : Cond.arrayClass .int ∈ big := big_of 72 (by decide +kernel) rfl
theorem k_C_16 : Cond.classLink R_C 16 R_M ∈ big := big_of 73 (by decide +kernel) rfl
theorem k_C_18 : Cond.methodLink R_C 18 y_M_init ∈ big := big_of 75 (by decide +kernel) rfl
theorem k_M_3 : Cond.methodLink R_M 3 y_JO_init ∈ big := big_of 78 (by decide +kernel) rfl
theorem k_M_27 : Cond.fieldLink R_M 27 (F_M 0).1 (F_M 0).2.1 (F_M 0).2.2.1 ∈ big := big_of 79 (by decide +kernel) rfl
theorem k_M_11 : Cond.fieldLink R_M 11 (F_M 1).1 (F_M 1).2.1 (F_M 1).2.2.1 ∈ big := big_of 80 (by decide +kernel) rfl
theorem k_M_15 : Cond.fieldLink R_M 15 (F_M 2).1 (F_M 2).2.1 (F_M 2).2.2.1 ∈ big := big_of 81 (by decide +kernel) rfl
theorem k_M_18 : Cond.fieldLink R_M 18 (F_M 3).1 (F_M 3).2.1 (F_M 3).2.2.1 ∈ big := big_of 82 (by decide +kernel) rfl
theorem k_M_21 : Cond.fieldLink R_M 21 (F_M 4).1 (F_M 4).2.1 (F_M 4).2.2.1 ∈ big := big_of 83 (by decide +kernel) rfl
theorem k_M_24 : Cond.fieldLink R_M 24 (F_M 5).1 (F_M 5).2.1 (F_M 5).2.2.1 ∈ big := big_of 84 (by decide +kernel) rfl
theorem k_M_35 : Cond.fieldLink R_M 35 (F_M 6).1 (F_M 6).2.1 (F_M 6).2.2.1 ∈ big := big_of 85 (by decide +kernel) rfl
theorem k_M_31 : Cond.fieldLink R_M 31 (F_M 7).1 (F_M 7).2.1 (F_M 7).2.2.1 ∈ big := big_of 86 (by decide +kernel) rfl
theorem k_M_44 : Cond.fieldLink R_M 44 (F_M 8).1 (F_M 8).2.1 (F_M 8).2.2.1 ∈ big := big_of 87 (by decide +kernel) rfl
theorem k_C_25 : Cond.classLink R_C 25 R_A ∈ big := big_of 107 (by decide +kernel) rfl
theorem k_C_27 : Cond.methodLink R_C 27 y_A_init ∈ big := big_of 109 (by decide +kernel) rfl
theorem k_A_3 : Cond.methodLink R_A 3 y_JO_init ∈ big := big_of 112 (by decide +kernel) rfl
theorem k_A_28 : Cond.fieldLink R_A 28 (F_A 0).1 (F_A 0).2.1 (F_A 0).2.2.1 ∈ big := big_of 113 (by decide +kernel) rfl
theorem k_A_11 : Cond.fieldLink R_A 11 (F_A 1).1 (F_A 1).2.1 (F_A 1).2.2.1 ∈ big := big_of 114 (by decide +kernel) rfl
theorem k_A_15 : Cond.fieldLink R_A 15 (F_A 2).1 (F_A 2).2.1 (F_A 2).2.2.1 ∈ big := big_of 115 (by decide +kernel) rfl
theorem k_A_19 : Cond.fieldLink R_A 19 (F_A 3).1 (F_A 3).2.1 (F_A 3).2.2.1 ∈ big := big_of 116 (by decide +kernel) rfl
theorem k_A_22 : Cond.fieldLink R_A 22 (F_A 4).1 (F_A 4).2.1 (F_A 4).2.2.1 ∈ big := big_of 117 (by decide +kernel) rfl
theorem k_A_25 : Cond.fieldLink R_A 25 (F_A 5).1 (F_A 5).2.1 (F_A 5).2.2.1 ∈ big := big_of 118 (by decide +kernel) rfl
theorem k_A_36 : Cond.fieldLink R_A 36 (F_A 6).1 (F_A 6).2.1 (F_A 6).2.2.1 ∈ big := big_of 119 (by decide +kernel) rfl
theorem k_A_44 : Cond.fieldLink R_A 44 (F_A 7).1 (F_A 7).2.1 (F_A 7).2.2.1 ∈ big := big_of 120 (by decide +kernel) rfl
theorem k_A_91 : Cond.fieldLink R_A 91 (F_A 8).1 (F_A 8).2.1 (F_A 8).2.2.1 ∈ big := big_of 121 (by decide +kernel) rfl
theorem k_A_94 : Cond.fieldLink R_A 94 (F_A 9).1 (F_A 9).2.1 (F_A 9).2.2.1 ∈ big := big_of 122 (by decide +kernel) rfl
theorem k_A_59 : Cond.fieldLink R_A 59 (F_A 10).1 (F_A 10).2.1 (F_A 10).2.2.1 ∈ big := big_of 123 (by decide +kernel) rfl
theorem k_A_32 : Cond.fieldLink R_A 32 (F_A 11).1 (F_A 11).2.1 (F_A 11).2.2.1 ∈ big := big_of 124 (by decide +kernel) rfl
theorem arr_long : Cond.arrayClass .long ∈ big := big_of 150 (by decide +kernel) rfl
theorem k_C_10 : Cond.fieldLink R_C 10 (F_C 0).1 (F_C 0).2.1 (F_C 0).2.2.1 ∈ big := big_of 151 (by decide +kernel) rfl
theorem k_C_21 : Cond.fieldLink R_C 21 (F_C 1).1 (F_C 1).2.1 (F_C 1).2.2.1 ∈ big := big_of 152 (by decide +kernel) rfl
theorem k_C_28 : Cond.fieldLink R_C 28 (F_C 2).1 (F_C 2).2.1 (F_C 2).2.2.1 ∈ big := big_of 153 (by decide +kernel) rfl
theorem k_L_13 : Cond.methodLink "ClosureFlowsLaw" 13 y_C_lambda ∈ big := big_of 161 (by decide +kernel) rfl
theorem k_C_32 : Cond.methodLink R_C 32 y_P_makeLambda ∈ big := big_of 165 (by decide +kernel) rfl
theorem k_P_31 : Cond.methodLink R_P 31 y_P_hasLambda ∈ big := big_of 169 (by decide +kernel) rfl
theorem k_C_36 : Cond.methodLink R_C 36 y_C_forgetRuns ∈ big := big_of 173 (by decide +kernel) rfl
theorem k_C_113 : Cond.methodLink R_C 113 y_M_forget ∈ big := big_of 177 (by decide +kernel) rfl
theorem k_C_116 : Cond.methodLink R_C 116 y_A_forget ∈ big := big_of 181 (by decide +kernel) rfl
theorem k_L_18 : Cond.methodLink "ClosureFlowsLaw" 18 y_C_put ∈ big := big_of 185 (by decide +kernel) rfl
theorem k_C_39 : Cond.methodLink R_C 39 y_P_append ∈ big := big_of 189 (by decide +kernel) rfl
theorem k_P_35 : Cond.methodLink R_P 35 y_P_mayStand ∈ big := big_of 193 (by decide +kernel) rfl
theorem k_P_39 : Cond.methodLinkNest R_P 39 y_C_isParameter R_C ∈ big := big_of 197 (by decide +kernel) rfl
theorem k_P_42 : Cond.methodLinkNest R_P 42 y_C_lambdaOfParameter R_C ∈ big := big_of 200 (by decide +kernel) rfl
theorem k_P_46 : Cond.methodLinkNest R_P 46 y_C_indexOfParameter R_C ∈ big := big_of 203 (by decide +kernel) rfl
theorem k_P_49 : Cond.methodLink R_P 49 y_P_hasParameter ∈ big := big_of 206 (by decide +kernel) rfl
theorem k_P_52 : Cond.methodLinkNest R_P 52 y_C_has R_C ∈ big := big_of 210 (by decide +kernel) rfl
theorem k_P_55 : Cond.methodLinkNest R_P 55 y_C_isLambda R_C ∈ big := big_of 213 (by decide +kernel) rfl
theorem k_P_58 : Cond.methodLinkNest R_P 58 y_C_isNumber R_C ∈ big := big_of 216 (by decide +kernel) rfl
theorem k_P_61 : Cond.methodLinkNest R_P 61 y_C_isPrimitive R_C ∈ big := big_of 219 (by decide +kernel) rfl
theorem k_L_23 : Cond.methodLink "ClosureFlowsLaw" 23 y_C_clear ∈ big := big_of 222 (by decide +kernel) rfl
theorem k_C_43 : Cond.methodLink R_C 43 y_P_empty ∈ big := big_of 226 (by decide +kernel) rfl
theorem k_L_27 : Cond.methodLink "ClosureFlowsLaw" 27 y_C_lambdas ∈ big := big_of 230 (by decide +kernel) rfl
theorem k_C_46 : Cond.methodLink R_C 46 y_P_size ∈ big := big_of 234 (by decide +kernel) rfl
theorem k_L_32 : Cond.methodLink "ClosureFlowsLaw" 32 y_C_atom ∈ big := big_of 238 (by decide +kernel) rfl
theorem k_C_50 : Cond.methodLink R_C 50 y_P_hasAtom ∈ big := big_of 242 (by decide +kernel) rfl
theorem k_C_53 : Cond.methodLink R_C 53 y_P_atomOf ∈ big := big_of 246 (by decide +kernel) rfl
theorem k_L_36 : Cond.methodLink "ClosureFlowsLaw" 36 y_C_start ∈ big := big_of 250 (by decide +kernel) rfl
theorem k_C_56 : Cond.methodLink R_C 56 y_M_begin ∈ big := big_of 254 (by decide +kernel) rfl
theorem k_M_38 : Cond.methodLink R_M 38 y_JA_fill ∈ big := big_of 258 (by decide +kernel) rfl
theorem k_L_40 : Cond.methodLink "ClosureFlowsLaw" 40 y_C_step ∈ big := big_of 261 (by decide +kernel) rfl
theorem k_C_59 : Cond.methodLink R_C 59 y_M_isStarted ∈ big := big_of 265 (by decide +kernel) rfl
theorem k_C_63 : Cond.methodLink R_C 63 y_M_advance ∈ big := big_of 269 (by decide +kernel) rfl
theorem k_M_53 : Cond.methodLink R_M 53 y_M_tryStep ∈ big := big_of 273 (by decide +kernel) rfl
theorem k_M_56 : Cond.methodLink R_M 56 y_M_place ∈ big := big_of 277 (by decide +kernel) rfl
theorem k_M_60 : Cond.methodLink R_M 60 y_P_callLength ∈ big := big_of 281 (by decide +kernel) rfl
theorem k_M_64 : Cond.methodLink R_M 64 y_P_atomOf ∈ big := big_of 285 (by decide +kernel) rfl
theorem k_M_68 : Cond.methodLink R_M 68 y_M_meaning ∈ big := big_of 286 (by decide +kernel) rfl
theorem k_M_75 : Cond.methodLinkNest R_M 75 y_C_isParameter R_C ∈ big := big_of 290 (by decide +kernel) rfl
theorem k_M_79 : Cond.methodLinkNest R_M 79 y_C_lambdaOfParameter R_C ∈ big := big_of 291 (by decide +kernel) rfl
theorem k_M_82 : Cond.methodLinkNest R_M 82 y_C_indexOfParameter R_C ∈ big := big_of 292 (by decide +kernel) rfl
theorem k_M_85 : Cond.methodLink R_M 85 y_M_bound ∈ big := big_of 293 (by decide +kernel) rfl
theorem k_M_47 : Cond.methodLink R_M 47 y_P_hasParameter ∈ big := big_of 297 (by decide +kernel) rfl
theorem k_M_88 : Cond.methodLinkNest R_M 88 y_C_isLambda R_C ∈ big := big_of 298 (by decide +kernel) rfl
theorem k_M_71 : Cond.methodLink R_M 71 y_M_applyOperator ∈ big := big_of 299 (by decide +kernel) rfl
theorem k_M_91 : Cond.methodLinkNest R_M 91 y_C_isNumber R_C ∈ big := big_of 303 (by decide +kernel) rfl
theorem k_M_94 : Cond.methodLink R_M 94 y_M_applyDirectly ∈ big := big_of 304 (by decide +kernel) rfl
theorem k_M_98 : Cond.methodLinkNest R_M 98 y_C_told R_C ∈ big := big_of 308 (by decide +kernel) rfl
theorem k_M_101 : Cond.methodLink R_M 101 y_P_paramsOf ∈ big := big_of 311 (by decide +kernel) rfl
theorem k_M_104 : Cond.methodLink R_M 104 y_M_enter ∈ big := big_of 315 (by decide +kernel) rfl
theorem k_L_45 : Cond.methodLink "ClosureFlowsLaw" 45 y_C_state ∈ big := big_of 319 (by decide +kernel) rfl
theorem k_C_67 : Cond.methodLink R_C 67 y_M_phase ∈ big := big_of 323 (by decide +kernel) rfl
theorem k_L_49 : Cond.methodLink "ClosureFlowsLaw" 49 y_C_at ∈ big := big_of 327 (by decide +kernel) rfl
theorem k_C_70 : Cond.methodLink R_C 70 y_M_place ∈ big := big_of 331 (by decide +kernel) rfl
theorem k_L_53 : Cond.methodLink "ClosureFlowsLaw" 53 y_C_value ∈ big := big_of 332 (by decide +kernel) rfl
theorem k_C_73 : Cond.methodLink R_C 73 y_M_bound ∈ big := big_of 336 (by decide +kernel) rfl
theorem k_C_76 : Cond.methodLink R_C 76 y_C_told ∈ big := big_of 337 (by decide +kernel) rfl
theorem k_L_57 : Cond.methodLink "ClosureFlowsLaw" 57 y_C_result ∈ big := big_of 338 (by decide +kernel) rfl
theorem k_C_79 : Cond.methodLink R_C 79 y_M_outcome ∈ big := big_of 342 (by decide +kernel) rfl
theorem k_L_61 : Cond.methodLink "ClosureFlowsLaw" 61 y_C_called ∈ big := big_of 346 (by decide +kernel) rfl
theorem k_C_82 : Cond.methodLink R_C 82 y_P_hasLambda ∈ big := big_of 350 (by decide +kernel) rfl
theorem k_C_86 : Cond.methodLink R_C 86 y_M_calledFrom ∈ big := big_of 351 (by decide +kernel) rfl
theorem k_L_65 : Cond.methodLink "ClosureFlowsLaw" 65 y_C_analyse ∈ big := big_of 355 (by decide +kernel) rfl
theorem k_C_89 : Cond.methodLink R_C 89 y_A_make ∈ big := big_of 359 (by decide +kernel) rfl
theorem k_A_52 : Cond.methodLink R_A 52 y_A_emptySets ∈ big := big_of 363 (by decide +kernel) rfl
theorem k_A_76 : Cond.methodLink R_A 76 y_JA_fill ∈ big := big_of 367 (by decide +kernel) rfl
theorem k_A_82 : Cond.methodLink R_A 82 y_JA_fill_JJV ∈ big := big_of 368 (by decide +kernel) rfl
theorem k_A_55 : Cond.methodLink R_A 55 y_A_pair ∈ big := big_of 371 (by decide +kernel) rfl
theorem k_A_62 : Cond.methodLink R_A 62 y_A_hasPair ∈ big := big_of 374 (by decide +kernel) rfl
theorem k_A_66 : Cond.methodLink R_A 66 y_A_visit ∈ big := big_of 377 (by decide +kernel) rfl
theorem k_A_85 : Cond.methodLink R_A 85 y_P_callLength ∈ big := big_of 381 (by decide +kernel) rfl
theorem k_A_97 : Cond.methodLink R_A 97 y_P_atomOf ∈ big := big_of 382 (by decide +kernel) rfl
theorem k_A_101 : Cond.methodLink R_A 101 y_A_loadOperand ∈ big := big_of 383 (by decide +kernel) rfl
theorem k_A_117 : Cond.methodLinkNest R_A 117 y_C_isParameter R_C ∈ big := big_of 387 (by decide +kernel) rfl
theorem k_A_121 : Cond.methodLinkNest R_A 121 y_C_lambdaOfParameter R_C ∈ big := big_of 388 (by decide +kernel) rfl
theorem k_A_124 : Cond.methodLinkNest R_A 124 y_C_indexOfParameter R_C ∈ big := big_of 389 (by decide +kernel) rfl
theorem k_A_48 : Cond.methodLink R_A 48 y_A_slot ∈ big := big_of 390 (by decide +kernel) rfl
theorem k_A_127 : Cond.methodLinkNest R_A 127 y_C_isLambda R_C ∈ big := big_of 393 (by decide +kernel) rfl
theorem k_A_107 : Cond.methodLink R_A 107 y_A_constantBit ∈ big := big_of 394 (by decide +kernel) rfl
theorem k_A_151 : Cond.methodLinkNest R_A 151 y_C_isNumber R_C ∈ big := big_of 397 (by decide +kernel) rfl
theorem k_A_104 : Cond.methodLink R_A 104 y_A_applyDirectly ∈ big := big_of 398 (by decide +kernel) rfl
theorem k_A_110 : Cond.methodLinkNest R_A 110 y_C_has R_C ∈ big := big_of 402 (by decide +kernel) rfl
theorem k_A_130 : Cond.methodLink R_A 130 y_P_paramsOf ∈ big := big_of 403 (by decide +kernel) rfl
theorem k_A_133 : Cond.methodLink R_A 133 y_A_enter ∈ big := big_of 404 (by decide +kernel) rfl
theorem k_A_136 : Cond.methodLink R_A 136 y_A_addState ∈ big := big_of 408 (by decide +kernel) rfl
theorem k_A_140 : Cond.methodLink R_A 140 y_A_widen ∈ big := big_of 412 (by decide +kernel) rfl
theorem k_A_144 : Cond.methodLink R_A 144 y_P_lineageOf ∈ big := big_of 416 (by decide +kernel) rfl
theorem k_A_147 : Cond.methodLink R_A 147 y_A_carryOver ∈ big := big_of 420 (by decide +kernel) rfl
theorem k_A_114 : Cond.methodLink R_A 114 y_A_loadSums ∈ big := big_of 424 (by decide +kernel) rfl
theorem k_A_70 : Cond.methodLink R_A 70 y_JL_bitCount ∈ big := big_of 428 (by decide +kernel) rfl
theorem k_JL_314 : Cond.constantLong R_JL 314 (6148914691236517205 : Int64) ∈ big := big_of 431 (by decide +kernel) rfl
theorem k_JL_316 : Cond.constantLong R_JL 316 (3689348814741910323 : Int64) ∈ big := big_of 432 (by decide +kernel) rfl
theorem k_JL_318 : Cond.constantLong R_JL 318 (1085102592571150095 : Int64) ∈ big := big_of 433 (by decide +kernel) rfl
theorem k_L_69 : Cond.methodLink "ClosureFlowsLaw" 69 y_C_flow ∈ big := big_of 434 (by decide +kernel) rfl
theorem k_C_92 : Cond.methodLink R_C 92 y_A_isMade ∈ big := big_of 438 (by decide +kernel) rfl
theorem k_C_95 : Cond.methodLink R_C 95 y_A_flowFrom ∈ big := big_of 442 (by decide +kernel) rfl
theorem k_L_73 : Cond.methodLink "ClosureFlowsLaw" 73 y_C_contours ∈ big := big_of 446 (by decide +kernel) rfl
theorem k_C_98 : Cond.methodLink R_C 98 y_A_contoursOf ∈ big := big_of 450 (by decide +kernel) rfl
theorem k_A_40 : Cond.methodLink R_A 40 y_A_contoursIn ∈ big := big_of 454 (by decide +kernel) rfl
theorem k_L_77 : Cond.methodLink "ClosureFlowsLaw" 77 y_C_constants ∈ big := big_of 457 (by decide +kernel) rfl
theorem k_C_101 : Cond.methodLink R_C 101 y_P_hasParameter ∈ big := big_of 461 (by decide +kernel) rfl
theorem k_C_104 : Cond.methodLink R_C 104 y_A_constantsIn ∈ big := big_of 462 (by decide +kernel) rfl
theorem k_L_81 : Cond.methodLink "ClosureFlowsLaw" 81 y_C_closures ∈ big := big_of 466 (by decide +kernel) rfl
theorem k_C_107 : Cond.methodLink R_C 107 y_A_lambdasIn ∈ big := big_of 470 (by decide +kernel) rfl
theorem k_L_85 : Cond.methodLink "ClosureFlowsLaw" 85 y_C_results ∈ big := big_of 474 (by decide +kernel) rfl
theorem k_C_110 : Cond.methodLink R_C 110 y_A_outcomes ∈ big := big_of 478 (by decide +kernel) rfl
theorem k_L_10 : Cond.classLink "ClosureFlowsLaw" 10 R_R ∈ big := big_of 482 (by decide +kernel) rfl
theorem k_L_12 : Cond.methodLink "ClosureFlowsLaw" 12 y_R_init ∈ big := big_of 484 (by decide +kernel) rfl
theorem k_R_1 : Cond.methodLink R_R 1 y_JO_init ∈ big := big_of 487 (by decide +kernel) rfl
theorem k_R_7 : Cond.fieldLink R_R 7 (F_R 0).1 (F_R 0).2.1 (F_R 0).2.2.1 ∈ big := big_of 488 (by decide +kernel) rfl
theorem k_R_13 : Cond.fieldLink R_R 13 (F_R 1).1 (F_R 1).2.1 (F_R 1).2.2.1 ∈ big := big_of 489 (by decide +kernel) rfl
theorem k_R_17 : Cond.fieldLink R_R 17 (F_R 2).1 (F_R 2).2.1 (F_R 2).2.2.1 ∈ big := big_of 490 (by decide +kernel) rfl
theorem k_R_20 : Cond.fieldLink R_R 20 (F_R 3).1 (F_R 3).2.1 (F_R 3).2.2.1 ∈ big := big_of 491 (by decide +kernel) rfl
theorem k_R_23 : Cond.fieldLink R_R 23 (F_R 4).1 (F_R 4).2.1 (F_R 4).2.2.1 ∈ big := big_of 492 (by decide +kernel) rfl
theorem k_R_57 : Cond.fieldLink R_R 57 (F_R 5).1 (F_R 5).2.1 (F_R 5).2.2.1 ∈ big := big_of 493 (by decide +kernel) rfl
theorem k_R_78 : Cond.fieldLink R_R 78 (F_R 6).1 (F_R 6).2.1 (F_R 6).2.2.1 ∈ big := big_of 494 (by decide +kernel) rfl
theorem k_R_81 : Cond.fieldLink R_R 81 (F_R 7).1 (F_R 7).2.1 (F_R 7).2.2.1 ∈ big := big_of 495 (by decide +kernel) rfl
theorem k_R_84 : Cond.fieldLink R_R 84 (F_R 8).1 (F_R 8).2.1 (F_R 8).2.2.1 ∈ big := big_of 496 (by decide +kernel) rfl
theorem k_R_98 : Cond.fieldLink R_R 98 (F_R 9).1 (F_R 9).2.1 (F_R 9).2.2.1 ∈ big := big_of 497 (by decide +kernel) rfl
theorem k_R_26 : Cond.fieldLink R_R 26 (F_R 10).1 (F_R 10).2.1 (F_R 10).2.2.1 ∈ big := big_of 498 (by decide +kernel) rfl
theorem k_R_29 : Cond.fieldLink R_R 29 (F_R 11).1 (F_R 11).2.1 (F_R 11).2.2.1 ∈ big := big_of 499 (by decide +kernel) rfl
theorem k_R_32 : Cond.fieldLink R_R 32 (F_R 12).1 (F_R 12).2.1 (F_R 12).2.2.1 ∈ big := big_of 500 (by decide +kernel) rfl
theorem k_R_35 : Cond.fieldLink R_R 35 (F_R 13).1 (F_R 13).2.1 (F_R 13).2.2.1 ∈ big := big_of 501 (by decide +kernel) rfl
theorem k_R_38 : Cond.fieldLink R_R 38 (F_R 14).1 (F_R 14).2.1 (F_R 14).2.2.1 ∈ big := big_of 502 (by decide +kernel) rfl
theorem k_R_60 : Cond.fieldLink R_R 60 (F_R 15).1 (F_R 15).2.1 (F_R 15).2.2.1 ∈ big := big_of 503 (by decide +kernel) rfl
theorem k_R_117 : Cond.fieldLink R_R 117 (F_R 16).1 (F_R 16).2.1 (F_R 16).2.2.1 ∈ big := big_of 504 (by decide +kernel) rfl
theorem k_R_41 : Cond.fieldLink R_R 41 (F_R 17).1 (F_R 17).2.1 (F_R 17).2.2.1 ∈ big := big_of 505 (by decide +kernel) rfl
theorem k_R_44 : Cond.fieldLink R_R 44 (F_R 18).1 (F_R 18).2.1 (F_R 18).2.2.1 ∈ big := big_of 506 (by decide +kernel) rfl
theorem k_R_128 : Cond.fieldLink R_R 128 (F_R 19).1 (F_R 19).2.1 (F_R 19).2.2.1 ∈ big := big_of 507 (by decide +kernel) rfl
theorem k_R_48 : Cond.fieldLink R_R 48 (F_R 20).1 (F_R 20).2.1 (F_R 20).2.2.1 ∈ big := big_of 508 (by decide +kernel) rfl
theorem k_R_132 : Cond.fieldLink R_R 132 (F_R 21).1 (F_R 21).2.1 (F_R 21).2.2.1 ∈ big := big_of 509 (by decide +kernel) rfl
theorem k_R_114 : Cond.fieldLink R_R 114 (F_R 22).1 (F_R 22).2.1 (F_R 22).2.2.1 ∈ big := big_of 510 (by decide +kernel) rfl
theorem k_R_51 : Cond.fieldLink R_R 51 (F_R 23).1 (F_R 23).2.1 (F_R 23).2.2.1 ∈ big := big_of 511 (by decide +kernel) rfl
theorem k_R_54 : Cond.fieldLink R_R 54 (F_R 24).1 (F_R 24).2.1 (F_R 24).2.2.1 ∈ big := big_of 512 (by decide +kernel) rfl
theorem k_L_17 : Cond.methodLink "ClosureFlowsLaw" 17 y_R_lambda ∈ big := big_of 564 (by decide +kernel) rfl
theorem k_R_64 : Cond.methodLink R_R 64 y_R_isLambda ∈ big := big_of 568 (by decide +kernel) rfl
theorem k_R_68 : Cond.methodLink R_R 68 y_R_change ∈ big := big_of 572 (by decide +kernel) rfl
theorem k_L_22 : Cond.methodLink "ClosureFlowsLaw" 22 y_R_put ∈ big := big_of 576 (by decide +kernel) rfl
theorem k_R_75 : Cond.methodLink R_R 75 y_R_mayStand ∈ big := big_of 580 (by decide +kernel) rfl
theorem k_R_71 : Cond.methodLink R_R 71 y_R_around ∈ big := big_of 584 (by decide +kernel) rfl
theorem k_L_26 : Cond.methodLink "ClosureFlowsLaw" 26 y_R_clear ∈ big := big_of 588 (by decide +kernel) rfl
theorem k_L_31 : Cond.methodLink "ClosureFlowsLaw" 31 y_R_lambdas ∈ big := big_of 592 (by decide +kernel) rfl
theorem k_L_35 : Cond.methodLink "ClosureFlowsLaw" 35 y_R_atom ∈ big := big_of 596 (by decide +kernel) rfl
theorem k_L_39 : Cond.methodLink "ClosureFlowsLaw" 39 y_R_start ∈ big := big_of 600 (by decide +kernel) rfl
theorem k_L_44 : Cond.methodLink "ClosureFlowsLaw" 44 y_R_step ∈ big := big_of 604 (by decide +kernel) rfl
theorem k_R_105 : Cond.methodLink R_R 105 y_R_move ∈ big := big_of 608 (by decide +kernel) rfl
theorem k_R_91 : Cond.methodLink R_R 91 y_R_valueOf ∈ big := big_of 612 (by decide +kernel) rfl
theorem k_R_87 : Cond.methodLink R_R 87 y_R_envOf ∈ big := big_of 616 (by decide +kernel) rfl
theorem k_R_95 : Cond.methodLink R_R 95 y_R_isNumber ∈ big := big_of 620 (by decide +kernel) rfl
theorem k_R_101 : Cond.methodLink R_R 101 y_R_enter ∈ big := big_of 623 (by decide +kernel) rfl
theorem k_L_48 : Cond.methodLink "ClosureFlowsLaw" 48 y_R_state ∈ big := big_of 627 (by decide +kernel) rfl
theorem k_L_52 : Cond.methodLink "ClosureFlowsLaw" 52 y_R_at ∈ big := big_of 631 (by decide +kernel) rfl
theorem k_L_56 : Cond.methodLink "ClosureFlowsLaw" 56 y_R_value ∈ big := big_of 635 (by decide +kernel) rfl
theorem k_R_109 : Cond.methodLink R_R 109 y_R_told ∈ big := big_of 639 (by decide +kernel) rfl
theorem k_L_60 : Cond.methodLink "ClosureFlowsLaw" 60 y_R_result ∈ big := big_of 642 (by decide +kernel) rfl
theorem k_L_64 : Cond.methodLink "ClosureFlowsLaw" 64 y_R_called ∈ big := big_of 646 (by decide +kernel) rfl
theorem k_L_68 : Cond.methodLink "ClosureFlowsLaw" 68 y_R_analyse ∈ big := big_of 650 (by decide +kernel) rfl
theorem k_R_149 : Cond.methodLink R_R 149 y_R_visit ∈ big := big_of 654 (by decide +kernel) rfl
theorem k_R_135 : Cond.methodLink R_R 135 y_R_look ∈ big := big_of 658 (by decide +kernel) rfl
theorem k_R_138 : Cond.methodLink R_R 138 y_R_applyPairs ∈ big := big_of 662 (by decide +kernel) rfl
theorem k_R_120 : Cond.methodLink R_R 120 y_R_callPair ∈ big := big_of 666 (by decide +kernel) rfl
theorem k_R_124 : Cond.methodLink R_R 124 y_R_grow ∈ big := big_of 670 (by decide +kernel) rfl
theorem k_R_112 : Cond.constantLong R_R 112 (-1 : Int64) ∈ big := big_of 674 (by decide +kernel) rfl
theorem k_R_142 : Cond.methodLink R_R 142 y_R_answer ∈ big := big_of 675 (by decide +kernel) rfl
theorem k_R_146 : Cond.methodLink R_R 146 y_R_sums ∈ big := big_of 679 (by decide +kernel) rfl
theorem k_L_72 : Cond.methodLink "ClosureFlowsLaw" 72 y_R_flow ∈ big := big_of 682 (by decide +kernel) rfl
theorem k_L_76 : Cond.methodLink "ClosureFlowsLaw" 76 y_R_contours ∈ big := big_of 686 (by decide +kernel) rfl
theorem k_R_153 : Cond.constantLong R_R 153 (255 : Int64) ∈ big := big_of 690 (by decide +kernel) rfl
theorem k_L_80 : Cond.methodLink "ClosureFlowsLaw" 80 y_R_constants ∈ big := big_of 691 (by decide +kernel) rfl
theorem k_R_155 : Cond.methodLink R_R 155 y_R_isParameter ∈ big := big_of 695 (by decide +kernel) rfl
theorem k_L_84 : Cond.methodLink "ClosureFlowsLaw" 84 y_R_closures ∈ big := big_of 699 (by decide +kernel) rfl
theorem k_L_88 : Cond.methodLink "ClosureFlowsLaw" 88 y_R_results ∈ big := big_of 703 (by decide +kernel) rfl
end
section
theorem d_P_init_0 : decode c_P_init 0 = .ok (.aload_n 0, 1) := by decide +kernel
theorem d_P_init_1 : decode c_P_init 1 = .ok (.invokespecial 3, 3) := by decide +kernel
theorem d_P_init_4 : decode c_P_init 4 = .ok (.aload_n 0, 1) := by decide +kernel
theorem d_P_init_5 : decode c_P_init 5 = .ok (.bipush 8, 2) := by decide +kernel
theorem d_P_init_7 : decode c_P_init 7 = .ok (.newarray .int, 2) := by decide +kernel
theorem d_P_init_9 : decode c_P_init 9 = .ok (.putfield 9, 3) := by decide +kernel
theorem d_P_init_12 : decode c_P_init 12 = .ok (.aload_n 0, 1) := by decide +kernel
theorem d_P_init_13 : decode c_P_init 13 = .ok (.bipush 8, 2) := by decide +kernel
theorem d_P_init_15 : decode c_P_init 15 = .ok (.newarray .int, 2) := by decide +kernel
theorem d_P_init_17 : decode c_P_init 17 = .ok (.putfield 15, 3) := by decide +kernel
theorem d_P_init_20 : decode c_P_init 20 = .ok (.aload_n 0, 1) := by decide +kernel
theorem d_P_init_21 : decode c_P_init 21 = .ok (.bipush 8, 2) := by decide +kernel
theorem d_P_init_23 : decode c_P_init 23 = .ok (.newarray .int, 2) := by decide +kernel
theorem d_P_init_25 : decode c_P_init 25 = .ok (.putfield 18, 3) := by decide +kernel
theorem d_P_init_28 : decode c_P_init 28 = .ok (.aload_n 0, 1) := by decide +kernel
theorem d_P_init_29 : decode c_P_init 29 = .ok (.bipush 8, 2) := by decide +kernel
theorem d_P_init_31 : decode c_P_init 31 = .ok (.newarray .int, 2) := by decide +kernel
theorem d_P_init_33 : decode c_P_init 33 = .ok (.putfield 21, 3) := by decide +kernel
theorem d_P_init_36 : decode c_P_init 36 = .ok (.aload_n 0, 1) := by decide +kernel
theorem d_P_init_37 : decode c_P_init 37 = .ok (.bipush 32, 2) := by decide +kernel
theorem d_P_init_39 : decode c_P_init 39 = .ok (.newarray .int, 2) := by decide +kernel
theorem d_P_init_41 : decode c_P_init 41 = .ok (.putfield 24, 3) := by decide +kernel
theorem d_P_init_44 : decode c_P_init 44 = .ok (.aload_n 0, 1) := by decide +kernel
theorem d_P_init_45 : decode c_P_init 45 = .ok (.getfield 9, 3) := by decide +kernel
theorem d_P_init_48 : decode c_P_init 48 = .ok (.iconst 0, 1) := by decide +kernel
theorem d_P_init_49 : decode c_P_init 49 = .ok (.iconst (-1), 1) := by decide +kernel
theorem d_P_init_50 : decode c_P_init 50 = .ok (.iastore, 1) := by decide +kernel
theorem d_P_init_51 : decode c_P_init 51 = .ok (.aload_n 0, 1) := by decide +kernel
theorem d_P_init_52 : decode c_P_init 52 = .ok (.getfield 18, 3) := by decide +kernel
theorem d_P_init_55 : decode c_P_init 55 = .ok (.iconst 0, 1) := by decide +kernel
theorem d_P_init_56 : decode c_P_init 56 = .ok (.iconst 1, 1) := by decide +kernel
theorem d_P_init_57 : decode c_P_init 57 = .ok (.iastore, 1) := by decide +kernel
theorem d_P_init_58 : decode c_P_init 58 = .ok (.aload_n 0, 1) := by decide +kernel
theorem d_P_init_59 : decode c_P_init 59 = .ok (.iconst 1, 1) := by decide +kernel
theorem d_P_init_60 : decode c_P_init 60 = .ok (.putfield 27, 3) := by decide +kernel
theorem d_P_init_63 : decode c_P_init 63 = .ok (.return_, 1) := by decide +kernel
theorem d_P_makeLambda_0 : decode c_P_makeLambda 0 = .ok (.aload_n 0, 1) := by decide +kernel
theorem d_P_makeLambda_1 : decode c_P_makeLambda 1 = .ok (.iload_n 1, 1) := by decide +kernel
theorem d_P_makeLambda_2 : decode c_P_makeLambda 2 = .ok (.invokevirtual 31, 3) := by decide +kernel
theorem d_P_makeLambda_5 : decode c_P_makeLambda 5 = .ok (.ifCond .eq 21, 3) := by decide +kernel
theorem d_P_makeLambda_8 : decode c_P_makeLambda 8 = .ok (.iload_n 2, 1) := by decide +kernel
theorem d_P_makeLambda_9 : decode c_P_makeLambda 9 = .ok (.ifCond .lt 17, 3) := by decide +kernel
theorem d_P_makeLambda_12 : decode c_P_makeLambda 12 = .ok (.iload_n 2, 1) := by decide +kernel
theorem d_P_makeLambda_13 : decode c_P_makeLambda 13 = .ok (.iconst 3, 1) := by decide +kernel
theorem d_P_makeLambda_14 : decode c_P_makeLambda 14 = .ok (.if_icmp .gt 12, 3) := by decide +kernel
theorem d_P_makeLambda_17 : decode c_P_makeLambda 17 = .ok (.aload_n 0, 1) := by decide +kernel
theorem d_P_makeLambda_18 : decode c_P_makeLambda 18 = .ok (.getfield 27, 3) := by decide +kernel
theorem d_P_makeLambda_21 : decode c_P_makeLambda 21 = .ok (.bipush 8, 2) := by decide +kernel
theorem d_P_makeLambda_23 : decode c_P_makeLambda 23 = .ok (.if_icmp .ne 5, 3) := by decide +kernel
theorem d_P_makeLambda_26 : decode c_P_makeLambda 26 = .ok (.iconst (-1), 1) := by decide +kernel
theorem d_P_makeLambda_27 : decode c_P_makeLambda 27 = .ok (.ireturn, 1) := by decide +kernel
theorem d_P_makeLambda_28 : decode c_P_makeLambda 28 = .ok (.aload_n 0, 1) := by decide +kernel
theorem d_P_makeLambda_29 : decode c_P_makeLambda 29 = .ok (.getfield 27, 3) := by decide +kernel
theorem d_P_makeLambda_32 : decode c_P_makeLambda 32 = .ok (.istore_n 3, 1) := by decide +kernel
theorem d_P_makeLambda_33 : decode c_P_makeLambda 33 = .ok (.aload_n 0, 1) := by decide +kernel
theorem d_P_makeLambda_34 : decode c_P_makeLambda 34 = .ok (.getfield 9, 3) := by decide +kernel
theorem d_P_makeLambda_37 : decode c_P_makeLambda 37 = .ok (.iload_n 3, 1) := by decide +kernel
theorem d_P_makeLambda_38 : decode c_P_makeLambda 38 = .ok (.iload_n 1, 1) := by decide +kernel
theorem d_P_makeLambda_39 : decode c_P_makeLambda 39 = .ok (.iastore, 1) := by decide +kernel
theorem d_P_makeLambda_40 : decode c_P_makeLambda 40 = .ok (.aload_n 0, 1) := by decide +kernel
theorem d_P_makeLambda_41 : decode c_P_makeLambda 41 = .ok (.getfield 15, 3) := by decide +kernel
theorem d_P_makeLambda_44 : decode c_P_makeLambda 44 = .ok (.iload_n 3, 1) := by decide +kernel
theorem d_P_makeLambda_45 : decode c_P_makeLambda 45 = .ok (.iload_n 2, 1) := by decide +kernel
theorem d_P_makeLambda_46 : decode c_P_makeLambda 46 = .ok (.iastore, 1) := by decide +kernel
theorem d_P_makeLambda_47 : decode c_P_makeLambda 47 = .ok (.aload_n 0, 1) := by decide +kernel
theorem d_P_makeLambda_48 : decode c_P_makeLambda 48 = .ok (.getfield 18, 3) := by decide +kernel
theorem d_P_makeLambda_51 : decode c_P_makeLambda 51 = .ok (.iload_n 3, 1) := by decide +kernel
theorem d_P_makeLambda_52 : decode c_P_makeLambda 52 = .ok (.aload_n 0, 1) := by decide +kernel
theorem d_P_makeLambda_53 : decode c_P_makeLambda 53 = .ok (.getfield 18, 3) := by decide +kernel
theorem d_P_makeLambda_56 : decode c_P_makeLambda 56 = .ok (.iload_n 1, 1) := by decide +kernel
theorem d_P_makeLambda_57 : decode c_P_makeLambda 57 = .ok (.iaload, 1) := by decide +kernel
theorem d_P_makeLambda_58 : decode c_P_makeLambda 58 = .ok (.iconst 1, 1) := by decide +kernel
theorem d_P_makeLambda_59 : decode c_P_makeLambda 59 = .ok (.iload_n 3, 1) := by decide +kernel
theorem d_P_makeLambda_60 : decode c_P_makeLambda 60 = .ok (.ishl, 1) := by decide +kernel
theorem d_P_makeLambda_61 : decode c_P_makeLambda 61 = .ok (.ior, 1) := by decide +kernel
theorem d_P_makeLambda_62 : decode c_P_makeLambda 62 = .ok (.iastore, 1) := by decide +kernel
theorem d_P_makeLambda_63 : decode c_P_makeLambda 63 = .ok (.aload_n 0, 1) := by decide +kernel
theorem d_P_makeLambda_64 : decode c_P_makeLambda 64 = .ok (.getfield 21, 3) := by decide +kernel
theorem d_P_makeLambda_67 : decode c_P_makeLambda 67 = .ok (.iload_n 3, 1) := by decide +kernel
theorem d_P_makeLambda_68 : decode c_P_makeLambda 68 = .ok (.iconst 0, 1) := by decide +kernel
theorem d_P_makeLambda_69 : decode c_P_makeLambda 69 = .ok (.iastore, 1) := by decide +kernel
theorem d_P_makeLambda_70 : decode c_P_makeLambda 70 = .ok (.aload_n 0, 1) := by decide +kernel
theorem d_P_makeLambda_71 : decode c_P_makeLambda 71 = .ok (.dup, 1) := by decide +kernel
theorem d_P_makeLambda_72 : decode c_P_makeLambda 72 = .ok (.getfield 27, 3) := by decide +kernel
theorem d_P_makeLambda_75 : decode c_P_makeLambda 75 = .ok (.iconst 1, 1) := by decide +kernel
theorem d_P_makeLambda_76 : decode c_P_makeLambda 76 = .ok (.iadd, 1) := by decide +kernel
theorem d_P_makeLambda_77 : decode c_P_makeLambda 77 = .ok (.putfield 27, 3) := by decide +kernel
theorem d_P_makeLambda_80 : decode c_P_makeLambda 80 = .ok (.iload_n 3, 1) := by decide +kernel
theorem d_P_makeLambda_81 : decode c_P_makeLambda 81 = .ok (.ireturn, 1) := by decide +kernel
theorem d_P_hasLambda_0 : decode c_P_hasLambda 0 = .ok (.iload_n 1, 1) := by decide +kernel
theorem d_P_hasLambda_1 : decode c_P_hasLambda 1 = .ok (.ifCond .lt 15, 3) := by decide +kernel
theorem d_P_hasLambda_4 : decode c_P_hasLambda 4 = .ok (.iload_n 1, 1) := by decide +kernel
theorem d_P_hasLambda_5 : decode c_P_hasLambda 5 = .ok (.aload_n 0, 1) := by decide +kernel
theorem d_P_hasLambda_6 : decode c_P_hasLambda 6 = .ok (.getfield 27, 3) := by decide +kernel
theorem d_P_hasLambda_9 : decode c_P_hasLambda 9 = .ok (.if_icmp .ge 7, 3) := by decide +kernel
theorem d_P_hasLambda_12 : decode c_P_hasLambda 12 = .ok (.iconst 1, 1) := by decide +kernel
theorem d_P_hasLambda_13 : decode c_P_hasLambda 13 = .ok (.goto 4, 3) := by decide +kernel
theorem d_P_hasLambda_16 : decode c_P_hasLambda 16 = .ok (.iconst 0, 1) := by decide +kernel
theorem d_P_hasLambda_17 : decode c_P_hasLambda 17 = .ok (.ireturn, 1) := by decide +kernel
theorem d_P_append_0 : decode c_P_append 0 = .ok (.aload_n 0, 1) := by decide +kernel
theorem d_P_append_1 : decode c_P_append 1 = .ok (.iload_n 1, 1) := by decide +kernel
theorem d_P_append_2 : decode c_P_append 2 = .ok (.invokevirtual 31, 3) := by decide +kernel
theorem d_P_append_5 : decode c_P_append 5 = .ok (.ifCond .eq 22, 3) := by decide +kernel
theorem d_P_append_8 : decode c_P_append 8 = .ok (.aload_n 0, 1) := by decide +kernel
theorem d_P_append_9 : decode c_P_append 9 = .ok (.getfield 21, 3) := by decide +kernel
theorem d_P_append_12 : decode c_P_append 12 = .ok (.iload_n 1, 1) := by decide +kernel
theorem d_P_append_13 : decode c_P_append 13 = .ok (.iaload, 1) := by decide +kernel
theorem d_P_append_14 : decode c_P_append 14 = .ok (.iconst 4, 1) := by decide +kernel
theorem d_P_append_15 : decode c_P_append 15 = .ok (.if_icmp .eq 12, 3) := by decide +kernel
theorem d_P_append_18 : decode c_P_append 18 = .ok (.aload_n 0, 1) := by decide +kernel
theorem d_P_append_19 : decode c_P_append 19 = .ok (.iload_n 1, 1) := by decide +kernel
theorem d_P_append_20 : decode c_P_append 20 = .ok (.iload_n 2, 1) := by decide +kernel
theorem d_P_append_21 : decode c_P_append 21 = .ok (.invokevirtual 35, 3) := by decide +kernel
theorem d_P_append_24 : decode c_P_append 24 = .ok (.ifCond .ne 5, 3) := by decide +kernel
theorem d_P_append_27 : decode c_P_append 27 = .ok (.iconst 0, 1) := by decide +kernel
theorem d_P_append_28 : decode c_P_append 28 = .ok (.ireturn, 1) := by decide +kernel
theorem d_P_append_29 : decode c_P_append 29 = .ok (.aload_n 0, 1) := by decide +kernel
theorem d_P_append_30 : decode c_P_append 30 = .ok (.getfield 24, 3) := by decide +kernel
theorem d_P_append_33 : decode c_P_append 33 = .ok (.iload_n 1, 1) := by decide +kernel
theorem d_P_append_34 : decode c_P_append 34 = .ok (.iconst 4, 1) := by decide +kernel
theorem d_P_append_35 : decode c_P_append 35 = .ok (.imul, 1) := by decide +kernel
theorem d_P_append_36 : decode c_P_append 36 = .ok (.aload_n 0, 1) := by decide +kernel
theorem d_P_append_37 : decode c_P_append 37 = .ok (.getfield 21, 3) := by decide +kernel
theorem d_P_append_40 : decode c_P_append 40 = .ok (.iload_n 1, 1) := by decide +kernel
theorem d_P_append_41 : decode c_P_append 41 = .ok (.iaload, 1) := by decide +kernel
theorem d_P_append_42 : decode c_P_append 42 = .ok (.iadd, 1) := by decide +kernel
theorem d_P_append_43 : decode c_P_append 43 = .ok (.iload_n 2, 1) := by decide +kernel
theorem d_P_append_44 : decode c_P_append 44 = .ok (.iastore, 1) := by decide +kernel
theorem d_P_append_45 : decode c_P_append 45 = .ok (.aload_n 0, 1) := by decide +kernel
theorem d_P_append_46 : decode c_P_append 46 = .ok (.getfield 21, 3) := by decide +kernel
theorem d_P_append_49 : decode c_P_append 49 = .ok (.iload_n 1, 1) := by decide +kernel
theorem d_P_append_50 : decode c_P_append 50 = .ok (.dup2, 1) := by decide +kernel
theorem d_P_append_51 : decode c_P_append 51 = .ok (.iaload, 1) := by decide +kernel
theorem d_P_append_52 : decode c_P_append 52 = .ok (.iconst 1, 1) := by decide +kernel
theorem d_P_append_53 : decode c_P_append 53 = .ok (.iadd, 1) := by decide +kernel
theorem d_P_append_54 : decode c_P_append 54 = .ok (.iastore, 1) := by decide +kernel
theorem d_P_append_55 : decode c_P_append 55 = .ok (.iconst 1, 1) := by decide +kernel
theorem d_P_append_56 : decode c_P_append 56 = .ok (.ireturn, 1) := by decide +kernel
theorem d_P_mayStand_0 : decode c_P_mayStand 0 = .ok (.iload_n 2, 1) := by decide +kernel
theorem d_P_mayStand_1 : decode c_P_mayStand 1 = .ok (.invokestatic 39, 3) := by decide +kernel
theorem d_P_mayStand_4 : decode c_P_mayStand 4 = .ok (.ifCond .eq 39, 3) := by decide +kernel
theorem d_P_mayStand_7 : decode c_P_mayStand 7 = .ok (.iload_n 2, 1) := by decide +kernel
theorem d_P_mayStand_8 : decode c_P_mayStand 8 = .ok (.invokestatic 42, 3) := by decide +kernel
theorem d_P_mayStand_11 : decode c_P_mayStand 11 = .ok (.istore_n 3, 1) := by decide +kernel
theorem d_P_mayStand_12 : decode c_P_mayStand 12 = .ok (.aload_n 0, 1) := by decide +kernel
theorem d_P_mayStand_13 : decode c_P_mayStand 13 = .ok (.iload_n 3, 1) := by decide +kernel
theorem d_P_mayStand_14 : decode c_P_mayStand 14 = .ok (.iload_n 2, 1) := by decide +kernel
theorem d_P_mayStand_15 : decode c_P_mayStand 15 = .ok (.invokestatic 46, 3) := by decide +kernel
theorem d_P_mayStand_18 : decode c_P_mayStand 18 = .ok (.invokevirtual 49, 3) := by decide +kernel
theorem d_P_mayStand_21 : decode c_P_mayStand 21 = .ok (.ifCond .eq 20, 3) := by decide +kernel
theorem d_P_mayStand_24 : decode c_P_mayStand 24 = .ok (.aload_n 0, 1) := by decide +kernel
theorem d_P_mayStand_25 : decode c_P_mayStand 25 = .ok (.getfield 18, 3) := by decide +kernel
theorem d_P_mayStand_28 : decode c_P_mayStand 28 = .ok (.iload_n 1, 1) := by decide +kernel
theorem d_P_mayStand_29 : decode c_P_mayStand 29 = .ok (.iaload, 1) := by decide +kernel
theorem d_P_mayStand_30 : decode c_P_mayStand 30 = .ok (.iload_n 3, 1) := by decide +kernel
theorem d_P_mayStand_31 : decode c_P_mayStand 31 = .ok (.invokestatic 52, 3) := by decide +kernel
theorem d_P_mayStand_34 : decode c_P_mayStand 34 = .ok (.ifCond .eq 7, 3) := by decide +kernel
theorem d_P_mayStand_37 : decode c_P_mayStand 37 = .ok (.iconst 1, 1) := by decide +kernel
theorem d_P_mayStand_38 : decode c_P_mayStand 38 = .ok (.goto 4, 3) := by decide +kernel
theorem d_P_mayStand_41 : decode c_P_mayStand 41 = .ok (.iconst 0, 1) := by decide +kernel
theorem d_P_mayStand_42 : decode c_P_mayStand 42 = .ok (.ireturn, 1) := by decide +kernel
theorem d_P_mayStand_43 : decode c_P_mayStand 43 = .ok (.iload_n 2, 1) := by decide +kernel
theorem d_P_mayStand_44 : decode c_P_mayStand 44 = .ok (.invokestatic 55, 3) := by decide +kernel
theorem d_P_mayStand_47 : decode c_P_mayStand 47 = .ok (.ifCond .eq 33, 3) := by decide +kernel
theorem d_P_mayStand_50 : decode c_P_mayStand 50 = .ok (.iload_n 2, 1) := by decide +kernel
theorem d_P_mayStand_51 : decode c_P_mayStand 51 = .ok (.sipush 200, 3) := by decide +kernel
theorem d_P_mayStand_54 : decode c_P_mayStand 54 = .ok (.isub, 1) := by decide +kernel
theorem d_P_mayStand_55 : decode c_P_mayStand 55 = .ok (.istore_n 3, 1) := by decide +kernel
theorem d_P_mayStand_56 : decode c_P_mayStand 56 = .ok (.aload_n 0, 1) := by decide +kernel
theorem d_P_mayStand_57 : decode c_P_mayStand 57 = .ok (.iload_n 3, 1) := by decide +kernel
theorem d_P_mayStand_58 : decode c_P_mayStand 58 = .ok (.invokevirtual 31, 3) := by decide +kernel
theorem d_P_mayStand_61 : decode c_P_mayStand 61 = .ok (.ifCond .eq 17, 3) := by decide +kernel
theorem d_P_mayStand_64 : decode c_P_mayStand 64 = .ok (.aload_n 0, 1) := by decide +kernel
theorem d_P_mayStand_65 : decode c_P_mayStand 65 = .ok (.getfield 9, 3) := by decide +kernel
theorem d_P_mayStand_68 : decode c_P_mayStand 68 = .ok (.iload_n 3, 1) := by decide +kernel
theorem d_P_mayStand_69 : decode c_P_mayStand 69 = .ok (.iaload, 1) := by decide +kernel
theorem d_P_mayStand_70 : decode c_P_mayStand 70 = .ok (.iload_n 1, 1) := by decide +kernel
theorem d_P_mayStand_71 : decode c_P_mayStand 71 = .ok (.if_icmp .ne 7, 3) := by decide +kernel
theorem d_P_mayStand_74 : decode c_P_mayStand 74 = .ok (.iconst 1, 1) := by decide +kernel
theorem d_P_mayStand_75 : decode c_P_mayStand 75 = .ok (.goto 4, 3) := by decide +kernel
theorem d_P_mayStand_78 : decode c_P_mayStand 78 = .ok (.iconst 0, 1) := by decide +kernel
theorem d_P_mayStand_79 : decode c_P_mayStand 79 = .ok (.ireturn, 1) := by decide +kernel
theorem d_P_mayStand_80 : decode c_P_mayStand 80 = .ok (.iload_n 2, 1) := by decide +kernel
theorem d_P_mayStand_81 : decode c_P_mayStand 81 = .ok (.invokestatic 58, 3) := by decide +kernel
theorem d_P_mayStand_84 : decode c_P_mayStand 84 = .ok (.ifCond .ne 10, 3) := by decide +kernel
theorem d_P_mayStand_87 : decode c_P_mayStand 87 = .ok (.iload_n 2, 1) := by decide +kernel
theorem d_P_mayStand_88 : decode c_P_mayStand 88 = .ok (.invokestatic 61, 3) := by decide +kernel
theorem d_P_mayStand_91 : decode c_P_mayStand 91 = .ok (.ifCond .eq 7, 3) := by decide +kernel
theorem d_P_mayStand_94 : decode c_P_mayStand 94 = .ok (.iconst 1, 1) := by decide +kernel
theorem d_P_mayStand_95 : decode c_P_mayStand 95 = .ok (.goto 4, 3) := by decide +kernel
theorem d_P_mayStand_98 : decode c_P_mayStand 98 = .ok (.iconst 0, 1) := by decide +kernel
theorem d_P_mayStand_99 : decode c_P_mayStand 99 = .ok (.ireturn, 1) := by decide +kernel
theorem d_P_hasParameter_0 : decode c_P_hasParameter 0 = .ok (.aload_n 0, 1) := by decide +kernel
theorem d_P_hasParameter_1 : decode c_P_hasParameter 1 = .ok (.iload_n 1, 1) := by decide +kernel
theorem d_P_hasParameter_2 : decode c_P_hasParameter 2 = .ok (.invokevirtual 31, 3) := by decide +kernel
theorem d_P_hasParameter_5 : decode c_P_hasParameter 5 = .ok (.ifCond .eq 21, 3) := by decide +kernel
theorem d_P_hasParameter_8 : decode c_P_hasParameter 8 = .ok (.iload_n 2, 1) := by decide +kernel
theorem d_P_hasParameter_9 : decode c_P_hasParameter 9 = .ok (.ifCond .lt 17, 3) := by decide +kernel
theorem d_P_hasParameter_12 : decode c_P_hasParameter 12 = .ok (.iload_n 2, 1) := by decide +kernel
theorem d_P_hasParameter_13 : decode c_P_hasParameter 13 = .ok (.aload_n 0, 1) := by decide +kernel
theorem d_P_hasParameter_14 : decode c_P_hasParameter 14 = .ok (.getfield 15, 3) := by decide +kernel
theorem d_P_hasParameter_17 : decode c_P_hasParameter 17 = .ok (.iload_n 1, 1) := by decide +kernel
theorem d_P_hasParameter_18 : decode c_P_hasParameter 18 = .ok (.iaload, 1) := by decide +kernel
theorem d_P_hasParameter_19 : decode c_P_hasParameter 19 = .ok (.if_icmp .ge 7, 3) := by decide +kernel
theorem d_P_hasParameter_22 : decode c_P_hasParameter 22 = .ok (.iconst 1, 1) := by decide +kernel
theorem d_P_hasParameter_23 : decode c_P_hasParameter 23 = .ok (.goto 4, 3) := by decide +kernel
theorem d_P_hasParameter_26 : decode c_P_hasParameter 26 = .ok (.iconst 0, 1) := by decide +kernel
theorem d_P_hasParameter_27 : decode c_P_hasParameter 27 = .ok (.ireturn, 1) := by decide +kernel
theorem d_P_empty_0 : decode c_P_empty 0 = .ok (.aload_n 0, 1) := by decide +kernel
theorem d_P_empty_1 : decode c_P_empty 1 = .ok (.getfield 21, 3) := by decide +kernel
theorem d_P_empty_4 : decode c_P_empty 4 = .ok (.iconst 0, 1) := by decide +kernel
theorem d_P_empty_5 : decode c_P_empty 5 = .ok (.iconst 0, 1) := by decide +kernel
theorem d_P_empty_6 : decode c_P_empty 6 = .ok (.iastore, 1) := by decide +kernel
theorem d_P_empty_7 : decode c_P_empty 7 = .ok (.aload_n 0, 1) := by decide +kernel
theorem d_P_empty_8 : decode c_P_empty 8 = .ok (.iconst 1, 1) := by decide +kernel
theorem d_P_empty_9 : decode c_P_empty 9 = .ok (.putfield 27, 3) := by decide +kernel
theorem d_P_empty_12 : decode c_P_empty 12 = .ok (.return_, 1) := by decide +kernel
theorem d_P_size_0 : decode c_P_size 0 = .ok (.aload_n 0, 1) := by decide +kernel
theorem d_P_size_1 : decode c_P_size 1 = .ok (.getfield 27, 3) := by decide +kernel
theorem d_P_size_4 : decode c_P_size 4 = .ok (.ireturn, 1) := by decide +kernel
theorem d_P_hasAtom_0 : decode c_P_hasAtom 0 = .ok (.aload_n 0, 1) := by decide +kernel
theorem d_P_hasAtom_1 : decode c_P_hasAtom 1 = .ok (.iload_n 1, 1) := by decide +kernel
theorem d_P_hasAtom_2 : decode c_P_hasAtom 2 = .ok (.invokevirtual 31, 3) := by decide +kernel
theorem d_P_hasAtom_5 : decode c_P_hasAtom 5 = .ok (.ifCond .eq 21, 3) := by decide +kernel
theorem d_P_hasAtom_8 : decode c_P_hasAtom 8 = .ok (.iload_n 2, 1) := by decide +kernel
theorem d_P_hasAtom_9 : decode c_P_hasAtom 9 = .ok (.ifCond .lt 17, 3) := by decide +kernel
theorem d_P_hasAtom_12 : decode c_P_hasAtom 12 = .ok (.iload_n 2, 1) := by decide +kernel
theorem d_P_hasAtom_13 : decode c_P_hasAtom 13 = .ok (.aload_n 0, 1) := by decide +kernel
theorem d_P_hasAtom_14 : decode c_P_hasAtom 14 = .ok (.getfield 21, 3) := by decide +kernel
theorem d_P_hasAtom_17 : decode c_P_hasAtom 17 = .ok (.iload_n 1, 1) := by decide +kernel
theorem d_P_hasAtom_18 : decode c_P_hasAtom 18 = .ok (.iaload, 1) := by decide +kernel
theorem d_P_hasAtom_19 : decode c_P_hasAtom 19 = .ok (.if_icmp .ge 7, 3) := by decide +kernel
theorem d_P_hasAtom_22 : decode c_P_hasAtom 22 = .ok (.iconst 1, 1) := by decide +kernel
theorem d_P_hasAtom_23 : decode c_P_hasAtom 23 = .ok (.goto 4, 3) := by decide +kernel
theorem d_P_hasAtom_26 : decode c_P_hasAtom 26 = .ok (.iconst 0, 1) := by decide +kernel
theorem d_P_hasAtom_27 : decode c_P_hasAtom 27 = .ok (.ireturn, 1) := by decide +kernel
theorem d_P_atomOf_0 : decode c_P_atomOf 0 = .ok (.aload_n 0, 1) := by decide +kernel
theorem d_P_atomOf_1 : decode c_P_atomOf 1 = .ok (.getfield 24, 3) := by decide +kernel
theorem d_P_atomOf_4 : decode c_P_atomOf 4 = .ok (.iload_n 1, 1) := by decide +kernel
theorem d_P_atomOf_5 : decode c_P_atomOf 5 = .ok (.iconst 4, 1) := by decide +kernel
theorem d_P_atomOf_6 : decode c_P_atomOf 6 = .ok (.imul, 1) := by decide +kernel
theorem d_P_atomOf_7 : decode c_P_atomOf 7 = .ok (.iload_n 2, 1) := by decide +kernel
theorem d_P_atomOf_8 : decode c_P_atomOf 8 = .ok (.iadd, 1) := by decide +kernel
theorem d_P_atomOf_9 : decode c_P_atomOf 9 = .ok (.iaload, 1) := by decide +kernel
theorem d_P_atomOf_10 : decode c_P_atomOf 10 = .ok (.ireturn, 1) := by decide +kernel
theorem d_P_callLength_0 : decode c_P_callLength 0 = .ok (.aload_n 0, 1) := by decide +kernel
theorem d_P_callLength_1 : decode c_P_callLength 1 = .ok (.getfield 21, 3) := by decide +kernel
theorem d_P_callLength_4 : decode c_P_callLength 4 = .ok (.iload_n 1, 1) := by decide +kernel
theorem d_P_callLength_5 : decode c_P_callLength 5 = .ok (.iaload, 1) := by decide +kernel
theorem d_P_callLength_6 : decode c_P_callLength 6 = .ok (.ireturn, 1) := by decide +kernel
theorem d_P_paramsOf_0 : decode c_P_paramsOf 0 = .ok (.aload_n 0, 1) := by decide +kernel
theorem d_P_paramsOf_1 : decode c_P_paramsOf 1 = .ok (.getfield 15, 3) := by decide +kernel
theorem d_P_paramsOf_4 : decode c_P_paramsOf 4 = .ok (.iload_n 1, 1) := by decide +kernel
theorem d_P_paramsOf_5 : decode c_P_paramsOf 5 = .ok (.iaload, 1) := by decide +kernel
theorem d_P_paramsOf_6 : decode c_P_paramsOf 6 = .ok (.ireturn, 1) := by decide +kernel
theorem d_P_lineageOf_0 : decode c_P_lineageOf 0 = .ok (.aload_n 0, 1) := by decide +kernel
theorem d_P_lineageOf_1 : decode c_P_lineageOf 1 = .ok (.getfield 18, 3) := by decide +kernel
theorem d_P_lineageOf_4 : decode c_P_lineageOf 4 = .ok (.iload_n 1, 1) := by decide +kernel
theorem d_P_lineageOf_5 : decode c_P_lineageOf 5 = .ok (.iaload, 1) := by decide +kernel
theorem d_P_lineageOf_6 : decode c_P_lineageOf 6 = .ok (.ireturn, 1) := by decide +kernel
end
section
theorem d_M_init_0 : decode c_M_init 0 = .ok (.aload_n 0, 1) := by decide +kernel
theorem d_M_init_1 : decode c_M_init 1 = .ok (.invokespecial 3, 3) := by decide +kernel
theorem d_M_init_4 : decode c_M_init 4 = .ok (.aload_n 0, 1) := by decide +kernel
theorem d_M_init_5 : decode c_M_init 5 = .ok (.bipush 65, 2) := by decide +kernel
theorem d_M_init_7 : decode c_M_init 7 = .ok (.newarray .int, 2) := by decide +kernel
theorem d_M_init_9 : decode c_M_init 9 = .ok (.putfield 11, 3) := by decide +kernel
theorem d_M_init_12 : decode c_M_init 12 = .ok (.aload_n 0, 1) := by decide +kernel
theorem d_M_init_13 : decode c_M_init 13 = .ok (.bipush 65, 2) := by decide +kernel
theorem d_M_init_15 : decode c_M_init 15 = .ok (.newarray .int, 2) := by decide +kernel
theorem d_M_init_17 : decode c_M_init 17 = .ok (.putfield 15, 3) := by decide +kernel
theorem d_M_init_20 : decode c_M_init 20 = .ok (.aload_n 0, 1) := by decide +kernel
theorem d_M_init_21 : decode c_M_init 21 = .ok (.sipush 195, 3) := by decide +kernel
theorem d_M_init_24 : decode c_M_init 24 = .ok (.newarray .int, 2) := by decide +kernel
theorem d_M_init_26 : decode c_M_init 26 = .ok (.putfield 18, 3) := by decide +kernel
theorem d_M_init_29 : decode c_M_init 29 = .ok (.aload_n 0, 1) := by decide +kernel
theorem d_M_init_30 : decode c_M_init 30 = .ok (.bipush 8, 2) := by decide +kernel
theorem d_M_init_32 : decode c_M_init 32 = .ok (.newarray .int, 2) := by decide +kernel
theorem d_M_init_34 : decode c_M_init 34 = .ok (.putfield 21, 3) := by decide +kernel
theorem d_M_init_37 : decode c_M_init 37 = .ok (.aload_n 0, 1) := by decide +kernel
theorem d_M_init_38 : decode c_M_init 38 = .ok (.iconst 4, 1) := by decide +kernel
theorem d_M_init_39 : decode c_M_init 39 = .ok (.newarray .int, 2) := by decide +kernel
theorem d_M_init_41 : decode c_M_init 41 = .ok (.putfield 24, 3) := by decide +kernel
theorem d_M_init_44 : decode c_M_init 44 = .ok (.aload_n 0, 1) := by decide +kernel
theorem d_M_init_45 : decode c_M_init 45 = .ok (.aload_n 1, 1) := by decide +kernel
theorem d_M_init_46 : decode c_M_init 46 = .ok (.putfield 27, 3) := by decide +kernel
theorem d_M_init_49 : decode c_M_init 49 = .ok (.return_, 1) := by decide +kernel
theorem d_M_forget_0 : decode c_M_forget 0 = .ok (.aload_n 0, 1) := by decide +kernel
theorem d_M_forget_1 : decode c_M_forget 1 = .ok (.iconst 0, 1) := by decide +kernel
theorem d_M_forget_2 : decode c_M_forget 2 = .ok (.putfield 31, 3) := by decide +kernel
theorem d_M_forget_5 : decode c_M_forget 5 = .ok (.return_, 1) := by decide +kernel
theorem d_M_begin_0 : decode c_M_begin 0 = .ok (.aload_n 0, 1) := by decide +kernel
theorem d_M_begin_1 : decode c_M_begin 1 = .ok (.iconst 1, 1) := by decide +kernel
theorem d_M_begin_2 : decode c_M_begin 2 = .ok (.putfield 31, 3) := by decide +kernel
theorem d_M_begin_5 : decode c_M_begin 5 = .ok (.aload_n 0, 1) := by decide +kernel
theorem d_M_begin_6 : decode c_M_begin 6 = .ok (.iconst 0, 1) := by decide +kernel
theorem d_M_begin_7 : decode c_M_begin 7 = .ok (.putfield 35, 3) := by decide +kernel
theorem d_M_begin_10 : decode c_M_begin 10 = .ok (.aload_n 0, 1) := by decide +kernel
theorem d_M_begin_11 : decode c_M_begin 11 = .ok (.getfield 21, 3) := by decide +kernel
theorem d_M_begin_14 : decode c_M_begin 14 = .ok (.iconst 0, 1) := by decide +kernel
theorem d_M_begin_15 : decode c_M_begin 15 = .ok (.invokestatic 38, 3) := by decide +kernel
theorem d_M_begin_18 : decode c_M_begin 18 = .ok (.return_, 1) := by decide +kernel
theorem d_M_isStarted_0 : decode c_M_isStarted 0 = .ok (.aload_n 0, 1) := by decide +kernel
theorem d_M_isStarted_1 : decode c_M_isStarted 1 = .ok (.getfield 31, 3) := by decide +kernel
theorem d_M_isStarted_4 : decode c_M_isStarted 4 = .ok (.ifCond .eq 7, 3) := by decide +kernel
theorem d_M_isStarted_7 : decode c_M_isStarted 7 = .ok (.iconst 1, 1) := by decide +kernel
theorem d_M_isStarted_8 : decode c_M_isStarted 8 = .ok (.goto 4, 3) := by decide +kernel
theorem d_M_isStarted_11 : decode c_M_isStarted 11 = .ok (.iconst 0, 1) := by decide +kernel
theorem d_M_isStarted_12 : decode c_M_isStarted 12 = .ok (.ireturn, 1) := by decide +kernel
theorem d_M_advance_0 : decode c_M_advance 0 = .ok (.iconst 0, 1) := by decide +kernel
theorem d_M_advance_1 : decode c_M_advance 1 = .ok (.istore_n 2, 1) := by decide +kernel
theorem d_M_advance_2 : decode c_M_advance 2 = .ok (.iload_n 2, 1) := by decide +kernel
theorem d_M_advance_3 : decode c_M_advance 3 = .ok (.iload_n 1, 1) := by decide +kernel
theorem d_M_advance_4 : decode c_M_advance 4 = .ok (.if_icmp .ge 33, 3) := by decide +kernel
theorem d_M_advance_7 : decode c_M_advance 7 = .ok (.aload_n 0, 1) := by decide +kernel
theorem d_M_advance_8 : decode c_M_advance 8 = .ok (.getfield 31, 3) := by decide +kernel
theorem d_M_advance_11 : decode c_M_advance 11 = .ok (.iconst 1, 1) := by decide +kernel
theorem d_M_advance_12 : decode c_M_advance 12 = .ok (.if_icmp .eq 5, 3) := by decide +kernel
theorem d_M_advance_15 : decode c_M_advance 15 = .ok (.iload_n 2, 1) := by decide +kernel
theorem d_M_advance_16 : decode c_M_advance 16 = .ok (.ireturn, 1) := by decide +kernel
theorem d_M_advance_17 : decode c_M_advance 17 = .ok (.aload_n 0, 1) := by decide +kernel
theorem d_M_advance_18 : decode c_M_advance 18 = .ok (.invokevirtual 53, 3) := by decide +kernel
theorem d_M_advance_21 : decode c_M_advance 21 = .ok (.aload_n 0, 1) := by decide +kernel
theorem d_M_advance_22 : decode c_M_advance 22 = .ok (.getfield 31, 3) := by decide +kernel
theorem d_M_advance_25 : decode c_M_advance 25 = .ok (.iconst 4, 1) := by decide +kernel
theorem d_M_advance_26 : decode c_M_advance 26 = .ok (.if_icmp .ne 5, 3) := by decide +kernel
theorem d_M_advance_29 : decode c_M_advance 29 = .ok (.iload_n 2, 1) := by decide +kernel
theorem d_M_advance_30 : decode c_M_advance 30 = .ok (.ireturn, 1) := by decide +kernel
theorem d_M_advance_31 : decode c_M_advance 31 = .ok (.iinc 2 1, 3) := by decide +kernel
theorem d_M_advance_34 : decode c_M_advance 34 = .ok (.goto (-32), 3) := by decide +kernel
theorem d_M_advance_37 : decode c_M_advance 37 = .ok (.iload_n 1, 1) := by decide +kernel
theorem d_M_advance_38 : decode c_M_advance 38 = .ok (.ireturn, 1) := by decide +kernel
theorem d_M_tryStep_0 : decode c_M_tryStep 0 = .ok (.aload_n 0, 1) := by decide +kernel
theorem d_M_tryStep_1 : decode c_M_tryStep 1 = .ok (.getfield 27, 3) := by decide +kernel
theorem d_M_tryStep_4 : decode c_M_tryStep 4 = .ok (.aload_n 0, 1) := by decide +kernel
theorem d_M_tryStep_5 : decode c_M_tryStep 5 = .ok (.invokevirtual 56, 3) := by decide +kernel
theorem d_M_tryStep_8 : decode c_M_tryStep 8 = .ok (.invokevirtual 60, 3) := by decide +kernel
theorem d_M_tryStep_11 : decode c_M_tryStep 11 = .ok (.istore_n 1, 1) := by decide +kernel
theorem d_M_tryStep_12 : decode c_M_tryStep 12 = .ok (.iload_n 1, 1) := by decide +kernel
theorem d_M_tryStep_13 : decode c_M_tryStep 13 = .ok (.ifCond .ne 9, 3) := by decide +kernel
theorem d_M_tryStep_16 : decode c_M_tryStep 16 = .ok (.aload_n 0, 1) := by decide +kernel
theorem d_M_tryStep_17 : decode c_M_tryStep 17 = .ok (.iconst 3, 1) := by decide +kernel
theorem d_M_tryStep_18 : decode c_M_tryStep 18 = .ok (.putfield 31, 3) := by decide +kernel
theorem d_M_tryStep_21 : decode c_M_tryStep 21 = .ok (.return_, 1) := by decide +kernel
theorem d_M_tryStep_22 : decode c_M_tryStep 22 = .ok (.iconst 0, 1) := by decide +kernel
theorem d_M_tryStep_23 : decode c_M_tryStep 23 = .ok (.istore_n 2, 1) := by decide +kernel
theorem d_M_tryStep_24 : decode c_M_tryStep 24 = .ok (.iload_n 2, 1) := by decide +kernel
theorem d_M_tryStep_25 : decode c_M_tryStep 25 = .ok (.iload_n 1, 1) := by decide +kernel
theorem d_M_tryStep_26 : decode c_M_tryStep 26 = .ok (.if_icmp .ge 31, 3) := by decide +kernel
theorem d_M_tryStep_29 : decode c_M_tryStep 29 = .ok (.aload_n 0, 1) := by decide +kernel
theorem d_M_tryStep_30 : decode c_M_tryStep 30 = .ok (.getfield 24, 3) := by decide +kernel
theorem d_M_tryStep_33 : decode c_M_tryStep 33 = .ok (.iload_n 2, 1) := by decide +kernel
theorem d_M_tryStep_34 : decode c_M_tryStep 34 = .ok (.aload_n 0, 1) := by decide +kernel
theorem d_M_tryStep_35 : decode c_M_tryStep 35 = .ok (.aload_n 0, 1) := by decide +kernel
theorem d_M_tryStep_36 : decode c_M_tryStep 36 = .ok (.getfield 27, 3) := by decide +kernel
theorem d_M_tryStep_39 : decode c_M_tryStep 39 = .ok (.aload_n 0, 1) := by decide +kernel
theorem d_M_tryStep_40 : decode c_M_tryStep 40 = .ok (.invokevirtual 56, 3) := by decide +kernel
theorem d_M_tryStep_43 : decode c_M_tryStep 43 = .ok (.iload_n 2, 1) := by decide +kernel
theorem d_M_tryStep_44 : decode c_M_tryStep 44 = .ok (.invokevirtual 64, 3) := by decide +kernel
theorem d_M_tryStep_47 : decode c_M_tryStep 47 = .ok (.invokevirtual 68, 3) := by decide +kernel
theorem d_M_tryStep_50 : decode c_M_tryStep 50 = .ok (.iastore, 1) := by decide +kernel
theorem d_M_tryStep_51 : decode c_M_tryStep 51 = .ok (.iinc 2 1, 3) := by decide +kernel
theorem d_M_tryStep_54 : decode c_M_tryStep 54 = .ok (.goto (-30), 3) := by decide +kernel
theorem d_M_tryStep_57 : decode c_M_tryStep 57 = .ok (.aload_n 0, 1) := by decide +kernel
theorem d_M_tryStep_58 : decode c_M_tryStep 58 = .ok (.iload_n 1, 1) := by decide +kernel
theorem d_M_tryStep_59 : decode c_M_tryStep 59 = .ok (.iconst 1, 1) := by decide +kernel
theorem d_M_tryStep_60 : decode c_M_tryStep 60 = .ok (.isub, 1) := by decide +kernel
theorem d_M_tryStep_61 : decode c_M_tryStep 61 = .ok (.invokevirtual 71, 3) := by decide +kernel
theorem d_M_tryStep_64 : decode c_M_tryStep 64 = .ok (.return_, 1) := by decide +kernel
theorem d_M_place_0 : decode c_M_place 0 = .ok (.aload_n 0, 1) := by decide +kernel
theorem d_M_place_1 : decode c_M_place 1 = .ok (.getfield 11, 3) := by decide +kernel
theorem d_M_place_4 : decode c_M_place 4 = .ok (.aload_n 0, 1) := by decide +kernel
theorem d_M_place_5 : decode c_M_place 5 = .ok (.getfield 35, 3) := by decide +kernel
theorem d_M_place_8 : decode c_M_place 8 = .ok (.iaload, 1) := by decide +kernel
theorem d_M_place_9 : decode c_M_place 9 = .ok (.ireturn, 1) := by decide +kernel
theorem d_M_meaning_0 : decode c_M_meaning 0 = .ok (.iload_n 1, 1) := by decide +kernel
theorem d_M_meaning_1 : decode c_M_meaning 1 = .ok (.invokestatic 75, 3) := by decide +kernel
theorem d_M_meaning_4 : decode c_M_meaning 4 = .ok (.ifCond .eq 16, 3) := by decide +kernel
theorem d_M_meaning_7 : decode c_M_meaning 7 = .ok (.aload_n 0, 1) := by decide +kernel
theorem d_M_meaning_8 : decode c_M_meaning 8 = .ok (.iload_n 1, 1) := by decide +kernel
theorem d_M_meaning_9 : decode c_M_meaning 9 = .ok (.invokestatic 79, 3) := by decide +kernel
theorem d_M_meaning_12 : decode c_M_meaning 12 = .ok (.iload_n 1, 1) := by decide +kernel
theorem d_M_meaning_13 : decode c_M_meaning 13 = .ok (.invokestatic 82, 3) := by decide +kernel
theorem d_M_meaning_16 : decode c_M_meaning 16 = .ok (.invokevirtual 85, 3) := by decide +kernel
theorem d_M_meaning_19 : decode c_M_meaning 19 = .ok (.ireturn, 1) := by decide +kernel
theorem d_M_meaning_20 : decode c_M_meaning 20 = .ok (.iload_n 1, 1) := by decide +kernel
theorem d_M_meaning_21 : decode c_M_meaning 21 = .ok (.invokestatic 88, 3) := by decide +kernel
theorem d_M_meaning_24 : decode c_M_meaning 24 = .ok (.ifCond .eq 16, 3) := by decide +kernel
theorem d_M_meaning_27 : decode c_M_meaning 27 = .ok (.aload_n 0, 1) := by decide +kernel
theorem d_M_meaning_28 : decode c_M_meaning 28 = .ok (.getfield 35, 3) := by decide +kernel
theorem d_M_meaning_31 : decode c_M_meaning 31 = .ok (.sipush 1000, 3) := by decide +kernel
theorem d_M_meaning_34 : decode c_M_meaning 34 = .ok (.imul, 1) := by decide +kernel
theorem d_M_meaning_35 : decode c_M_meaning 35 = .ok (.iload_n 1, 1) := by decide +kernel
theorem d_M_meaning_36 : decode c_M_meaning 36 = .ok (.iadd, 1) := by decide +kernel
theorem d_M_meaning_37 : decode c_M_meaning 37 = .ok (.goto 4, 3) := by decide +kernel
theorem d_M_meaning_40 : decode c_M_meaning 40 = .ok (.iload_n 1, 1) := by decide +kernel
theorem d_M_meaning_41 : decode c_M_meaning 41 = .ok (.ireturn, 1) := by decide +kernel
theorem d_M_bound_0 : decode c_M_bound 0 = .ok (.aload_n 0, 1) := by decide +kernel
theorem d_M_bound_1 : decode c_M_bound 1 = .ok (.getfield 27, 3) := by decide +kernel
theorem d_M_bound_4 : decode c_M_bound 4 = .ok (.iload_n 1, 1) := by decide +kernel
theorem d_M_bound_5 : decode c_M_bound 5 = .ok (.iload_n 2, 1) := by decide +kernel
theorem d_M_bound_6 : decode c_M_bound 6 = .ok (.invokevirtual 47, 3) := by decide +kernel
theorem d_M_bound_9 : decode c_M_bound 9 = .ok (.ifCond .ne 5, 3) := by decide +kernel
theorem d_M_bound_12 : decode c_M_bound 12 = .ok (.iconst (-1), 1) := by decide +kernel
theorem d_M_bound_13 : decode c_M_bound 13 = .ok (.ireturn, 1) := by decide +kernel
theorem d_M_bound_14 : decode c_M_bound 14 = .ok (.aload_n 0, 1) := by decide +kernel
theorem d_M_bound_15 : decode c_M_bound 15 = .ok (.getfield 35, 3) := by decide +kernel
theorem d_M_bound_18 : decode c_M_bound 18 = .ok (.istore_n 3, 1) := by decide +kernel
theorem d_M_bound_19 : decode c_M_bound 19 = .ok (.iconst 0, 1) := by decide +kernel
theorem d_M_bound_20 : decode c_M_bound 20 = .ok (.istore 4, 2) := by decide +kernel
theorem d_M_bound_22 : decode c_M_bound 22 = .ok (.iload 4, 2) := by decide +kernel
theorem d_M_bound_24 : decode c_M_bound 24 = .ok (.bipush 8, 2) := by decide +kernel
theorem d_M_bound_26 : decode c_M_bound 26 = .ok (.if_icmp .ge 37, 3) := by decide +kernel
theorem d_M_bound_29 : decode c_M_bound 29 = .ok (.aload_n 0, 1) := by decide +kernel
theorem d_M_bound_30 : decode c_M_bound 30 = .ok (.getfield 11, 3) := by decide +kernel
theorem d_M_bound_33 : decode c_M_bound 33 = .ok (.iload_n 3, 1) := by decide +kernel
theorem d_M_bound_34 : decode c_M_bound 34 = .ok (.iaload, 1) := by decide +kernel
theorem d_M_bound_35 : decode c_M_bound 35 = .ok (.iload_n 1, 1) := by decide +kernel
theorem d_M_bound_36 : decode c_M_bound 36 = .ok (.if_icmp .ne 14, 3) := by decide +kernel
theorem d_M_bound_39 : decode c_M_bound 39 = .ok (.aload_n 0, 1) := by decide +kernel
theorem d_M_bound_40 : decode c_M_bound 40 = .ok (.getfield 18, 3) := by decide +kernel
theorem d_M_bound_43 : decode c_M_bound 43 = .ok (.iload_n 3, 1) := by decide +kernel
theorem d_M_bound_44 : decode c_M_bound 44 = .ok (.iconst 3, 1) := by decide +kernel
theorem d_M_bound_45 : decode c_M_bound 45 = .ok (.imul, 1) := by decide +kernel
theorem d_M_bound_46 : decode c_M_bound 46 = .ok (.iload_n 2, 1) := by decide +kernel
theorem d_M_bound_47 : decode c_M_bound 47 = .ok (.iadd, 1) := by decide +kernel
theorem d_M_bound_48 : decode c_M_bound 48 = .ok (.iaload, 1) := by decide +kernel
theorem d_M_bound_49 : decode c_M_bound 49 = .ok (.ireturn, 1) := by decide +kernel
theorem d_M_bound_50 : decode c_M_bound 50 = .ok (.aload_n 0, 1) := by decide +kernel
theorem d_M_bound_51 : decode c_M_bound 51 = .ok (.getfield 15, 3) := by decide +kernel
theorem d_M_bound_54 : decode c_M_bound 54 = .ok (.iload_n 3, 1) := by decide +kernel
theorem d_M_bound_55 : decode c_M_bound 55 = .ok (.iaload, 1) := by decide +kernel
theorem d_M_bound_56 : decode c_M_bound 56 = .ok (.istore_n 3, 1) := by decide +kernel
theorem d_M_bound_57 : decode c_M_bound 57 = .ok (.iinc 4 1, 3) := by decide +kernel
theorem d_M_bound_60 : decode c_M_bound 60 = .ok (.goto (-38), 3) := by decide +kernel
theorem d_M_bound_63 : decode c_M_bound 63 = .ok (.iconst (-1), 1) := by decide +kernel
theorem d_M_bound_64 : decode c_M_bound 64 = .ok (.ireturn, 1) := by decide +kernel
theorem d_M_applyOperator_0 : decode c_M_applyOperator 0 = .ok (.iload_n 1, 1) := by decide +kernel
theorem d_M_applyOperator_1 : decode c_M_applyOperator 1 = .ok (.iconst 3, 1) := by decide +kernel
theorem d_M_applyOperator_2 : decode c_M_applyOperator 2 = .ok (.if_icmp .ne 19, 3) := by decide +kernel
theorem d_M_applyOperator_5 : decode c_M_applyOperator 5 = .ok (.aload_n 0, 1) := by decide +kernel
theorem d_M_applyOperator_6 : decode c_M_applyOperator 6 = .ok (.getfield 24, 3) := by decide +kernel
theorem d_M_applyOperator_9 : decode c_M_applyOperator 9 = .ok (.iconst 1, 1) := by decide +kernel
theorem d_M_applyOperator_10 : decode c_M_applyOperator 10 = .ok (.iaload, 1) := by decide +kernel
theorem d_M_applyOperator_11 : decode c_M_applyOperator 11 = .ok (.invokestatic 91, 3) := by decide +kernel
theorem d_M_applyOperator_14 : decode c_M_applyOperator 14 = .ok (.ifCond .eq 7, 3) := by decide +kernel
theorem d_M_applyOperator_17 : decode c_M_applyOperator 17 = .ok (.iconst 1, 1) := by decide +kernel
theorem d_M_applyOperator_18 : decode c_M_applyOperator 18 = .ok (.goto 4, 3) := by decide +kernel
theorem d_M_applyOperator_21 : decode c_M_applyOperator 21 = .ok (.iconst 0, 1) := by decide +kernel
theorem d_M_applyOperator_22 : decode c_M_applyOperator 22 = .ok (.istore_n 2, 1) := by decide +kernel
theorem d_M_applyOperator_23 : decode c_M_applyOperator 23 = .ok (.iload_n 2, 1) := by decide +kernel
theorem d_M_applyOperator_24 : decode c_M_applyOperator 24 = .ok (.ifCond .eq 47, 3) := by decide +kernel
theorem d_M_applyOperator_27 : decode c_M_applyOperator 27 = .ok (.aload_n 0, 1) := by decide +kernel
theorem d_M_applyOperator_28 : decode c_M_applyOperator 28 = .ok (.getfield 24, 3) := by decide +kernel
theorem d_M_applyOperator_31 : decode c_M_applyOperator 31 = .ok (.iconst 0, 1) := by decide +kernel
theorem d_M_applyOperator_32 : decode c_M_applyOperator 32 = .ok (.iaload, 1) := by decide +kernel
theorem d_M_applyOperator_33 : decode c_M_applyOperator 33 = .ok (.sipush 302, 3) := by decide +kernel
theorem d_M_applyOperator_36 : decode c_M_applyOperator 36 = .ok (.if_icmp .ne 35, 3) := by decide +kernel
theorem d_M_applyOperator_39 : decode c_M_applyOperator 39 = .ok (.aload_n 0, 1) := by decide +kernel
theorem d_M_applyOperator_40 : decode c_M_applyOperator 40 = .ok (.aload_n 0, 1) := by decide +kernel
theorem d_M_applyOperator_41 : decode c_M_applyOperator 41 = .ok (.getfield 24, 3) := by decide +kernel
theorem d_M_applyOperator_44 : decode c_M_applyOperator 44 = .ok (.iconst 1, 1) := by decide +kernel
theorem d_M_applyOperator_45 : decode c_M_applyOperator 45 = .ok (.iaload, 1) := by decide +kernel
theorem d_M_applyOperator_46 : decode c_M_applyOperator 46 = .ok (.ifCond .ne 12, 3) := by decide +kernel
theorem d_M_applyOperator_49 : decode c_M_applyOperator 49 = .ok (.aload_n 0, 1) := by decide +kernel
theorem d_M_applyOperator_50 : decode c_M_applyOperator 50 = .ok (.getfield 24, 3) := by decide +kernel
theorem d_M_applyOperator_53 : decode c_M_applyOperator 53 = .ok (.iconst 2, 1) := by decide +kernel
theorem d_M_applyOperator_54 : decode c_M_applyOperator 54 = .ok (.iaload, 1) := by decide +kernel
theorem d_M_applyOperator_55 : decode c_M_applyOperator 55 = .ok (.goto 9, 3) := by decide +kernel
theorem d_M_applyOperator_58 : decode c_M_applyOperator 58 = .ok (.aload_n 0, 1) := by decide +kernel
theorem d_M_applyOperator_59 : decode c_M_applyOperator 59 = .ok (.getfield 24, 3) := by decide +kernel
theorem d_M_applyOperator_62 : decode c_M_applyOperator 62 = .ok (.iconst 3, 1) := by decide +kernel
theorem d_M_applyOperator_63 : decode c_M_applyOperator 63 = .ok (.iaload, 1) := by decide +kernel
theorem d_M_applyOperator_64 : decode c_M_applyOperator 64 = .ok (.iconst 0, 1) := by decide +kernel
theorem d_M_applyOperator_65 : decode c_M_applyOperator 65 = .ok (.invokevirtual 94, 3) := by decide +kernel
theorem d_M_applyOperator_68 : decode c_M_applyOperator 68 = .ok (.goto 78, 3) := by decide +kernel
theorem d_M_applyOperator_71 : decode c_M_applyOperator 71 = .ok (.iload_n 2, 1) := by decide +kernel
theorem d_M_applyOperator_72 : decode c_M_applyOperator 72 = .ok (.ifCond .eq 63, 3) := by decide +kernel
theorem d_M_applyOperator_75 : decode c_M_applyOperator 75 = .ok (.aload_n 0, 1) := by decide +kernel
theorem d_M_applyOperator_76 : decode c_M_applyOperator 76 = .ok (.getfield 24, 3) := by decide +kernel
theorem d_M_applyOperator_79 : decode c_M_applyOperator 79 = .ok (.iconst 0, 1) := by decide +kernel
theorem d_M_applyOperator_80 : decode c_M_applyOperator 80 = .ok (.iaload, 1) := by decide +kernel
theorem d_M_applyOperator_81 : decode c_M_applyOperator 81 = .ok (.sipush 301, 3) := by decide +kernel
theorem d_M_applyOperator_84 : decode c_M_applyOperator 84 = .ok (.if_icmp .ne 51, 3) := by decide +kernel
theorem d_M_applyOperator_87 : decode c_M_applyOperator 87 = .ok (.aload_n 0, 1) := by decide +kernel
theorem d_M_applyOperator_88 : decode c_M_applyOperator 88 = .ok (.getfield 24, 3) := by decide +kernel
theorem d_M_applyOperator_91 : decode c_M_applyOperator 91 = .ok (.iconst 2, 1) := by decide +kernel
theorem d_M_applyOperator_92 : decode c_M_applyOperator 92 = .ok (.iaload, 1) := by decide +kernel
theorem d_M_applyOperator_93 : decode c_M_applyOperator 93 = .ok (.invokestatic 91, 3) := by decide +kernel
theorem d_M_applyOperator_96 : decode c_M_applyOperator 96 = .ok (.ifCond .eq 39, 3) := by decide +kernel
theorem d_M_applyOperator_99 : decode c_M_applyOperator 99 = .ok (.aload_n 0, 1) := by decide +kernel
theorem d_M_applyOperator_100 : decode c_M_applyOperator 100 = .ok (.getfield 24, 3) := by decide +kernel
theorem d_M_applyOperator_103 : decode c_M_applyOperator 103 = .ok (.iconst 1, 1) := by decide +kernel
theorem d_M_applyOperator_104 : decode c_M_applyOperator 104 = .ok (.aload_n 0, 1) := by decide +kernel
theorem d_M_applyOperator_105 : decode c_M_applyOperator 105 = .ok (.getfield 24, 3) := by decide +kernel
theorem d_M_applyOperator_108 : decode c_M_applyOperator 108 = .ok (.iconst 1, 1) := by decide +kernel
theorem d_M_applyOperator_109 : decode c_M_applyOperator 109 = .ok (.iaload, 1) := by decide +kernel
theorem d_M_applyOperator_110 : decode c_M_applyOperator 110 = .ok (.aload_n 0, 1) := by decide +kernel
theorem d_M_applyOperator_111 : decode c_M_applyOperator 111 = .ok (.getfield 24, 3) := by decide +kernel
theorem d_M_applyOperator_114 : decode c_M_applyOperator 114 = .ok (.iconst 2, 1) := by decide +kernel
theorem d_M_applyOperator_115 : decode c_M_applyOperator 115 = .ok (.iaload, 1) := by decide +kernel
theorem d_M_applyOperator_116 : decode c_M_applyOperator 116 = .ok (.iadd, 1) := by decide +kernel
theorem d_M_applyOperator_117 : decode c_M_applyOperator 117 = .ok (.bipush 10, 2) := by decide +kernel
theorem d_M_applyOperator_119 : decode c_M_applyOperator 119 = .ok (.irem, 1) := by decide +kernel
theorem d_M_applyOperator_120 : decode c_M_applyOperator 120 = .ok (.iastore, 1) := by decide +kernel
theorem d_M_applyOperator_121 : decode c_M_applyOperator 121 = .ok (.aload_n 0, 1) := by decide +kernel
theorem d_M_applyOperator_122 : decode c_M_applyOperator 122 = .ok (.aload_n 0, 1) := by decide +kernel
theorem d_M_applyOperator_123 : decode c_M_applyOperator 123 = .ok (.getfield 24, 3) := by decide +kernel
theorem d_M_applyOperator_126 : decode c_M_applyOperator 126 = .ok (.iconst 3, 1) := by decide +kernel
theorem d_M_applyOperator_127 : decode c_M_applyOperator 127 = .ok (.iaload, 1) := by decide +kernel
theorem d_M_applyOperator_128 : decode c_M_applyOperator 128 = .ok (.iconst 1, 1) := by decide +kernel
theorem d_M_applyOperator_129 : decode c_M_applyOperator 129 = .ok (.invokevirtual 94, 3) := by decide +kernel
theorem d_M_applyOperator_132 : decode c_M_applyOperator 132 = .ok (.goto 14, 3) := by decide +kernel
theorem d_M_applyOperator_135 : decode c_M_applyOperator 135 = .ok (.aload_n 0, 1) := by decide +kernel
theorem d_M_applyOperator_136 : decode c_M_applyOperator 136 = .ok (.aload_n 0, 1) := by decide +kernel
theorem d_M_applyOperator_137 : decode c_M_applyOperator 137 = .ok (.getfield 24, 3) := by decide +kernel
theorem d_M_applyOperator_140 : decode c_M_applyOperator 140 = .ok (.iconst 0, 1) := by decide +kernel
theorem d_M_applyOperator_141 : decode c_M_applyOperator 141 = .ok (.iaload, 1) := by decide +kernel
theorem d_M_applyOperator_142 : decode c_M_applyOperator 142 = .ok (.iload_n 1, 1) := by decide +kernel
theorem d_M_applyOperator_143 : decode c_M_applyOperator 143 = .ok (.invokevirtual 94, 3) := by decide +kernel
theorem d_M_applyOperator_146 : decode c_M_applyOperator 146 = .ok (.return_, 1) := by decide +kernel
theorem d_M_applyDirectly_0 : decode c_M_applyDirectly 0 = .ok (.iload_n 1, 1) := by decide +kernel
theorem d_M_applyDirectly_1 : decode c_M_applyDirectly 1 = .ok (.invokestatic 98, 3) := by decide +kernel
theorem d_M_applyDirectly_4 : decode c_M_applyDirectly 4 = .ok (.istore_n 3, 1) := by decide +kernel
theorem d_M_applyDirectly_5 : decode c_M_applyDirectly 5 = .ok (.iload_n 3, 1) := by decide +kernel
theorem d_M_applyDirectly_6 : decode c_M_applyDirectly 6 = .ok (.invokestatic 88, 3) := by decide +kernel
theorem d_M_applyDirectly_9 : decode c_M_applyDirectly 9 = .ok (.ifCond .eq 37, 3) := by decide +kernel
theorem d_M_applyDirectly_12 : decode c_M_applyDirectly 12 = .ok (.aload_n 0, 1) := by decide +kernel
theorem d_M_applyDirectly_13 : decode c_M_applyDirectly 13 = .ok (.getfield 27, 3) := by decide +kernel
theorem d_M_applyDirectly_16 : decode c_M_applyDirectly 16 = .ok (.iload_n 3, 1) := by decide +kernel
theorem d_M_applyDirectly_17 : decode c_M_applyDirectly 17 = .ok (.sipush 200, 3) := by decide +kernel
theorem d_M_applyDirectly_20 : decode c_M_applyDirectly 20 = .ok (.isub, 1) := by decide +kernel
theorem d_M_applyDirectly_21 : decode c_M_applyDirectly 21 = .ok (.invokevirtual 101, 3) := by decide +kernel
theorem d_M_applyDirectly_24 : decode c_M_applyDirectly 24 = .ok (.iload_n 2, 1) := by decide +kernel
theorem d_M_applyDirectly_25 : decode c_M_applyDirectly 25 = .ok (.if_icmp .ne 21, 3) := by decide +kernel
theorem d_M_applyDirectly_28 : decode c_M_applyDirectly 28 = .ok (.aload_n 0, 1) := by decide +kernel
theorem d_M_applyDirectly_29 : decode c_M_applyDirectly 29 = .ok (.iload_n 3, 1) := by decide +kernel
theorem d_M_applyDirectly_30 : decode c_M_applyDirectly 30 = .ok (.sipush 200, 3) := by decide +kernel
theorem d_M_applyDirectly_33 : decode c_M_applyDirectly 33 = .ok (.isub, 1) := by decide +kernel
theorem d_M_applyDirectly_34 : decode c_M_applyDirectly 34 = .ok (.iload_n 1, 1) := by decide +kernel
theorem d_M_applyDirectly_35 : decode c_M_applyDirectly 35 = .ok (.sipush 1000, 3) := by decide +kernel
theorem d_M_applyDirectly_38 : decode c_M_applyDirectly 38 = .ok (.idiv, 1) := by decide +kernel
theorem d_M_applyDirectly_39 : decode c_M_applyDirectly 39 = .ok (.iload_n 2, 1) := by decide +kernel
theorem d_M_applyDirectly_40 : decode c_M_applyDirectly 40 = .ok (.invokevirtual 104, 3) := by decide +kernel
theorem d_M_applyDirectly_43 : decode c_M_applyDirectly 43 = .ok (.goto 38, 3) := by decide +kernel
theorem d_M_applyDirectly_46 : decode c_M_applyDirectly 46 = .ok (.iload_n 1, 1) := by decide +kernel
theorem d_M_applyDirectly_47 : decode c_M_applyDirectly 47 = .ok (.sipush 300, 3) := by decide +kernel
theorem d_M_applyDirectly_50 : decode c_M_applyDirectly 50 = .ok (.if_icmp .ne 26, 3) := by decide +kernel
theorem d_M_applyDirectly_53 : decode c_M_applyDirectly 53 = .ok (.iload_n 2, 1) := by decide +kernel
theorem d_M_applyDirectly_54 : decode c_M_applyDirectly 54 = .ok (.iconst 1, 1) := by decide +kernel
theorem d_M_applyDirectly_55 : decode c_M_applyDirectly 55 = .ok (.if_icmp .ne 21, 3) := by decide +kernel
theorem d_M_applyDirectly_58 : decode c_M_applyDirectly 58 = .ok (.aload_n 0, 1) := by decide +kernel
theorem d_M_applyDirectly_59 : decode c_M_applyDirectly 59 = .ok (.aload_n 0, 1) := by decide +kernel
theorem d_M_applyDirectly_60 : decode c_M_applyDirectly 60 = .ok (.getfield 24, 3) := by decide +kernel
theorem d_M_applyDirectly_63 : decode c_M_applyDirectly 63 = .ok (.iconst 1, 1) := by decide +kernel
theorem d_M_applyDirectly_64 : decode c_M_applyDirectly 64 = .ok (.iaload, 1) := by decide +kernel
theorem d_M_applyDirectly_65 : decode c_M_applyDirectly 65 = .ok (.putfield 44, 3) := by decide +kernel
theorem d_M_applyDirectly_68 : decode c_M_applyDirectly 68 = .ok (.aload_n 0, 1) := by decide +kernel
theorem d_M_applyDirectly_69 : decode c_M_applyDirectly 69 = .ok (.iconst 2, 1) := by decide +kernel
theorem d_M_applyDirectly_70 : decode c_M_applyDirectly 70 = .ok (.putfield 31, 3) := by decide +kernel
theorem d_M_applyDirectly_73 : decode c_M_applyDirectly 73 = .ok (.goto 8, 3) := by decide +kernel
theorem d_M_applyDirectly_76 : decode c_M_applyDirectly 76 = .ok (.aload_n 0, 1) := by decide +kernel
theorem d_M_applyDirectly_77 : decode c_M_applyDirectly 77 = .ok (.iconst 3, 1) := by decide +kernel
theorem d_M_applyDirectly_78 : decode c_M_applyDirectly 78 = .ok (.putfield 31, 3) := by decide +kernel
theorem d_M_applyDirectly_81 : decode c_M_applyDirectly 81 = .ok (.return_, 1) := by decide +kernel
theorem d_M_enter_0 : decode c_M_enter 0 = .ok (.aload_n 0, 1) := by decide +kernel
theorem d_M_enter_1 : decode c_M_enter 1 = .ok (.getfield 35, 3) := by decide +kernel
theorem d_M_enter_4 : decode c_M_enter 4 = .ok (.bipush 64, 2) := by decide +kernel
theorem d_M_enter_6 : decode c_M_enter 6 = .ok (.if_icmp .ne 9, 3) := by decide +kernel
theorem d_M_enter_9 : decode c_M_enter 9 = .ok (.aload_n 0, 1) := by decide +kernel
theorem d_M_enter_10 : decode c_M_enter 10 = .ok (.iconst 4, 1) := by decide +kernel
theorem d_M_enter_11 : decode c_M_enter 11 = .ok (.putfield 31, 3) := by decide +kernel
theorem d_M_enter_14 : decode c_M_enter 14 = .ok (.return_, 1) := by decide +kernel
theorem d_M_enter_15 : decode c_M_enter 15 = .ok (.aload_n 0, 1) := by decide +kernel
theorem d_M_enter_16 : decode c_M_enter 16 = .ok (.getfield 21, 3) := by decide +kernel
theorem d_M_enter_19 : decode c_M_enter 19 = .ok (.aload_n 0, 1) := by decide +kernel
theorem d_M_enter_20 : decode c_M_enter 20 = .ok (.invokevirtual 56, 3) := by decide +kernel
theorem d_M_enter_23 : decode c_M_enter 23 = .ok (.dup2, 1) := by decide +kernel
theorem d_M_enter_24 : decode c_M_enter 24 = .ok (.iaload, 1) := by decide +kernel
theorem d_M_enter_25 : decode c_M_enter 25 = .ok (.iconst 1, 1) := by decide +kernel
theorem d_M_enter_26 : decode c_M_enter 26 = .ok (.iload_n 1, 1) := by decide +kernel
theorem d_M_enter_27 : decode c_M_enter 27 = .ok (.ishl, 1) := by decide +kernel
theorem d_M_enter_28 : decode c_M_enter 28 = .ok (.ior, 1) := by decide +kernel
theorem d_M_enter_29 : decode c_M_enter 29 = .ok (.iastore, 1) := by decide +kernel
theorem d_M_enter_30 : decode c_M_enter 30 = .ok (.aload_n 0, 1) := by decide +kernel
theorem d_M_enter_31 : decode c_M_enter 31 = .ok (.dup, 1) := by decide +kernel
theorem d_M_enter_32 : decode c_M_enter 32 = .ok (.getfield 35, 3) := by decide +kernel
theorem d_M_enter_35 : decode c_M_enter 35 = .ok (.iconst 1, 1) := by decide +kernel
theorem d_M_enter_36 : decode c_M_enter 36 = .ok (.iadd, 1) := by decide +kernel
theorem d_M_enter_37 : decode c_M_enter 37 = .ok (.putfield 35, 3) := by decide +kernel
theorem d_M_enter_40 : decode c_M_enter 40 = .ok (.aload_n 0, 1) := by decide +kernel
theorem d_M_enter_41 : decode c_M_enter 41 = .ok (.getfield 11, 3) := by decide +kernel
theorem d_M_enter_44 : decode c_M_enter 44 = .ok (.aload_n 0, 1) := by decide +kernel
theorem d_M_enter_45 : decode c_M_enter 45 = .ok (.getfield 35, 3) := by decide +kernel
theorem d_M_enter_48 : decode c_M_enter 48 = .ok (.iload_n 1, 1) := by decide +kernel
theorem d_M_enter_49 : decode c_M_enter 49 = .ok (.iastore, 1) := by decide +kernel
theorem d_M_enter_50 : decode c_M_enter 50 = .ok (.aload_n 0, 1) := by decide +kernel
theorem d_M_enter_51 : decode c_M_enter 51 = .ok (.getfield 15, 3) := by decide +kernel
theorem d_M_enter_54 : decode c_M_enter 54 = .ok (.aload_n 0, 1) := by decide +kernel
theorem d_M_enter_55 : decode c_M_enter 55 = .ok (.getfield 35, 3) := by decide +kernel
theorem d_M_enter_58 : decode c_M_enter 58 = .ok (.iload_n 2, 1) := by decide +kernel
theorem d_M_enter_59 : decode c_M_enter 59 = .ok (.iastore, 1) := by decide +kernel
theorem d_M_enter_60 : decode c_M_enter 60 = .ok (.iconst 0, 1) := by decide +kernel
theorem d_M_enter_61 : decode c_M_enter 61 = .ok (.istore 4, 2) := by decide +kernel
theorem d_M_enter_63 : decode c_M_enter 63 = .ok (.iload 4, 2) := by decide +kernel
theorem d_M_enter_65 : decode c_M_enter 65 = .ok (.iload_n 3, 1) := by decide +kernel
theorem d_M_enter_66 : decode c_M_enter 66 = .ok (.if_icmp .ge 32, 3) := by decide +kernel
theorem d_M_enter_69 : decode c_M_enter 69 = .ok (.aload_n 0, 1) := by decide +kernel
theorem d_M_enter_70 : decode c_M_enter 70 = .ok (.getfield 18, 3) := by decide +kernel
theorem d_M_enter_73 : decode c_M_enter 73 = .ok (.aload_n 0, 1) := by decide +kernel
theorem d_M_enter_74 : decode c_M_enter 74 = .ok (.getfield 35, 3) := by decide +kernel
theorem d_M_enter_77 : decode c_M_enter 77 = .ok (.iconst 3, 1) := by decide +kernel
theorem d_M_enter_78 : decode c_M_enter 78 = .ok (.imul, 1) := by decide +kernel
theorem d_M_enter_79 : decode c_M_enter 79 = .ok (.iload 4, 2) := by decide +kernel
theorem d_M_enter_81 : decode c_M_enter 81 = .ok (.iadd, 1) := by decide +kernel
theorem d_M_enter_82 : decode c_M_enter 82 = .ok (.aload_n 0, 1) := by decide +kernel
theorem d_M_enter_83 : decode c_M_enter 83 = .ok (.getfield 24, 3) := by decide +kernel
theorem d_M_enter_86 : decode c_M_enter 86 = .ok (.iconst 1, 1) := by decide +kernel
theorem d_M_enter_87 : decode c_M_enter 87 = .ok (.iload 4, 2) := by decide +kernel
theorem d_M_enter_89 : decode c_M_enter 89 = .ok (.iadd, 1) := by decide +kernel
theorem d_M_enter_90 : decode c_M_enter 90 = .ok (.iaload, 1) := by decide +kernel
theorem d_M_enter_91 : decode c_M_enter 91 = .ok (.iastore, 1) := by decide +kernel
theorem d_M_enter_92 : decode c_M_enter 92 = .ok (.iinc 4 1, 3) := by decide +kernel
theorem d_M_enter_95 : decode c_M_enter 95 = .ok (.goto (-32), 3) := by decide +kernel
theorem d_M_enter_98 : decode c_M_enter 98 = .ok (.return_, 1) := by decide +kernel
theorem d_M_phase_0 : decode c_M_phase 0 = .ok (.aload_n 0, 1) := by decide +kernel
theorem d_M_phase_1 : decode c_M_phase 1 = .ok (.getfield 31, 3) := by decide +kernel
theorem d_M_phase_4 : decode c_M_phase 4 = .ok (.ireturn, 1) := by decide +kernel
theorem d_M_outcome_0 : decode c_M_outcome 0 = .ok (.aload_n 0, 1) := by decide +kernel
theorem d_M_outcome_1 : decode c_M_outcome 1 = .ok (.getfield 44, 3) := by decide +kernel
theorem d_M_outcome_4 : decode c_M_outcome 4 = .ok (.ireturn, 1) := by decide +kernel
theorem d_M_calledFrom_0 : decode c_M_calledFrom 0 = .ok (.aload_n 0, 1) := by decide +kernel
theorem d_M_calledFrom_1 : decode c_M_calledFrom 1 = .ok (.getfield 21, 3) := by decide +kernel
theorem d_M_calledFrom_4 : decode c_M_calledFrom 4 = .ok (.iload_n 1, 1) := by decide +kernel
theorem d_M_calledFrom_5 : decode c_M_calledFrom 5 = .ok (.iaload, 1) := by decide +kernel
theorem d_M_calledFrom_6 : decode c_M_calledFrom 6 = .ok (.ireturn, 1) := by decide +kernel
end
section
theorem d_A_init_0 : decode c_A_init 0 = .ok (.aload_n 0, 1) := by decide +kernel
theorem d_A_init_1 : decode c_A_init 1 = .ok (.invokespecial 3, 3) := by decide +kernel
theorem d_A_init_4 : decode c_A_init 4 = .ok (.aload_n 0, 1) := by decide +kernel
theorem d_A_init_5 : decode c_A_init 5 = .ok (.sipush 192, 3) := by decide +kernel
theorem d_A_init_8 : decode c_A_init 8 = .ok (.newarray .int, 2) := by decide +kernel
theorem d_A_init_10 : decode c_A_init 10 = .ok (.putfield 11, 3) := by decide +kernel
theorem d_A_init_13 : decode c_A_init 13 = .ok (.aload_n 0, 1) := by decide +kernel
theorem d_A_init_14 : decode c_A_init 14 = .ok (.sipush 192, 3) := by decide +kernel
theorem d_A_init_17 : decode c_A_init 17 = .ok (.newarray .long, 2) := by decide +kernel
theorem d_A_init_19 : decode c_A_init 19 = .ok (.putfield 15, 3) := by decide +kernel
theorem d_A_init_22 : decode c_A_init 22 = .ok (.aload_n 0, 1) := by decide +kernel
theorem d_A_init_23 : decode c_A_init 23 = .ok (.iconst 5, 1) := by decide +kernel
theorem d_A_init_24 : decode c_A_init 24 = .ok (.newarray .int, 2) := by decide +kernel
theorem d_A_init_26 : decode c_A_init 26 = .ok (.putfield 19, 3) := by decide +kernel
theorem d_A_init_29 : decode c_A_init 29 = .ok (.aload_n 0, 1) := by decide +kernel
theorem d_A_init_30 : decode c_A_init 30 = .ok (.iconst 5, 1) := by decide +kernel
theorem d_A_init_31 : decode c_A_init 31 = .ok (.newarray .long, 2) := by decide +kernel
theorem d_A_init_33 : decode c_A_init 33 = .ok (.putfield 22, 3) := by decide +kernel
theorem d_A_init_36 : decode c_A_init 36 = .ok (.aload_n 0, 1) := by decide +kernel
theorem d_A_init_37 : decode c_A_init 37 = .ok (.bipush 8, 2) := by decide +kernel
theorem d_A_init_39 : decode c_A_init 39 = .ok (.newarray .int, 2) := by decide +kernel
theorem d_A_init_41 : decode c_A_init 41 = .ok (.putfield 25, 3) := by decide +kernel
theorem d_A_init_44 : decode c_A_init 44 = .ok (.aload_n 0, 1) := by decide +kernel
theorem d_A_init_45 : decode c_A_init 45 = .ok (.aload_n 1, 1) := by decide +kernel
theorem d_A_init_46 : decode c_A_init 46 = .ok (.putfield 28, 3) := by decide +kernel
theorem d_A_init_49 : decode c_A_init 49 = .ok (.return_, 1) := by decide +kernel
theorem d_A_forget_0 : decode c_A_forget 0 = .ok (.aload_n 0, 1) := by decide +kernel
theorem d_A_forget_1 : decode c_A_forget 1 = .ok (.iconst 0, 1) := by decide +kernel
theorem d_A_forget_2 : decode c_A_forget 2 = .ok (.putfield 32, 3) := by decide +kernel
theorem d_A_forget_5 : decode c_A_forget 5 = .ok (.return_, 1) := by decide +kernel
theorem d_A_make_0 : decode c_A_make 0 = .ok (.aload_n 0, 1) := by decide +kernel
theorem d_A_make_1 : decode c_A_make 1 = .ok (.invokevirtual 52, 3) := by decide +kernel
theorem d_A_make_4 : decode c_A_make 4 = .ok (.aload_n 0, 1) := by decide +kernel
theorem d_A_make_5 : decode c_A_make 5 = .ok (.iconst 0, 1) := by decide +kernel
theorem d_A_make_6 : decode c_A_make 6 = .ok (.iconst 0, 1) := by decide +kernel
theorem d_A_make_7 : decode c_A_make 7 = .ok (.invokestatic 55, 3) := by decide +kernel
theorem d_A_make_10 : decode c_A_make 10 = .ok (.putfield 36, 3) := by decide +kernel
theorem d_A_make_13 : decode c_A_make 13 = .ok (.aload_n 0, 1) := by decide +kernel
theorem d_A_make_14 : decode c_A_make 14 = .ok (.iconst 1, 1) := by decide +kernel
theorem d_A_make_15 : decode c_A_make 15 = .ok (.putfield 59, 3) := by decide +kernel
theorem d_A_make_18 : decode c_A_make 18 = .ok (.iconst 0, 1) := by decide +kernel
theorem d_A_make_19 : decode c_A_make 19 = .ok (.istore_n 2, 1) := by decide +kernel
theorem d_A_make_20 : decode c_A_make 20 = .ok (.aload_n 0, 1) := by decide +kernel
theorem d_A_make_21 : decode c_A_make 21 = .ok (.getfield 59, 3) := by decide +kernel
theorem d_A_make_24 : decode c_A_make 24 = .ok (.ifCond .eq 59, 3) := by decide +kernel
theorem d_A_make_27 : decode c_A_make 27 = .ok (.iload_n 2, 1) := by decide +kernel
theorem d_A_make_28 : decode c_A_make 28 = .ok (.sipush 20000, 3) := by decide +kernel
theorem d_A_make_31 : decode c_A_make 31 = .ok (.if_icmp .ge 52, 3) := by decide +kernel
theorem d_A_make_34 : decode c_A_make 34 = .ok (.aload_n 0, 1) := by decide +kernel
theorem d_A_make_35 : decode c_A_make 35 = .ok (.iconst 0, 1) := by decide +kernel
theorem d_A_make_36 : decode c_A_make 36 = .ok (.putfield 59, 3) := by decide +kernel
theorem d_A_make_39 : decode c_A_make 39 = .ok (.iconst 0, 1) := by decide +kernel
theorem d_A_make_40 : decode c_A_make 40 = .ok (.istore_n 3, 1) := by decide +kernel
theorem d_A_make_41 : decode c_A_make 41 = .ok (.iload_n 3, 1) := by decide +kernel
theorem d_A_make_42 : decode c_A_make 42 = .ok (.bipush 64, 2) := by decide +kernel
theorem d_A_make_44 : decode c_A_make 44 = .ok (.if_icmp .ge 33, 3) := by decide +kernel
theorem d_A_make_47 : decode c_A_make 47 = .ok (.aload_n 0, 1) := by decide +kernel
theorem d_A_make_48 : decode c_A_make 48 = .ok (.getfield 36, 3) := by decide +kernel
theorem d_A_make_51 : decode c_A_make 51 = .ok (.iload_n 3, 1) := by decide +kernel
theorem d_A_make_52 : decode c_A_make 52 = .ok (.invokestatic 62, 3) := by decide +kernel
theorem d_A_make_55 : decode c_A_make 55 = .ok (.ifCond .eq 16, 3) := by decide +kernel
theorem d_A_make_58 : decode c_A_make 58 = .ok (.aload_n 0, 1) := by decide +kernel
theorem d_A_make_59 : decode c_A_make 59 = .ok (.iload_n 3, 1) := by decide +kernel
theorem d_A_make_60 : decode c_A_make 60 = .ok (.bipush 8, 2) := by decide +kernel
theorem d_A_make_62 : decode c_A_make 62 = .ok (.idiv, 1) := by decide +kernel
theorem d_A_make_63 : decode c_A_make 63 = .ok (.iload_n 3, 1) := by decide +kernel
theorem d_A_make_64 : decode c_A_make 64 = .ok (.bipush 8, 2) := by decide +kernel
theorem d_A_make_66 : decode c_A_make 66 = .ok (.irem, 1) := by decide +kernel
theorem d_A_make_67 : decode c_A_make 67 = .ok (.iload_n 1, 1) := by decide +kernel
theorem d_A_make_68 : decode c_A_make 68 = .ok (.invokevirtual 66, 3) := by decide +kernel
theorem d_A_make_71 : decode c_A_make 71 = .ok (.iinc 3 1, 3) := by decide +kernel
theorem d_A_make_74 : decode c_A_make 74 = .ok (.goto (-33), 3) := by decide +kernel
theorem d_A_make_77 : decode c_A_make 77 = .ok (.iinc 2 1, 3) := by decide +kernel
theorem d_A_make_80 : decode c_A_make 80 = .ok (.goto (-60), 3) := by decide +kernel
theorem d_A_make_83 : decode c_A_make 83 = .ok (.aload_n 0, 1) := by decide +kernel
theorem d_A_make_84 : decode c_A_make 84 = .ok (.iconst 1, 1) := by decide +kernel
theorem d_A_make_85 : decode c_A_make 85 = .ok (.putfield 32, 3) := by decide +kernel
theorem d_A_make_88 : decode c_A_make 88 = .ok (.aload_n 0, 1) := by decide +kernel
theorem d_A_make_89 : decode c_A_make 89 = .ok (.getfield 36, 3) := by decide +kernel
theorem d_A_make_92 : decode c_A_make 92 = .ok (.invokestatic 70, 3) := by decide +kernel
theorem d_A_make_95 : decode c_A_make 95 = .ok (.ireturn, 1) := by decide +kernel
theorem d_A_emptySets_0 : decode c_A_emptySets 0 = .ok (.aload_n 0, 1) := by decide +kernel
theorem d_A_emptySets_1 : decode c_A_emptySets 1 = .ok (.getfield 11, 3) := by decide +kernel
theorem d_A_emptySets_4 : decode c_A_emptySets 4 = .ok (.iconst 0, 1) := by decide +kernel
theorem d_A_emptySets_5 : decode c_A_emptySets 5 = .ok (.invokestatic 76, 3) := by decide +kernel
theorem d_A_emptySets_8 : decode c_A_emptySets 8 = .ok (.aload_n 0, 1) := by decide +kernel
theorem d_A_emptySets_9 : decode c_A_emptySets 9 = .ok (.getfield 15, 3) := by decide +kernel
theorem d_A_emptySets_12 : decode c_A_emptySets 12 = .ok (.lconst 0, 1) := by decide +kernel
theorem d_A_emptySets_13 : decode c_A_emptySets 13 = .ok (.invokestatic 82, 3) := by decide +kernel
theorem d_A_emptySets_16 : decode c_A_emptySets 16 = .ok (.aload_n 0, 1) := by decide +kernel
theorem d_A_emptySets_17 : decode c_A_emptySets 17 = .ok (.getfield 25, 3) := by decide +kernel
theorem d_A_emptySets_20 : decode c_A_emptySets 20 = .ok (.iconst 0, 1) := by decide +kernel
theorem d_A_emptySets_21 : decode c_A_emptySets 21 = .ok (.invokestatic 76, 3) := by decide +kernel
theorem d_A_emptySets_24 : decode c_A_emptySets 24 = .ok (.aload_n 0, 1) := by decide +kernel
theorem d_A_emptySets_25 : decode c_A_emptySets 25 = .ok (.iconst 0, 1) := by decide +kernel
theorem d_A_emptySets_26 : decode c_A_emptySets 26 = .ok (.putfield 44, 3) := by decide +kernel
theorem d_A_emptySets_29 : decode c_A_emptySets 29 = .ok (.return_, 1) := by decide +kernel
theorem d_A_pair_0 : decode c_A_pair 0 = .ok (.lconst 1, 1) := by decide +kernel
theorem d_A_pair_1 : decode c_A_pair 1 = .ok (.bipush 8, 2) := by decide +kernel
theorem d_A_pair_3 : decode c_A_pair 3 = .ok (.iload_n 0, 1) := by decide +kernel
theorem d_A_pair_4 : decode c_A_pair 4 = .ok (.imul, 1) := by decide +kernel
theorem d_A_pair_5 : decode c_A_pair 5 = .ok (.iload_n 1, 1) := by decide +kernel
theorem d_A_pair_6 : decode c_A_pair 6 = .ok (.iadd, 1) := by decide +kernel
theorem d_A_pair_7 : decode c_A_pair 7 = .ok (.lshl, 1) := by decide +kernel
theorem d_A_pair_8 : decode c_A_pair 8 = .ok (.lreturn, 1) := by decide +kernel
theorem d_A_hasPair_0 : decode c_A_hasPair 0 = .ok (.lload_n 0, 1) := by decide +kernel
theorem d_A_hasPair_1 : decode c_A_hasPair 1 = .ok (.iload_n 2, 1) := by decide +kernel
theorem d_A_hasPair_2 : decode c_A_hasPair 2 = .ok (.lushr, 1) := by decide +kernel
theorem d_A_hasPair_3 : decode c_A_hasPair 3 = .ok (.lconst 1, 1) := by decide +kernel
theorem d_A_hasPair_4 : decode c_A_hasPair 4 = .ok (.land, 1) := by decide +kernel
theorem d_A_hasPair_5 : decode c_A_hasPair 5 = .ok (.lconst 0, 1) := by decide +kernel
theorem d_A_hasPair_6 : decode c_A_hasPair 6 = .ok (.lcmp, 1) := by decide +kernel
theorem d_A_hasPair_7 : decode c_A_hasPair 7 = .ok (.ifCond .eq 7, 3) := by decide +kernel
theorem d_A_hasPair_10 : decode c_A_hasPair 10 = .ok (.iconst 1, 1) := by decide +kernel
theorem d_A_hasPair_11 : decode c_A_hasPair 11 = .ok (.goto 4, 3) := by decide +kernel
theorem d_A_hasPair_14 : decode c_A_hasPair 14 = .ok (.iconst 0, 1) := by decide +kernel
theorem d_A_hasPair_15 : decode c_A_hasPair 15 = .ok (.ireturn, 1) := by decide +kernel
theorem d_A_visit_0 : decode c_A_visit 0 = .ok (.aload_n 0, 1) := by decide +kernel
theorem d_A_visit_1 : decode c_A_visit 1 = .ok (.getfield 28, 3) := by decide +kernel
theorem d_A_visit_4 : decode c_A_visit 4 = .ok (.iload_n 1, 1) := by decide +kernel
theorem d_A_visit_5 : decode c_A_visit 5 = .ok (.invokevirtual 85, 3) := by decide +kernel
theorem d_A_visit_8 : decode c_A_visit 8 = .ok (.istore 4, 2) := by decide +kernel
theorem d_A_visit_10 : decode c_A_visit 10 = .ok (.iload 4, 2) := by decide +kernel
theorem d_A_visit_12 : decode c_A_visit 12 = .ok (.ifCond .ne 4, 3) := by decide +kernel
theorem d_A_visit_15 : decode c_A_visit 15 = .ok (.return_, 1) := by decide +kernel
theorem d_A_visit_16 : decode c_A_visit 16 = .ok (.aload_n 0, 1) := by decide +kernel
theorem d_A_visit_17 : decode c_A_visit 17 = .ok (.iload_n 1, 1) := by decide +kernel
theorem d_A_visit_18 : decode c_A_visit 18 = .ok (.putfield 91, 3) := by decide +kernel
theorem d_A_visit_21 : decode c_A_visit 21 = .ok (.aload_n 0, 1) := by decide +kernel
theorem d_A_visit_22 : decode c_A_visit 22 = .ok (.iload_n 3, 1) := by decide +kernel
theorem d_A_visit_23 : decode c_A_visit 23 = .ok (.iconst 1, 1) := by decide +kernel
theorem d_A_visit_24 : decode c_A_visit 24 = .ok (.if_icmp .ne 7, 3) := by decide +kernel
theorem d_A_visit_27 : decode c_A_visit 27 = .ok (.iload_n 1, 1) := by decide +kernel
theorem d_A_visit_28 : decode c_A_visit 28 = .ok (.goto 4, 3) := by decide +kernel
theorem d_A_visit_31 : decode c_A_visit 31 = .ok (.iconst 0, 1) := by decide +kernel
theorem d_A_visit_32 : decode c_A_visit 32 = .ok (.putfield 94, 3) := by decide +kernel
theorem d_A_visit_35 : decode c_A_visit 35 = .ok (.iconst 0, 1) := by decide +kernel
theorem d_A_visit_36 : decode c_A_visit 36 = .ok (.istore 5, 2) := by decide +kernel
theorem d_A_visit_38 : decode c_A_visit 38 = .ok (.iload 5, 2) := by decide +kernel
theorem d_A_visit_40 : decode c_A_visit 40 = .ok (.iload 4, 2) := by decide +kernel
theorem d_A_visit_42 : decode c_A_visit 42 = .ok (.if_icmp .ge 26, 3) := by decide +kernel
theorem d_A_visit_45 : decode c_A_visit 45 = .ok (.aload_n 0, 1) := by decide +kernel
theorem d_A_visit_46 : decode c_A_visit 46 = .ok (.iload 5, 2) := by decide +kernel
theorem d_A_visit_48 : decode c_A_visit 48 = .ok (.aload_n 0, 1) := by decide +kernel
theorem d_A_visit_49 : decode c_A_visit 49 = .ok (.getfield 28, 3) := by decide +kernel
theorem d_A_visit_52 : decode c_A_visit 52 = .ok (.iload_n 1, 1) := by decide +kernel
theorem d_A_visit_53 : decode c_A_visit 53 = .ok (.iload 5, 2) := by decide +kernel
theorem d_A_visit_55 : decode c_A_visit 55 = .ok (.invokevirtual 97, 3) := by decide +kernel
theorem d_A_visit_58 : decode c_A_visit 58 = .ok (.iload_n 2, 1) := by decide +kernel
theorem d_A_visit_59 : decode c_A_visit 59 = .ok (.invokevirtual 101, 3) := by decide +kernel
theorem d_A_visit_62 : decode c_A_visit 62 = .ok (.iinc 5 1, 3) := by decide +kernel
theorem d_A_visit_65 : decode c_A_visit 65 = .ok (.goto (-27), 3) := by decide +kernel
theorem d_A_visit_68 : decode c_A_visit 68 = .ok (.aload_n 0, 1) := by decide +kernel
theorem d_A_visit_69 : decode c_A_visit 69 = .ok (.iconst 0, 1) := by decide +kernel
theorem d_A_visit_70 : decode c_A_visit 70 = .ok (.iconst 1, 1) := by decide +kernel
theorem d_A_visit_71 : decode c_A_visit 71 = .ok (.iload 4, 2) := by decide +kernel
theorem d_A_visit_73 : decode c_A_visit 73 = .ok (.iconst 1, 1) := by decide +kernel
theorem d_A_visit_74 : decode c_A_visit 74 = .ok (.isub, 1) := by decide +kernel
theorem d_A_visit_75 : decode c_A_visit 75 = .ok (.invokevirtual 104, 3) := by decide +kernel
theorem d_A_visit_78 : decode c_A_visit 78 = .ok (.iload 4, 2) := by decide +kernel
theorem d_A_visit_80 : decode c_A_visit 80 = .ok (.iconst 4, 1) := by decide +kernel
theorem d_A_visit_81 : decode c_A_visit 81 = .ok (.if_icmp .ne 12, 3) := by decide +kernel
theorem d_A_visit_84 : decode c_A_visit 84 = .ok (.aload_n 0, 1) := by decide +kernel
theorem d_A_visit_85 : decode c_A_visit 85 = .ok (.getfield 19, 3) := by decide +kernel
theorem d_A_visit_88 : decode c_A_visit 88 = .ok (.iconst 0, 1) := by decide +kernel
theorem d_A_visit_89 : decode c_A_visit 89 = .ok (.iaload, 1) := by decide +kernel
theorem d_A_visit_90 : decode c_A_visit 90 = .ok (.goto 4, 3) := by decide +kernel
theorem d_A_visit_93 : decode c_A_visit 93 = .ok (.iconst 0, 1) := by decide +kernel
theorem d_A_visit_94 : decode c_A_visit 94 = .ok (.istore 5, 2) := by decide +kernel
theorem d_A_visit_96 : decode c_A_visit 96 = .ok (.aload_n 0, 1) := by decide +kernel
theorem d_A_visit_97 : decode c_A_visit 97 = .ok (.getfield 19, 3) := by decide +kernel
theorem d_A_visit_100 : decode c_A_visit 100 = .ok (.iconst 1, 1) := by decide +kernel
theorem d_A_visit_101 : decode c_A_visit 101 = .ok (.iaload, 1) := by decide +kernel
theorem d_A_visit_102 : decode c_A_visit 102 = .ok (.sipush 1023, 3) := by decide +kernel
theorem d_A_visit_105 : decode c_A_visit 105 = .ok (.iand, 1) := by decide +kernel
theorem d_A_visit_106 : decode c_A_visit 106 = .ok (.istore 6, 2) := by decide +kernel
theorem d_A_visit_108 : decode c_A_visit 108 = .ok (.iload 5, 2) := by decide +kernel
theorem d_A_visit_110 : decode c_A_visit 110 = .ok (.sipush 301, 3) := by decide +kernel
theorem d_A_visit_113 : decode c_A_visit 113 = .ok (.invokestatic 107, 3) := by decide +kernel
theorem d_A_visit_116 : decode c_A_visit 116 = .ok (.invokestatic 110, 3) := by decide +kernel
theorem d_A_visit_119 : decode c_A_visit 119 = .ok (.ifCond .eq 29, 3) := by decide +kernel
theorem d_A_visit_122 : decode c_A_visit 122 = .ok (.aload_n 0, 1) := by decide +kernel
theorem d_A_visit_123 : decode c_A_visit 123 = .ok (.iload 6, 2) := by decide +kernel
theorem d_A_visit_125 : decode c_A_visit 125 = .ok (.aload_n 0, 1) := by decide +kernel
theorem d_A_visit_126 : decode c_A_visit 126 = .ok (.getfield 19, 3) := by decide +kernel
theorem d_A_visit_129 : decode c_A_visit 129 = .ok (.iconst 2, 1) := by decide +kernel
theorem d_A_visit_130 : decode c_A_visit 130 = .ok (.iaload, 1) := by decide +kernel
theorem d_A_visit_131 : decode c_A_visit 131 = .ok (.sipush 1023, 3) := by decide +kernel
theorem d_A_visit_134 : decode c_A_visit 134 = .ok (.iand, 1) := by decide +kernel
theorem d_A_visit_135 : decode c_A_visit 135 = .ok (.invokevirtual 114, 3) := by decide +kernel
theorem d_A_visit_138 : decode c_A_visit 138 = .ok (.ifCond .eq 10, 3) := by decide +kernel
theorem d_A_visit_141 : decode c_A_visit 141 = .ok (.aload_n 0, 1) := by decide +kernel
theorem d_A_visit_142 : decode c_A_visit 142 = .ok (.iconst 3, 1) := by decide +kernel
theorem d_A_visit_143 : decode c_A_visit 143 = .ok (.iconst 4, 1) := by decide +kernel
theorem d_A_visit_144 : decode c_A_visit 144 = .ok (.iconst 1, 1) := by decide +kernel
theorem d_A_visit_145 : decode c_A_visit 145 = .ok (.invokevirtual 104, 3) := by decide +kernel
theorem d_A_visit_148 : decode c_A_visit 148 = .ok (.iload 5, 2) := by decide +kernel
theorem d_A_visit_150 : decode c_A_visit 150 = .ok (.sipush 302, 3) := by decide +kernel
theorem d_A_visit_153 : decode c_A_visit 153 = .ok (.invokestatic 107, 3) := by decide +kernel
theorem d_A_visit_156 : decode c_A_visit 156 = .ok (.invokestatic 110, 3) := by decide +kernel
theorem d_A_visit_159 : decode c_A_visit 159 = .ok (.ifCond .eq 19, 3) := by decide +kernel
theorem d_A_visit_162 : decode c_A_visit 162 = .ok (.iload 6, 2) := by decide +kernel
theorem d_A_visit_164 : decode c_A_visit 164 = .ok (.iconst 0, 1) := by decide +kernel
theorem d_A_visit_165 : decode c_A_visit 165 = .ok (.invokestatic 110, 3) := by decide +kernel
theorem d_A_visit_168 : decode c_A_visit 168 = .ok (.ifCond .eq 10, 3) := by decide +kernel
theorem d_A_visit_171 : decode c_A_visit 171 = .ok (.aload_n 0, 1) := by decide +kernel
theorem d_A_visit_172 : decode c_A_visit 172 = .ok (.iconst 2, 1) := by decide +kernel
theorem d_A_visit_173 : decode c_A_visit 173 = .ok (.iconst 1, 1) := by decide +kernel
theorem d_A_visit_174 : decode c_A_visit 174 = .ok (.iconst 0, 1) := by decide +kernel
theorem d_A_visit_175 : decode c_A_visit 175 = .ok (.invokevirtual 104, 3) := by decide +kernel
theorem d_A_visit_178 : decode c_A_visit 178 = .ok (.iload 5, 2) := by decide +kernel
theorem d_A_visit_180 : decode c_A_visit 180 = .ok (.sipush 302, 3) := by decide +kernel
theorem d_A_visit_183 : decode c_A_visit 183 = .ok (.invokestatic 107, 3) := by decide +kernel
theorem d_A_visit_186 : decode c_A_visit 186 = .ok (.invokestatic 110, 3) := by decide +kernel
theorem d_A_visit_189 : decode c_A_visit 189 = .ok (.ifCond .eq 16, 3) := by decide +kernel
theorem d_A_visit_192 : decode c_A_visit 192 = .ok (.iload 6, 2) := by decide +kernel
theorem d_A_visit_194 : decode c_A_visit 194 = .ok (.iconst 1, 1) := by decide +kernel
theorem d_A_visit_195 : decode c_A_visit 195 = .ok (.if_icmp .le 10, 3) := by decide +kernel
theorem d_A_visit_198 : decode c_A_visit 198 = .ok (.aload_n 0, 1) := by decide +kernel
theorem d_A_visit_199 : decode c_A_visit 199 = .ok (.iconst 3, 1) := by decide +kernel
theorem d_A_visit_200 : decode c_A_visit 200 = .ok (.iconst 1, 1) := by decide +kernel
theorem d_A_visit_201 : decode c_A_visit 201 = .ok (.iconst 0, 1) := by decide +kernel
theorem d_A_visit_202 : decode c_A_visit 202 = .ok (.invokevirtual 104, 3) := by decide +kernel
theorem d_A_visit_205 : decode c_A_visit 205 = .ok (.return_, 1) := by decide +kernel
theorem d_A_loadOperand_0 : decode c_A_loadOperand 0 = .ok (.aload_n 0, 1) := by decide +kernel
theorem d_A_loadOperand_1 : decode c_A_loadOperand 1 = .ok (.getfield 19, 3) := by decide +kernel
theorem d_A_loadOperand_4 : decode c_A_loadOperand 4 = .ok (.iload_n 1, 1) := by decide +kernel
theorem d_A_loadOperand_5 : decode c_A_loadOperand 5 = .ok (.iconst 0, 1) := by decide +kernel
theorem d_A_loadOperand_6 : decode c_A_loadOperand 6 = .ok (.iastore, 1) := by decide +kernel
theorem d_A_loadOperand_7 : decode c_A_loadOperand 7 = .ok (.aload_n 0, 1) := by decide +kernel
theorem d_A_loadOperand_8 : decode c_A_loadOperand 8 = .ok (.getfield 22, 3) := by decide +kernel
theorem d_A_loadOperand_11 : decode c_A_loadOperand 11 = .ok (.iload_n 1, 1) := by decide +kernel
theorem d_A_loadOperand_12 : decode c_A_loadOperand 12 = .ok (.lconst 0, 1) := by decide +kernel
theorem d_A_loadOperand_13 : decode c_A_loadOperand 13 = .ok (.lastore, 1) := by decide +kernel
theorem d_A_loadOperand_14 : decode c_A_loadOperand 14 = .ok (.iload_n 2, 1) := by decide +kernel
theorem d_A_loadOperand_15 : decode c_A_loadOperand 15 = .ok (.invokestatic 117, 3) := by decide +kernel
theorem d_A_loadOperand_18 : decode c_A_loadOperand 18 = .ok (.ifCond .eq 46, 3) := by decide +kernel
theorem d_A_loadOperand_21 : decode c_A_loadOperand 21 = .ok (.iload_n 2, 1) := by decide +kernel
theorem d_A_loadOperand_22 : decode c_A_loadOperand 22 = .ok (.invokestatic 121, 3) := by decide +kernel
theorem d_A_loadOperand_25 : decode c_A_loadOperand 25 = .ok (.iload_n 2, 1) := by decide +kernel
theorem d_A_loadOperand_26 : decode c_A_loadOperand 26 = .ok (.invokestatic 124, 3) := by decide +kernel
theorem d_A_loadOperand_29 : decode c_A_loadOperand 29 = .ok (.iload_n 3, 1) := by decide +kernel
theorem d_A_loadOperand_30 : decode c_A_loadOperand 30 = .ok (.invokestatic 48, 3) := by decide +kernel
theorem d_A_loadOperand_33 : decode c_A_loadOperand 33 = .ok (.istore 4, 2) := by decide +kernel
theorem d_A_loadOperand_35 : decode c_A_loadOperand 35 = .ok (.aload_n 0, 1) := by decide +kernel
theorem d_A_loadOperand_36 : decode c_A_loadOperand 36 = .ok (.getfield 19, 3) := by decide +kernel
theorem d_A_loadOperand_39 : decode c_A_loadOperand 39 = .ok (.iload_n 1, 1) := by decide +kernel
theorem d_A_loadOperand_40 : decode c_A_loadOperand 40 = .ok (.aload_n 0, 1) := by decide +kernel
theorem d_A_loadOperand_41 : decode c_A_loadOperand 41 = .ok (.getfield 11, 3) := by decide +kernel
theorem d_A_loadOperand_44 : decode c_A_loadOperand 44 = .ok (.iload 4, 2) := by decide +kernel
theorem d_A_loadOperand_46 : decode c_A_loadOperand 46 = .ok (.iaload, 1) := by decide +kernel
theorem d_A_loadOperand_47 : decode c_A_loadOperand 47 = .ok (.iastore, 1) := by decide +kernel
theorem d_A_loadOperand_48 : decode c_A_loadOperand 48 = .ok (.aload_n 0, 1) := by decide +kernel
theorem d_A_loadOperand_49 : decode c_A_loadOperand 49 = .ok (.getfield 22, 3) := by decide +kernel
theorem d_A_loadOperand_52 : decode c_A_loadOperand 52 = .ok (.iload_n 1, 1) := by decide +kernel
theorem d_A_loadOperand_53 : decode c_A_loadOperand 53 = .ok (.aload_n 0, 1) := by decide +kernel
theorem d_A_loadOperand_54 : decode c_A_loadOperand 54 = .ok (.getfield 15, 3) := by decide +kernel
theorem d_A_loadOperand_57 : decode c_A_loadOperand 57 = .ok (.iload 4, 2) := by decide +kernel
theorem d_A_loadOperand_59 : decode c_A_loadOperand 59 = .ok (.laload, 1) := by decide +kernel
theorem d_A_loadOperand_60 : decode c_A_loadOperand 60 = .ok (.lastore, 1) := by decide +kernel
theorem d_A_loadOperand_61 : decode c_A_loadOperand 61 = .ok (.goto 40, 3) := by decide +kernel
theorem d_A_loadOperand_64 : decode c_A_loadOperand 64 = .ok (.iload_n 2, 1) := by decide +kernel
theorem d_A_loadOperand_65 : decode c_A_loadOperand 65 = .ok (.invokestatic 127, 3) := by decide +kernel
theorem d_A_loadOperand_68 : decode c_A_loadOperand 68 = .ok (.ifCond .eq 21, 3) := by decide +kernel
theorem d_A_loadOperand_71 : decode c_A_loadOperand 71 = .ok (.aload_n 0, 1) := by decide +kernel
theorem d_A_loadOperand_72 : decode c_A_loadOperand 72 = .ok (.getfield 22, 3) := by decide +kernel
theorem d_A_loadOperand_75 : decode c_A_loadOperand 75 = .ok (.iload_n 1, 1) := by decide +kernel
theorem d_A_loadOperand_76 : decode c_A_loadOperand 76 = .ok (.iload_n 2, 1) := by decide +kernel
theorem d_A_loadOperand_77 : decode c_A_loadOperand 77 = .ok (.sipush 200, 3) := by decide +kernel
theorem d_A_loadOperand_80 : decode c_A_loadOperand 80 = .ok (.isub, 1) := by decide +kernel
theorem d_A_loadOperand_81 : decode c_A_loadOperand 81 = .ok (.iload_n 3, 1) := by decide +kernel
theorem d_A_loadOperand_82 : decode c_A_loadOperand 82 = .ok (.invokestatic 55, 3) := by decide +kernel
theorem d_A_loadOperand_85 : decode c_A_loadOperand 85 = .ok (.lastore, 1) := by decide +kernel
theorem d_A_loadOperand_86 : decode c_A_loadOperand 86 = .ok (.goto 15, 3) := by decide +kernel
theorem d_A_loadOperand_89 : decode c_A_loadOperand 89 = .ok (.aload_n 0, 1) := by decide +kernel
theorem d_A_loadOperand_90 : decode c_A_loadOperand 90 = .ok (.getfield 19, 3) := by decide +kernel
theorem d_A_loadOperand_93 : decode c_A_loadOperand 93 = .ok (.iload_n 1, 1) := by decide +kernel
theorem d_A_loadOperand_94 : decode c_A_loadOperand 94 = .ok (.iconst 1, 1) := by decide +kernel
theorem d_A_loadOperand_95 : decode c_A_loadOperand 95 = .ok (.iload_n 2, 1) := by decide +kernel
theorem d_A_loadOperand_96 : decode c_A_loadOperand 96 = .ok (.invokestatic 107, 3) := by decide +kernel
theorem d_A_loadOperand_99 : decode c_A_loadOperand 99 = .ok (.ishl, 1) := by decide +kernel
theorem d_A_loadOperand_100 : decode c_A_loadOperand 100 = .ok (.iastore, 1) := by decide +kernel
theorem d_A_loadOperand_101 : decode c_A_loadOperand 101 = .ok (.return_, 1) := by decide +kernel
theorem d_A_slot_0 : decode c_A_slot 0 = .ok (.iload_n 0, 1) := by decide +kernel
theorem d_A_slot_1 : decode c_A_slot 1 = .ok (.iconst 3, 1) := by decide +kernel
theorem d_A_slot_2 : decode c_A_slot 2 = .ok (.imul, 1) := by decide +kernel
theorem d_A_slot_3 : decode c_A_slot 3 = .ok (.iload_n 1, 1) := by decide +kernel
theorem d_A_slot_4 : decode c_A_slot 4 = .ok (.iadd, 1) := by decide +kernel
theorem d_A_slot_5 : decode c_A_slot 5 = .ok (.bipush 8, 2) := by decide +kernel
theorem d_A_slot_7 : decode c_A_slot 7 = .ok (.imul, 1) := by decide +kernel
theorem d_A_slot_8 : decode c_A_slot 8 = .ok (.iload_n 2, 1) := by decide +kernel
theorem d_A_slot_9 : decode c_A_slot 9 = .ok (.iadd, 1) := by decide +kernel
theorem d_A_slot_10 : decode c_A_slot 10 = .ok (.ireturn, 1) := by decide +kernel
theorem d_A_constantBit_0 : decode c_A_constantBit 0 = .ok (.iload_n 0, 1) := by decide +kernel
theorem d_A_constantBit_1 : decode c_A_constantBit 1 = .ok (.invokestatic 151, 3) := by decide +kernel
theorem d_A_constantBit_4 : decode c_A_constantBit 4 = .ok (.ifCond .eq 7, 3) := by decide +kernel
theorem d_A_constantBit_7 : decode c_A_constantBit 7 = .ok (.iload_n 0, 1) := by decide +kernel
theorem d_A_constantBit_8 : decode c_A_constantBit 8 = .ok (.goto 11, 3) := by decide +kernel
theorem d_A_constantBit_11 : decode c_A_constantBit 11 = .ok (.bipush 10, 2) := by decide +kernel
theorem d_A_constantBit_13 : decode c_A_constantBit 13 = .ok (.iload_n 0, 1) := by decide +kernel
theorem d_A_constantBit_14 : decode c_A_constantBit 14 = .ok (.iadd, 1) := by decide +kernel
theorem d_A_constantBit_15 : decode c_A_constantBit 15 = .ok (.sipush 300, 3) := by decide +kernel
theorem d_A_constantBit_18 : decode c_A_constantBit 18 = .ok (.isub, 1) := by decide +kernel
theorem d_A_constantBit_19 : decode c_A_constantBit 19 = .ok (.ireturn, 1) := by decide +kernel
theorem d_A_applyDirectly_0 : decode c_A_applyDirectly 0 = .ok (.iload_n 3, 1) := by decide +kernel
theorem d_A_applyDirectly_1 : decode c_A_applyDirectly 1 = .ok (.iconst 1, 1) := by decide +kernel
theorem d_A_applyDirectly_2 : decode c_A_applyDirectly 2 = .ok (.if_icmp .ne 63, 3) := by decide +kernel
theorem d_A_applyDirectly_5 : decode c_A_applyDirectly 5 = .ok (.aload_n 0, 1) := by decide +kernel
theorem d_A_applyDirectly_6 : decode c_A_applyDirectly 6 = .ok (.getfield 19, 3) := by decide +kernel
theorem d_A_applyDirectly_9 : decode c_A_applyDirectly 9 = .ok (.iload_n 1, 1) := by decide +kernel
theorem d_A_applyDirectly_10 : decode c_A_applyDirectly 10 = .ok (.iaload, 1) := by decide +kernel
theorem d_A_applyDirectly_11 : decode c_A_applyDirectly 11 = .ok (.sipush 300, 3) := by decide +kernel
theorem d_A_applyDirectly_14 : decode c_A_applyDirectly 14 = .ok (.invokestatic 107, 3) := by decide +kernel
theorem d_A_applyDirectly_17 : decode c_A_applyDirectly 17 = .ok (.invokestatic 110, 3) := by decide +kernel
theorem d_A_applyDirectly_20 : decode c_A_applyDirectly 20 = .ok (.ifCond .eq 45, 3) := by decide +kernel
theorem d_A_applyDirectly_23 : decode c_A_applyDirectly 23 = .ok (.aload_n 0, 1) := by decide +kernel
theorem d_A_applyDirectly_24 : decode c_A_applyDirectly 24 = .ok (.dup, 1) := by decide +kernel
theorem d_A_applyDirectly_25 : decode c_A_applyDirectly 25 = .ok (.getfield 44, 3) := by decide +kernel
theorem d_A_applyDirectly_28 : decode c_A_applyDirectly 28 = .ok (.aload_n 0, 1) := by decide +kernel
theorem d_A_applyDirectly_29 : decode c_A_applyDirectly 29 = .ok (.getfield 19, 3) := by decide +kernel
theorem d_A_applyDirectly_32 : decode c_A_applyDirectly 32 = .ok (.iload_n 2, 1) := by decide +kernel
theorem d_A_applyDirectly_33 : decode c_A_applyDirectly 33 = .ok (.iaload, 1) := by decide +kernel
theorem d_A_applyDirectly_34 : decode c_A_applyDirectly 34 = .ok (.ior, 1) := by decide +kernel
theorem d_A_applyDirectly_35 : decode c_A_applyDirectly 35 = .ok (.putfield 44, 3) := by decide +kernel
theorem d_A_applyDirectly_38 : decode c_A_applyDirectly 38 = .ok (.aload_n 0, 1) := by decide +kernel
theorem d_A_applyDirectly_39 : decode c_A_applyDirectly 39 = .ok (.dup, 1) := by decide +kernel
theorem d_A_applyDirectly_40 : decode c_A_applyDirectly 40 = .ok (.getfield 44, 3) := by decide +kernel
theorem d_A_applyDirectly_43 : decode c_A_applyDirectly 43 = .ok (.aload_n 0, 1) := by decide +kernel
theorem d_A_applyDirectly_44 : decode c_A_applyDirectly 44 = .ok (.getfield 22, 3) := by decide +kernel
theorem d_A_applyDirectly_47 : decode c_A_applyDirectly 47 = .ok (.iload_n 2, 1) := by decide +kernel
theorem d_A_applyDirectly_48 : decode c_A_applyDirectly 48 = .ok (.laload, 1) := by decide +kernel
theorem d_A_applyDirectly_49 : decode c_A_applyDirectly 49 = .ok (.lconst 0, 1) := by decide +kernel
theorem d_A_applyDirectly_50 : decode c_A_applyDirectly 50 = .ok (.lcmp, 1) := by decide +kernel
theorem d_A_applyDirectly_51 : decode c_A_applyDirectly 51 = .ok (.ifCond .ne 7, 3) := by decide +kernel
theorem d_A_applyDirectly_54 : decode c_A_applyDirectly 54 = .ok (.iconst 0, 1) := by decide +kernel
theorem d_A_applyDirectly_55 : decode c_A_applyDirectly 55 = .ok (.goto 6, 3) := by decide +kernel
theorem d_A_applyDirectly_58 : decode c_A_applyDirectly 58 = .ok (.sipush 8192, 3) := by decide +kernel
theorem d_A_applyDirectly_61 : decode c_A_applyDirectly 61 = .ok (.ior, 1) := by decide +kernel
theorem d_A_applyDirectly_62 : decode c_A_applyDirectly 62 = .ok (.putfield 44, 3) := by decide +kernel
theorem d_A_applyDirectly_65 : decode c_A_applyDirectly 65 = .ok (.aload_n 0, 1) := by decide +kernel
theorem d_A_applyDirectly_66 : decode c_A_applyDirectly 66 = .ok (.getfield 22, 3) := by decide +kernel
theorem d_A_applyDirectly_69 : decode c_A_applyDirectly 69 = .ok (.iload_n 1, 1) := by decide +kernel
theorem d_A_applyDirectly_70 : decode c_A_applyDirectly 70 = .ok (.laload, 1) := by decide +kernel
theorem d_A_applyDirectly_71 : decode c_A_applyDirectly 71 = .ok (.lstore 4, 2) := by decide +kernel
theorem d_A_applyDirectly_73 : decode c_A_applyDirectly 73 = .ok (.iconst 0, 1) := by decide +kernel
theorem d_A_applyDirectly_74 : decode c_A_applyDirectly 74 = .ok (.istore 6, 2) := by decide +kernel
theorem d_A_applyDirectly_76 : decode c_A_applyDirectly 76 = .ok (.iload 6, 2) := by decide +kernel
theorem d_A_applyDirectly_78 : decode c_A_applyDirectly 78 = .ok (.bipush 64, 2) := by decide +kernel
theorem d_A_applyDirectly_80 : decode c_A_applyDirectly 80 = .ok (.if_icmp .ge 50, 3) := by decide +kernel
theorem d_A_applyDirectly_83 : decode c_A_applyDirectly 83 = .ok (.lload 4, 2) := by decide +kernel
theorem d_A_applyDirectly_85 : decode c_A_applyDirectly 85 = .ok (.iload 6, 2) := by decide +kernel
theorem d_A_applyDirectly_87 : decode c_A_applyDirectly 87 = .ok (.invokestatic 62, 3) := by decide +kernel
theorem d_A_applyDirectly_90 : decode c_A_applyDirectly 90 = .ok (.ifCond .eq 34, 3) := by decide +kernel
theorem d_A_applyDirectly_93 : decode c_A_applyDirectly 93 = .ok (.aload_n 0, 1) := by decide +kernel
theorem d_A_applyDirectly_94 : decode c_A_applyDirectly 94 = .ok (.getfield 28, 3) := by decide +kernel
theorem d_A_applyDirectly_97 : decode c_A_applyDirectly 97 = .ok (.iload 6, 2) := by decide +kernel
theorem d_A_applyDirectly_99 : decode c_A_applyDirectly 99 = .ok (.bipush 8, 2) := by decide +kernel
theorem d_A_applyDirectly_101 : decode c_A_applyDirectly 101 = .ok (.idiv, 1) := by decide +kernel
theorem d_A_applyDirectly_102 : decode c_A_applyDirectly 102 = .ok (.invokevirtual 130, 3) := by decide +kernel
theorem d_A_applyDirectly_105 : decode c_A_applyDirectly 105 = .ok (.iload_n 3, 1) := by decide +kernel
theorem d_A_applyDirectly_106 : decode c_A_applyDirectly 106 = .ok (.if_icmp .ne 18, 3) := by decide +kernel
theorem d_A_applyDirectly_109 : decode c_A_applyDirectly 109 = .ok (.aload_n 0, 1) := by decide +kernel
theorem d_A_applyDirectly_110 : decode c_A_applyDirectly 110 = .ok (.iload 6, 2) := by decide +kernel
theorem d_A_applyDirectly_112 : decode c_A_applyDirectly 112 = .ok (.bipush 8, 2) := by decide +kernel
theorem d_A_applyDirectly_114 : decode c_A_applyDirectly 114 = .ok (.idiv, 1) := by decide +kernel
theorem d_A_applyDirectly_115 : decode c_A_applyDirectly 115 = .ok (.iload 6, 2) := by decide +kernel
theorem d_A_applyDirectly_117 : decode c_A_applyDirectly 117 = .ok (.bipush 8, 2) := by decide +kernel
theorem d_A_applyDirectly_119 : decode c_A_applyDirectly 119 = .ok (.irem, 1) := by decide +kernel
theorem d_A_applyDirectly_120 : decode c_A_applyDirectly 120 = .ok (.iload_n 2, 1) := by decide +kernel
theorem d_A_applyDirectly_121 : decode c_A_applyDirectly 121 = .ok (.invokevirtual 133, 3) := by decide +kernel
theorem d_A_applyDirectly_124 : decode c_A_applyDirectly 124 = .ok (.iinc 6 1, 3) := by decide +kernel
theorem d_A_applyDirectly_127 : decode c_A_applyDirectly 127 = .ok (.goto (-51), 3) := by decide +kernel
theorem d_A_applyDirectly_130 : decode c_A_applyDirectly 130 = .ok (.return_, 1) := by decide +kernel
theorem d_A_enter_0 : decode c_A_enter 0 = .ok (.aload_n 0, 1) := by decide +kernel
theorem d_A_enter_1 : decode c_A_enter 1 = .ok (.getfield 25, 3) := by decide +kernel
theorem d_A_enter_4 : decode c_A_enter 4 = .ok (.aload_n 0, 1) := by decide +kernel
theorem d_A_enter_5 : decode c_A_enter 5 = .ok (.getfield 91, 3) := by decide +kernel
theorem d_A_enter_8 : decode c_A_enter 8 = .ok (.dup2, 1) := by decide +kernel
theorem d_A_enter_9 : decode c_A_enter 9 = .ok (.iaload, 1) := by decide +kernel
theorem d_A_enter_10 : decode c_A_enter 10 = .ok (.iconst 1, 1) := by decide +kernel
theorem d_A_enter_11 : decode c_A_enter 11 = .ok (.iload_n 1, 1) := by decide +kernel
theorem d_A_enter_12 : decode c_A_enter 12 = .ok (.ishl, 1) := by decide +kernel
theorem d_A_enter_13 : decode c_A_enter 13 = .ok (.ior, 1) := by decide +kernel
theorem d_A_enter_14 : decode c_A_enter 14 = .ok (.iastore, 1) := by decide +kernel
theorem d_A_enter_15 : decode c_A_enter 15 = .ok (.aload_n 0, 1) := by decide +kernel
theorem d_A_enter_16 : decode c_A_enter 16 = .ok (.iload_n 1, 1) := by decide +kernel
theorem d_A_enter_17 : decode c_A_enter 17 = .ok (.invokevirtual 136, 3) := by decide +kernel
theorem d_A_enter_20 : decode c_A_enter 20 = .ok (.iconst 0, 1) := by decide +kernel
theorem d_A_enter_21 : decode c_A_enter 21 = .ok (.istore 4, 2) := by decide +kernel
theorem d_A_enter_23 : decode c_A_enter 23 = .ok (.iload 4, 2) := by decide +kernel
theorem d_A_enter_25 : decode c_A_enter 25 = .ok (.aload_n 0, 1) := by decide +kernel
theorem d_A_enter_26 : decode c_A_enter 26 = .ok (.getfield 28, 3) := by decide +kernel
theorem d_A_enter_29 : decode c_A_enter 29 = .ok (.iload_n 1, 1) := by decide +kernel
theorem d_A_enter_30 : decode c_A_enter 30 = .ok (.invokevirtual 130, 3) := by decide +kernel
theorem d_A_enter_33 : decode c_A_enter 33 = .ok (.if_icmp .ge 43, 3) := by decide +kernel
theorem d_A_enter_36 : decode c_A_enter 36 = .ok (.iload_n 3, 1) := by decide +kernel
theorem d_A_enter_37 : decode c_A_enter 37 = .ok (.iload 4, 2) := by decide +kernel
theorem d_A_enter_39 : decode c_A_enter 39 = .ok (.iadd, 1) := by decide +kernel
theorem d_A_enter_40 : decode c_A_enter 40 = .ok (.istore 5, 2) := by decide +kernel
theorem d_A_enter_42 : decode c_A_enter 42 = .ok (.aload_n 0, 1) := by decide +kernel
theorem d_A_enter_43 : decode c_A_enter 43 = .ok (.iload_n 1, 1) := by decide +kernel
theorem d_A_enter_44 : decode c_A_enter 44 = .ok (.iload 4, 2) := by decide +kernel
theorem d_A_enter_46 : decode c_A_enter 46 = .ok (.aload_n 0, 1) := by decide +kernel
theorem d_A_enter_47 : decode c_A_enter 47 = .ok (.getfield 94, 3) := by decide +kernel
theorem d_A_enter_50 : decode c_A_enter 50 = .ok (.invokestatic 48, 3) := by decide +kernel
theorem d_A_enter_53 : decode c_A_enter 53 = .ok (.aload_n 0, 1) := by decide +kernel
theorem d_A_enter_54 : decode c_A_enter 54 = .ok (.getfield 19, 3) := by decide +kernel
theorem d_A_enter_57 : decode c_A_enter 57 = .ok (.iload 5, 2) := by decide +kernel
theorem d_A_enter_59 : decode c_A_enter 59 = .ok (.iaload, 1) := by decide +kernel
theorem d_A_enter_60 : decode c_A_enter 60 = .ok (.aload_n 0, 1) := by decide +kernel
theorem d_A_enter_61 : decode c_A_enter 61 = .ok (.getfield 22, 3) := by decide +kernel
theorem d_A_enter_64 : decode c_A_enter 64 = .ok (.iload 5, 2) := by decide +kernel
theorem d_A_enter_66 : decode c_A_enter 66 = .ok (.laload, 1) := by decide +kernel
theorem d_A_enter_67 : decode c_A_enter 67 = .ok (.invokevirtual 140, 3) := by decide +kernel
theorem d_A_enter_70 : decode c_A_enter 70 = .ok (.iinc 4 1, 3) := by decide +kernel
theorem d_A_enter_73 : decode c_A_enter 73 = .ok (.goto (-50), 3) := by decide +kernel
theorem d_A_enter_76 : decode c_A_enter 76 = .ok (.aload_n 0, 1) := by decide +kernel
theorem d_A_enter_77 : decode c_A_enter 77 = .ok (.getfield 28, 3) := by decide +kernel
theorem d_A_enter_80 : decode c_A_enter 80 = .ok (.iload_n 1, 1) := by decide +kernel
theorem d_A_enter_81 : decode c_A_enter 81 = .ok (.invokevirtual 144, 3) := by decide +kernel
theorem d_A_enter_84 : decode c_A_enter 84 = .ok (.istore 4, 2) := by decide +kernel
theorem d_A_enter_86 : decode c_A_enter 86 = .ok (.iconst 0, 1) := by decide +kernel
theorem d_A_enter_87 : decode c_A_enter 87 = .ok (.istore 5, 2) := by decide +kernel
theorem d_A_enter_89 : decode c_A_enter 89 = .ok (.iload 5, 2) := by decide +kernel
theorem d_A_enter_91 : decode c_A_enter 91 = .ok (.iload_n 1, 1) := by decide +kernel
theorem d_A_enter_92 : decode c_A_enter 92 = .ok (.if_icmp .ge 26, 3) := by decide +kernel
theorem d_A_enter_95 : decode c_A_enter 95 = .ok (.iload 4, 2) := by decide +kernel
theorem d_A_enter_97 : decode c_A_enter 97 = .ok (.iload 5, 2) := by decide +kernel
theorem d_A_enter_99 : decode c_A_enter 99 = .ok (.invokestatic 110, 3) := by decide +kernel
theorem d_A_enter_102 : decode c_A_enter 102 = .ok (.ifCond .eq 10, 3) := by decide +kernel
theorem d_A_enter_105 : decode c_A_enter 105 = .ok (.aload_n 0, 1) := by decide +kernel
theorem d_A_enter_106 : decode c_A_enter 106 = .ok (.iload 5, 2) := by decide +kernel
theorem d_A_enter_108 : decode c_A_enter 108 = .ok (.iload_n 2, 1) := by decide +kernel
theorem d_A_enter_109 : decode c_A_enter 109 = .ok (.invokevirtual 147, 3) := by decide +kernel
theorem d_A_enter_112 : decode c_A_enter 112 = .ok (.iinc 5 1, 3) := by decide +kernel
theorem d_A_enter_115 : decode c_A_enter 115 = .ok (.goto (-26), 3) := by decide +kernel
theorem d_A_enter_118 : decode c_A_enter 118 = .ok (.return_, 1) := by decide +kernel
theorem d_A_addState_0 : decode c_A_addState 0 = .ok (.aload_n 0, 1) := by decide +kernel
theorem d_A_addState_1 : decode c_A_addState 1 = .ok (.getfield 36, 3) := by decide +kernel
theorem d_A_addState_4 : decode c_A_addState 4 = .ok (.iload_n 1, 1) := by decide +kernel
theorem d_A_addState_5 : decode c_A_addState 5 = .ok (.aload_n 0, 1) := by decide +kernel
theorem d_A_addState_6 : decode c_A_addState 6 = .ok (.getfield 94, 3) := by decide +kernel
theorem d_A_addState_9 : decode c_A_addState 9 = .ok (.invokestatic 55, 3) := by decide +kernel
theorem d_A_addState_12 : decode c_A_addState 12 = .ok (.lor, 1) := by decide +kernel
theorem d_A_addState_13 : decode c_A_addState 13 = .ok (.lstore_n 2, 1) := by decide +kernel
theorem d_A_addState_14 : decode c_A_addState 14 = .ok (.lload_n 2, 1) := by decide +kernel
theorem d_A_addState_15 : decode c_A_addState 15 = .ok (.aload_n 0, 1) := by decide +kernel
theorem d_A_addState_16 : decode c_A_addState 16 = .ok (.getfield 36, 3) := by decide +kernel
theorem d_A_addState_19 : decode c_A_addState 19 = .ok (.lcmp, 1) := by decide +kernel
theorem d_A_addState_20 : decode c_A_addState 20 = .ok (.ifCond .eq 13, 3) := by decide +kernel
theorem d_A_addState_23 : decode c_A_addState 23 = .ok (.aload_n 0, 1) := by decide +kernel
theorem d_A_addState_24 : decode c_A_addState 24 = .ok (.lload_n 2, 1) := by decide +kernel
theorem d_A_addState_25 : decode c_A_addState 25 = .ok (.putfield 36, 3) := by decide +kernel
theorem d_A_addState_28 : decode c_A_addState 28 = .ok (.aload_n 0, 1) := by decide +kernel
theorem d_A_addState_29 : decode c_A_addState 29 = .ok (.iconst 1, 1) := by decide +kernel
theorem d_A_addState_30 : decode c_A_addState 30 = .ok (.putfield 59, 3) := by decide +kernel
theorem d_A_addState_33 : decode c_A_addState 33 = .ok (.return_, 1) := by decide +kernel
theorem d_A_widen_0 : decode c_A_widen 0 = .ok (.aload_n 0, 1) := by decide +kernel
theorem d_A_widen_1 : decode c_A_widen 1 = .ok (.getfield 11, 3) := by decide +kernel
theorem d_A_widen_4 : decode c_A_widen 4 = .ok (.iload_n 1, 1) := by decide +kernel
theorem d_A_widen_5 : decode c_A_widen 5 = .ok (.iaload, 1) := by decide +kernel
theorem d_A_widen_6 : decode c_A_widen 6 = .ok (.iload_n 2, 1) := by decide +kernel
theorem d_A_widen_7 : decode c_A_widen 7 = .ok (.ior, 1) := by decide +kernel
theorem d_A_widen_8 : decode c_A_widen 8 = .ok (.istore 5, 2) := by decide +kernel
theorem d_A_widen_10 : decode c_A_widen 10 = .ok (.aload_n 0, 1) := by decide +kernel
theorem d_A_widen_11 : decode c_A_widen 11 = .ok (.getfield 15, 3) := by decide +kernel
theorem d_A_widen_14 : decode c_A_widen 14 = .ok (.iload_n 1, 1) := by decide +kernel
theorem d_A_widen_15 : decode c_A_widen 15 = .ok (.laload, 1) := by decide +kernel
theorem d_A_widen_16 : decode c_A_widen 16 = .ok (.lload_n 3, 1) := by decide +kernel
theorem d_A_widen_17 : decode c_A_widen 17 = .ok (.lor, 1) := by decide +kernel
theorem d_A_widen_18 : decode c_A_widen 18 = .ok (.lstore 6, 2) := by decide +kernel
theorem d_A_widen_20 : decode c_A_widen 20 = .ok (.iload 5, 2) := by decide +kernel
theorem d_A_widen_22 : decode c_A_widen 22 = .ok (.aload_n 0, 1) := by decide +kernel
theorem d_A_widen_23 : decode c_A_widen 23 = .ok (.getfield 11, 3) := by decide +kernel
theorem d_A_widen_26 : decode c_A_widen 26 = .ok (.iload_n 1, 1) := by decide +kernel
theorem d_A_widen_27 : decode c_A_widen 27 = .ok (.iaload, 1) := by decide +kernel
theorem d_A_widen_28 : decode c_A_widen 28 = .ok (.if_icmp .ne 15, 3) := by decide +kernel
theorem d_A_widen_31 : decode c_A_widen 31 = .ok (.lload 6, 2) := by decide +kernel
theorem d_A_widen_33 : decode c_A_widen 33 = .ok (.aload_n 0, 1) := by decide +kernel
theorem d_A_widen_34 : decode c_A_widen 34 = .ok (.getfield 15, 3) := by decide +kernel
theorem d_A_widen_37 : decode c_A_widen 37 = .ok (.iload_n 1, 1) := by decide +kernel
theorem d_A_widen_38 : decode c_A_widen 38 = .ok (.laload, 1) := by decide +kernel
theorem d_A_widen_39 : decode c_A_widen 39 = .ok (.lcmp, 1) := by decide +kernel
theorem d_A_widen_40 : decode c_A_widen 40 = .ok (.ifCond .eq 24, 3) := by decide +kernel
theorem d_A_widen_43 : decode c_A_widen 43 = .ok (.aload_n 0, 1) := by decide +kernel
theorem d_A_widen_44 : decode c_A_widen 44 = .ok (.getfield 11, 3) := by decide +kernel
theorem d_A_widen_47 : decode c_A_widen 47 = .ok (.iload_n 1, 1) := by decide +kernel
theorem d_A_widen_48 : decode c_A_widen 48 = .ok (.iload 5, 2) := by decide +kernel
theorem d_A_widen_50 : decode c_A_widen 50 = .ok (.iastore, 1) := by decide +kernel
theorem d_A_widen_51 : decode c_A_widen 51 = .ok (.aload_n 0, 1) := by decide +kernel
theorem d_A_widen_52 : decode c_A_widen 52 = .ok (.getfield 15, 3) := by decide +kernel
theorem d_A_widen_55 : decode c_A_widen 55 = .ok (.iload_n 1, 1) := by decide +kernel
theorem d_A_widen_56 : decode c_A_widen 56 = .ok (.lload 6, 2) := by decide +kernel
theorem d_A_widen_58 : decode c_A_widen 58 = .ok (.lastore, 1) := by decide +kernel
theorem d_A_widen_59 : decode c_A_widen 59 = .ok (.aload_n 0, 1) := by decide +kernel
theorem d_A_widen_60 : decode c_A_widen 60 = .ok (.iconst 1, 1) := by decide +kernel
theorem d_A_widen_61 : decode c_A_widen 61 = .ok (.putfield 59, 3) := by decide +kernel
theorem d_A_widen_64 : decode c_A_widen 64 = .ok (.return_, 1) := by decide +kernel
theorem d_A_carryOver_0 : decode c_A_carryOver 0 = .ok (.iconst 0, 1) := by decide +kernel
theorem d_A_carryOver_1 : decode c_A_carryOver 1 = .ok (.istore_n 3, 1) := by decide +kernel
theorem d_A_carryOver_2 : decode c_A_carryOver 2 = .ok (.iload_n 3, 1) := by decide +kernel
theorem d_A_carryOver_3 : decode c_A_carryOver 3 = .ok (.aload_n 0, 1) := by decide +kernel
theorem d_A_carryOver_4 : decode c_A_carryOver 4 = .ok (.getfield 28, 3) := by decide +kernel
theorem d_A_carryOver_7 : decode c_A_carryOver 7 = .ok (.iload_n 1, 1) := by decide +kernel
theorem d_A_carryOver_8 : decode c_A_carryOver 8 = .ok (.invokevirtual 130, 3) := by decide +kernel
theorem d_A_carryOver_11 : decode c_A_carryOver 11 = .ok (.if_icmp .ge 44, 3) := by decide +kernel
theorem d_A_carryOver_14 : decode c_A_carryOver 14 = .ok (.iload_n 1, 1) := by decide +kernel
theorem d_A_carryOver_15 : decode c_A_carryOver 15 = .ok (.iload_n 3, 1) := by decide +kernel
theorem d_A_carryOver_16 : decode c_A_carryOver 16 = .ok (.iload_n 2, 1) := by decide +kernel
theorem d_A_carryOver_17 : decode c_A_carryOver 17 = .ok (.invokestatic 48, 3) := by decide +kernel
theorem d_A_carryOver_20 : decode c_A_carryOver 20 = .ok (.istore 4, 2) := by decide +kernel
theorem d_A_carryOver_22 : decode c_A_carryOver 22 = .ok (.aload_n 0, 1) := by decide +kernel
theorem d_A_carryOver_23 : decode c_A_carryOver 23 = .ok (.iload_n 1, 1) := by decide +kernel
theorem d_A_carryOver_24 : decode c_A_carryOver 24 = .ok (.iload_n 3, 1) := by decide +kernel
theorem d_A_carryOver_25 : decode c_A_carryOver 25 = .ok (.aload_n 0, 1) := by decide +kernel
theorem d_A_carryOver_26 : decode c_A_carryOver 26 = .ok (.getfield 94, 3) := by decide +kernel
theorem d_A_carryOver_29 : decode c_A_carryOver 29 = .ok (.invokestatic 48, 3) := by decide +kernel
theorem d_A_carryOver_32 : decode c_A_carryOver 32 = .ok (.aload_n 0, 1) := by decide +kernel
theorem d_A_carryOver_33 : decode c_A_carryOver 33 = .ok (.getfield 11, 3) := by decide +kernel
theorem d_A_carryOver_36 : decode c_A_carryOver 36 = .ok (.iload 4, 2) := by decide +kernel
theorem d_A_carryOver_38 : decode c_A_carryOver 38 = .ok (.iaload, 1) := by decide +kernel
theorem d_A_carryOver_39 : decode c_A_carryOver 39 = .ok (.aload_n 0, 1) := by decide +kernel
theorem d_A_carryOver_40 : decode c_A_carryOver 40 = .ok (.getfield 15, 3) := by decide +kernel
theorem d_A_carryOver_43 : decode c_A_carryOver 43 = .ok (.iload 4, 2) := by decide +kernel
theorem d_A_carryOver_45 : decode c_A_carryOver 45 = .ok (.laload, 1) := by decide +kernel
theorem d_A_carryOver_46 : decode c_A_carryOver 46 = .ok (.invokevirtual 140, 3) := by decide +kernel
theorem d_A_carryOver_49 : decode c_A_carryOver 49 = .ok (.iinc 3 1, 3) := by decide +kernel
theorem d_A_carryOver_52 : decode c_A_carryOver 52 = .ok (.goto (-50), 3) := by decide +kernel
theorem d_A_carryOver_55 : decode c_A_carryOver 55 = .ok (.return_, 1) := by decide +kernel
theorem d_A_loadSums_0 : decode c_A_loadSums 0 = .ok (.iconst 0, 1) := by decide +kernel
theorem d_A_loadSums_1 : decode c_A_loadSums 1 = .ok (.istore_n 3, 1) := by decide +kernel
theorem d_A_loadSums_2 : decode c_A_loadSums 2 = .ok (.iconst 0, 1) := by decide +kernel
theorem d_A_loadSums_3 : decode c_A_loadSums 3 = .ok (.istore 4, 2) := by decide +kernel
theorem d_A_loadSums_5 : decode c_A_loadSums 5 = .ok (.iload 4, 2) := by decide +kernel
theorem d_A_loadSums_7 : decode c_A_loadSums 7 = .ok (.bipush 10, 2) := by decide +kernel
theorem d_A_loadSums_9 : decode c_A_loadSums 9 = .ok (.if_icmp .ge 39, 3) := by decide +kernel
theorem d_A_loadSums_12 : decode c_A_loadSums 12 = .ok (.iload_n 1, 1) := by decide +kernel
theorem d_A_loadSums_13 : decode c_A_loadSums 13 = .ok (.iload 4, 2) := by decide +kernel
theorem d_A_loadSums_15 : decode c_A_loadSums 15 = .ok (.invokestatic 110, 3) := by decide +kernel
theorem d_A_loadSums_18 : decode c_A_loadSums 18 = .ok (.ifCond .eq 24, 3) := by decide +kernel
theorem d_A_loadSums_21 : decode c_A_loadSums 21 = .ok (.iload_n 2, 1) := by decide +kernel
theorem d_A_loadSums_22 : decode c_A_loadSums 22 = .ok (.iload 4, 2) := by decide +kernel
theorem d_A_loadSums_24 : decode c_A_loadSums 24 = .ok (.ishl, 1) := by decide +kernel
theorem d_A_loadSums_25 : decode c_A_loadSums 25 = .ok (.istore 5, 2) := by decide +kernel
theorem d_A_loadSums_27 : decode c_A_loadSums 27 = .ok (.iload_n 3, 1) := by decide +kernel
theorem d_A_loadSums_28 : decode c_A_loadSums 28 = .ok (.iload 5, 2) := by decide +kernel
theorem d_A_loadSums_30 : decode c_A_loadSums 30 = .ok (.iload 5, 2) := by decide +kernel
theorem d_A_loadSums_32 : decode c_A_loadSums 32 = .ok (.bipush 10, 2) := by decide +kernel
theorem d_A_loadSums_34 : decode c_A_loadSums 34 = .ok (.iushr, 1) := by decide +kernel
theorem d_A_loadSums_35 : decode c_A_loadSums 35 = .ok (.ior, 1) := by decide +kernel
theorem d_A_loadSums_36 : decode c_A_loadSums 36 = .ok (.sipush 1023, 3) := by decide +kernel
theorem d_A_loadSums_39 : decode c_A_loadSums 39 = .ok (.iand, 1) := by decide +kernel
theorem d_A_loadSums_40 : decode c_A_loadSums 40 = .ok (.ior, 1) := by decide +kernel
theorem d_A_loadSums_41 : decode c_A_loadSums 41 = .ok (.istore_n 3, 1) := by decide +kernel
theorem d_A_loadSums_42 : decode c_A_loadSums 42 = .ok (.iinc 4 1, 3) := by decide +kernel
theorem d_A_loadSums_45 : decode c_A_loadSums 45 = .ok (.goto (-40), 3) := by decide +kernel
theorem d_A_loadSums_48 : decode c_A_loadSums 48 = .ok (.aload_n 0, 1) := by decide +kernel
theorem d_A_loadSums_49 : decode c_A_loadSums 49 = .ok (.getfield 19, 3) := by decide +kernel
theorem d_A_loadSums_52 : decode c_A_loadSums 52 = .ok (.iconst 4, 1) := by decide +kernel
theorem d_A_loadSums_53 : decode c_A_loadSums 53 = .ok (.iload_n 3, 1) := by decide +kernel
theorem d_A_loadSums_54 : decode c_A_loadSums 54 = .ok (.iastore, 1) := by decide +kernel
theorem d_A_loadSums_55 : decode c_A_loadSums 55 = .ok (.iload_n 3, 1) := by decide +kernel
theorem d_A_loadSums_56 : decode c_A_loadSums 56 = .ok (.ifCond .eq 7, 3) := by decide +kernel
theorem d_A_loadSums_59 : decode c_A_loadSums 59 = .ok (.iconst 1, 1) := by decide +kernel
theorem d_A_loadSums_60 : decode c_A_loadSums 60 = .ok (.goto 4, 3) := by decide +kernel
theorem d_A_loadSums_63 : decode c_A_loadSums 63 = .ok (.iconst 0, 1) := by decide +kernel
theorem d_A_loadSums_64 : decode c_A_loadSums 64 = .ok (.ireturn, 1) := by decide +kernel
theorem d_A_isMade_0 : decode c_A_isMade 0 = .ok (.aload_n 0, 1) := by decide +kernel
theorem d_A_isMade_1 : decode c_A_isMade 1 = .ok (.getfield 32, 3) := by decide +kernel
theorem d_A_isMade_4 : decode c_A_isMade 4 = .ok (.ireturn, 1) := by decide +kernel
theorem d_A_flowFrom_0 : decode c_A_flowFrom 0 = .ok (.aload_n 0, 1) := by decide +kernel
theorem d_A_flowFrom_1 : decode c_A_flowFrom 1 = .ok (.getfield 25, 3) := by decide +kernel
theorem d_A_flowFrom_4 : decode c_A_flowFrom 4 = .ok (.iload_n 1, 1) := by decide +kernel
theorem d_A_flowFrom_5 : decode c_A_flowFrom 5 = .ok (.iaload, 1) := by decide +kernel
theorem d_A_flowFrom_6 : decode c_A_flowFrom 6 = .ok (.ireturn, 1) := by decide +kernel
theorem d_A_contoursOf_0 : decode c_A_contoursOf 0 = .ok (.aload_n 0, 1) := by decide +kernel
theorem d_A_contoursOf_1 : decode c_A_contoursOf 1 = .ok (.getfield 36, 3) := by decide +kernel
theorem d_A_contoursOf_4 : decode c_A_contoursOf 4 = .ok (.iload_n 1, 1) := by decide +kernel
theorem d_A_contoursOf_5 : decode c_A_contoursOf 5 = .ok (.invokestatic 40, 3) := by decide +kernel
theorem d_A_contoursOf_8 : decode c_A_contoursOf 8 = .ok (.ireturn, 1) := by decide +kernel
theorem d_A_contoursIn_0 : decode c_A_contoursIn 0 = .ok (.lload_n 0, 1) := by decide +kernel
theorem d_A_contoursIn_1 : decode c_A_contoursIn 1 = .ok (.bipush 8, 2) := by decide +kernel
theorem d_A_contoursIn_3 : decode c_A_contoursIn 3 = .ok (.iload_n 2, 1) := by decide +kernel
theorem d_A_contoursIn_4 : decode c_A_contoursIn 4 = .ok (.imul, 1) := by decide +kernel
theorem d_A_contoursIn_5 : decode c_A_contoursIn 5 = .ok (.lushr, 1) := by decide +kernel
theorem d_A_contoursIn_6 : decode c_A_contoursIn 6 = .ok (.l2i, 1) := by decide +kernel
theorem d_A_contoursIn_7 : decode c_A_contoursIn 7 = .ok (.sipush 255, 3) := by decide +kernel
theorem d_A_contoursIn_10 : decode c_A_contoursIn 10 = .ok (.iand, 1) := by decide +kernel
theorem d_A_contoursIn_11 : decode c_A_contoursIn 11 = .ok (.ireturn, 1) := by decide +kernel
theorem d_A_constantsIn_0 : decode c_A_constantsIn 0 = .ok (.iconst 0, 1) := by decide +kernel
theorem d_A_constantsIn_1 : decode c_A_constantsIn 1 = .ok (.istore_n 3, 1) := by decide +kernel
theorem d_A_constantsIn_2 : decode c_A_constantsIn 2 = .ok (.iconst 0, 1) := by decide +kernel
theorem d_A_constantsIn_3 : decode c_A_constantsIn 3 = .ok (.istore 4, 2) := by decide +kernel
theorem d_A_constantsIn_5 : decode c_A_constantsIn 5 = .ok (.iload 4, 2) := by decide +kernel
theorem d_A_constantsIn_7 : decode c_A_constantsIn 7 = .ok (.bipush 8, 2) := by decide +kernel
theorem d_A_constantsIn_9 : decode c_A_constantsIn 9 = .ok (.if_icmp .ge 24, 3) := by decide +kernel
theorem d_A_constantsIn_12 : decode c_A_constantsIn 12 = .ok (.iload_n 3, 1) := by decide +kernel
theorem d_A_constantsIn_13 : decode c_A_constantsIn 13 = .ok (.aload_n 0, 1) := by decide +kernel
theorem d_A_constantsIn_14 : decode c_A_constantsIn 14 = .ok (.getfield 11, 3) := by decide +kernel
theorem d_A_constantsIn_17 : decode c_A_constantsIn 17 = .ok (.iload_n 1, 1) := by decide +kernel
theorem d_A_constantsIn_18 : decode c_A_constantsIn 18 = .ok (.iload_n 2, 1) := by decide +kernel
theorem d_A_constantsIn_19 : decode c_A_constantsIn 19 = .ok (.iload 4, 2) := by decide +kernel
theorem d_A_constantsIn_21 : decode c_A_constantsIn 21 = .ok (.invokestatic 48, 3) := by decide +kernel
theorem d_A_constantsIn_24 : decode c_A_constantsIn 24 = .ok (.iaload, 1) := by decide +kernel
theorem d_A_constantsIn_25 : decode c_A_constantsIn 25 = .ok (.ior, 1) := by decide +kernel
theorem d_A_constantsIn_26 : decode c_A_constantsIn 26 = .ok (.istore_n 3, 1) := by decide +kernel
theorem d_A_constantsIn_27 : decode c_A_constantsIn 27 = .ok (.iinc 4 1, 3) := by decide +kernel
theorem d_A_constantsIn_30 : decode c_A_constantsIn 30 = .ok (.goto (-25), 3) := by decide +kernel
theorem d_A_constantsIn_33 : decode c_A_constantsIn 33 = .ok (.iload_n 3, 1) := by decide +kernel
theorem d_A_constantsIn_34 : decode c_A_constantsIn 34 = .ok (.ireturn, 1) := by decide +kernel
theorem d_A_lambdasIn_0 : decode c_A_lambdasIn 0 = .ok (.lconst 0, 1) := by decide +kernel
theorem d_A_lambdasIn_1 : decode c_A_lambdasIn 1 = .ok (.lstore_n 3, 1) := by decide +kernel
theorem d_A_lambdasIn_2 : decode c_A_lambdasIn 2 = .ok (.iconst 0, 1) := by decide +kernel
theorem d_A_lambdasIn_3 : decode c_A_lambdasIn 3 = .ok (.istore 5, 2) := by decide +kernel
theorem d_A_lambdasIn_5 : decode c_A_lambdasIn 5 = .ok (.iload 5, 2) := by decide +kernel
theorem d_A_lambdasIn_7 : decode c_A_lambdasIn 7 = .ok (.bipush 8, 2) := by decide +kernel
theorem d_A_lambdasIn_9 : decode c_A_lambdasIn 9 = .ok (.if_icmp .ge 24, 3) := by decide +kernel
theorem d_A_lambdasIn_12 : decode c_A_lambdasIn 12 = .ok (.lload_n 3, 1) := by decide +kernel
theorem d_A_lambdasIn_13 : decode c_A_lambdasIn 13 = .ok (.aload_n 0, 1) := by decide +kernel
theorem d_A_lambdasIn_14 : decode c_A_lambdasIn 14 = .ok (.getfield 15, 3) := by decide +kernel
theorem d_A_lambdasIn_17 : decode c_A_lambdasIn 17 = .ok (.iload_n 1, 1) := by decide +kernel
theorem d_A_lambdasIn_18 : decode c_A_lambdasIn 18 = .ok (.iload_n 2, 1) := by decide +kernel
theorem d_A_lambdasIn_19 : decode c_A_lambdasIn 19 = .ok (.iload 5, 2) := by decide +kernel
theorem d_A_lambdasIn_21 : decode c_A_lambdasIn 21 = .ok (.invokestatic 48, 3) := by decide +kernel
theorem d_A_lambdasIn_24 : decode c_A_lambdasIn 24 = .ok (.laload, 1) := by decide +kernel
theorem d_A_lambdasIn_25 : decode c_A_lambdasIn 25 = .ok (.lor, 1) := by decide +kernel
theorem d_A_lambdasIn_26 : decode c_A_lambdasIn 26 = .ok (.lstore_n 3, 1) := by decide +kernel
theorem d_A_lambdasIn_27 : decode c_A_lambdasIn 27 = .ok (.iinc 5 1, 3) := by decide +kernel
theorem d_A_lambdasIn_30 : decode c_A_lambdasIn 30 = .ok (.goto (-25), 3) := by decide +kernel
theorem d_A_lambdasIn_33 : decode c_A_lambdasIn 33 = .ok (.iconst 0, 1) := by decide +kernel
theorem d_A_lambdasIn_34 : decode c_A_lambdasIn 34 = .ok (.istore 5, 2) := by decide +kernel
theorem d_A_lambdasIn_36 : decode c_A_lambdasIn 36 = .ok (.iconst 0, 1) := by decide +kernel
theorem d_A_lambdasIn_37 : decode c_A_lambdasIn 37 = .ok (.istore 6, 2) := by decide +kernel
theorem d_A_lambdasIn_39 : decode c_A_lambdasIn 39 = .ok (.iload 6, 2) := by decide +kernel
theorem d_A_lambdasIn_41 : decode c_A_lambdasIn 41 = .ok (.bipush 8, 2) := by decide +kernel
theorem d_A_lambdasIn_43 : decode c_A_lambdasIn 43 = .ok (.if_icmp .ge 27, 3) := by decide +kernel
theorem d_A_lambdasIn_46 : decode c_A_lambdasIn 46 = .ok (.lload_n 3, 1) := by decide +kernel
theorem d_A_lambdasIn_47 : decode c_A_lambdasIn 47 = .ok (.iload 6, 2) := by decide +kernel
theorem d_A_lambdasIn_49 : decode c_A_lambdasIn 49 = .ok (.invokestatic 40, 3) := by decide +kernel
theorem d_A_lambdasIn_52 : decode c_A_lambdasIn 52 = .ok (.ifCond .eq 12, 3) := by decide +kernel
theorem d_A_lambdasIn_55 : decode c_A_lambdasIn 55 = .ok (.iload 5, 2) := by decide +kernel
theorem d_A_lambdasIn_57 : decode c_A_lambdasIn 57 = .ok (.iconst 1, 1) := by decide +kernel
theorem d_A_lambdasIn_58 : decode c_A_lambdasIn 58 = .ok (.iload 6, 2) := by decide +kernel
theorem d_A_lambdasIn_60 : decode c_A_lambdasIn 60 = .ok (.ishl, 1) := by decide +kernel
theorem d_A_lambdasIn_61 : decode c_A_lambdasIn 61 = .ok (.ior, 1) := by decide +kernel
theorem d_A_lambdasIn_62 : decode c_A_lambdasIn 62 = .ok (.istore 5, 2) := by decide +kernel
theorem d_A_lambdasIn_64 : decode c_A_lambdasIn 64 = .ok (.iinc 6 1, 3) := by decide +kernel
theorem d_A_lambdasIn_67 : decode c_A_lambdasIn 67 = .ok (.goto (-28), 3) := by decide +kernel
theorem d_A_lambdasIn_70 : decode c_A_lambdasIn 70 = .ok (.iload 5, 2) := by decide +kernel
theorem d_A_lambdasIn_72 : decode c_A_lambdasIn 72 = .ok (.ireturn, 1) := by decide +kernel
theorem d_A_outcomes_0 : decode c_A_outcomes 0 = .ok (.aload_n 0, 1) := by decide +kernel
theorem d_A_outcomes_1 : decode c_A_outcomes 1 = .ok (.getfield 44, 3) := by decide +kernel
theorem d_A_outcomes_4 : decode c_A_outcomes 4 = .ok (.ireturn, 1) := by decide +kernel
end
section
theorem d_C_init_0 : decode c_C_init 0 = .ok (.aload_n 0, 1) := by decide +kernel
theorem d_C_init_1 : decode c_C_init 1 = .ok (.invokespecial 1, 3) := by decide +kernel
theorem d_C_init_4 : decode c_C_init 4 = .ok (.aload_n 0, 1) := by decide +kernel
theorem d_C_init_5 : decode c_C_init 5 = .ok (.new 7, 3) := by decide +kernel
theorem d_C_init_8 : decode c_C_init 8 = .ok (.dup, 1) := by decide +kernel
theorem d_C_init_9 : decode c_C_init 9 = .ok (.invokespecial 9, 3) := by decide +kernel
theorem d_C_init_12 : decode c_C_init 12 = .ok (.putfield 10, 3) := by decide +kernel
theorem d_C_init_15 : decode c_C_init 15 = .ok (.aload_n 0, 1) := by decide +kernel
theorem d_C_init_16 : decode c_C_init 16 = .ok (.new 16, 3) := by decide +kernel
theorem d_C_init_19 : decode c_C_init 19 = .ok (.dup, 1) := by decide +kernel
theorem d_C_init_20 : decode c_C_init 20 = .ok (.aload_n 0, 1) := by decide +kernel
theorem d_C_init_21 : decode c_C_init 21 = .ok (.getfield 10, 3) := by decide +kernel
theorem d_C_init_24 : decode c_C_init 24 = .ok (.invokespecial 18, 3) := by decide +kernel
theorem d_C_init_27 : decode c_C_init 27 = .ok (.putfield 21, 3) := by decide +kernel
theorem d_C_init_30 : decode c_C_init 30 = .ok (.aload_n 0, 1) := by decide +kernel
theorem d_C_init_31 : decode c_C_init 31 = .ok (.new 25, 3) := by decide +kernel
theorem d_C_init_34 : decode c_C_init 34 = .ok (.dup, 1) := by decide +kernel
theorem d_C_init_35 : decode c_C_init 35 = .ok (.aload_n 0, 1) := by decide +kernel
theorem d_C_init_36 : decode c_C_init 36 = .ok (.getfield 10, 3) := by decide +kernel
theorem d_C_init_39 : decode c_C_init 39 = .ok (.invokespecial 27, 3) := by decide +kernel
theorem d_C_init_42 : decode c_C_init 42 = .ok (.putfield 28, 3) := by decide +kernel
theorem d_C_init_45 : decode c_C_init 45 = .ok (.return_, 1) := by decide +kernel
theorem d_C_lambda_0 : decode c_C_lambda 0 = .ok (.aload_n 0, 1) := by decide +kernel
theorem d_C_lambda_1 : decode c_C_lambda 1 = .ok (.getfield 10, 3) := by decide +kernel
theorem d_C_lambda_4 : decode c_C_lambda 4 = .ok (.iload_n 1, 1) := by decide +kernel
theorem d_C_lambda_5 : decode c_C_lambda 5 = .ok (.iload_n 2, 1) := by decide +kernel
theorem d_C_lambda_6 : decode c_C_lambda 6 = .ok (.invokevirtual 32, 3) := by decide +kernel
theorem d_C_lambda_9 : decode c_C_lambda 9 = .ok (.istore_n 3, 1) := by decide +kernel
theorem d_C_lambda_10 : decode c_C_lambda 10 = .ok (.iload_n 3, 1) := by decide +kernel
theorem d_C_lambda_11 : decode c_C_lambda 11 = .ok (.iconst (-1), 1) := by decide +kernel
theorem d_C_lambda_12 : decode c_C_lambda 12 = .ok (.if_icmp .eq 7, 3) := by decide +kernel
theorem d_C_lambda_15 : decode c_C_lambda 15 = .ok (.aload_n 0, 1) := by decide +kernel
theorem d_C_lambda_16 : decode c_C_lambda 16 = .ok (.invokevirtual 36, 3) := by decide +kernel
theorem d_C_lambda_19 : decode c_C_lambda 19 = .ok (.iload_n 3, 1) := by decide +kernel
theorem d_C_lambda_20 : decode c_C_lambda 20 = .ok (.ireturn, 1) := by decide +kernel
theorem d_C_forgetRuns_0 : decode c_C_forgetRuns 0 = .ok (.aload_n 0, 1) := by decide +kernel
theorem d_C_forgetRuns_1 : decode c_C_forgetRuns 1 = .ok (.getfield 21, 3) := by decide +kernel
theorem d_C_forgetRuns_4 : decode c_C_forgetRuns 4 = .ok (.invokevirtual 113, 3) := by decide +kernel
theorem d_C_forgetRuns_7 : decode c_C_forgetRuns 7 = .ok (.aload_n 0, 1) := by decide +kernel
theorem d_C_forgetRuns_8 : decode c_C_forgetRuns 8 = .ok (.getfield 28, 3) := by decide +kernel
theorem d_C_forgetRuns_11 : decode c_C_forgetRuns 11 = .ok (.invokevirtual 116, 3) := by decide +kernel
theorem d_C_forgetRuns_14 : decode c_C_forgetRuns 14 = .ok (.return_, 1) := by decide +kernel
theorem d_C_put_0 : decode c_C_put 0 = .ok (.aload_n 0, 1) := by decide +kernel
theorem d_C_put_1 : decode c_C_put 1 = .ok (.getfield 10, 3) := by decide +kernel
theorem d_C_put_4 : decode c_C_put 4 = .ok (.iload_n 1, 1) := by decide +kernel
theorem d_C_put_5 : decode c_C_put 5 = .ok (.iload_n 2, 1) := by decide +kernel
theorem d_C_put_6 : decode c_C_put 6 = .ok (.invokevirtual 39, 3) := by decide +kernel
theorem d_C_put_9 : decode c_C_put 9 = .ok (.istore_n 3, 1) := by decide +kernel
theorem d_C_put_10 : decode c_C_put 10 = .ok (.iload_n 3, 1) := by decide +kernel
theorem d_C_put_11 : decode c_C_put 11 = .ok (.ifCond .eq 7, 3) := by decide +kernel
theorem d_C_put_14 : decode c_C_put 14 = .ok (.aload_n 0, 1) := by decide +kernel
theorem d_C_put_15 : decode c_C_put 15 = .ok (.invokevirtual 36, 3) := by decide +kernel
theorem d_C_put_18 : decode c_C_put 18 = .ok (.iload_n 3, 1) := by decide +kernel
theorem d_C_put_19 : decode c_C_put 19 = .ok (.ireturn, 1) := by decide +kernel
theorem d_C_isParameter_0 : decode c_C_isParameter 0 = .ok (.iload_n 0, 1) := by decide +kernel
theorem d_C_isParameter_1 : decode c_C_isParameter 1 = .ok (.bipush 100, 2) := by decide +kernel
theorem d_C_isParameter_3 : decode c_C_isParameter 3 = .ok (.if_icmp .lt 14, 3) := by decide +kernel
theorem d_C_isParameter_6 : decode c_C_isParameter 6 = .ok (.iload_n 0, 1) := by decide +kernel
theorem d_C_isParameter_7 : decode c_C_isParameter 7 = .ok (.sipush 180, 3) := by decide +kernel
theorem d_C_isParameter_10 : decode c_C_isParameter 10 = .ok (.if_icmp .ge 7, 3) := by decide +kernel
theorem d_C_isParameter_13 : decode c_C_isParameter 13 = .ok (.iconst 1, 1) := by decide +kernel
theorem d_C_isParameter_14 : decode c_C_isParameter 14 = .ok (.goto 4, 3) := by decide +kernel
theorem d_C_isParameter_17 : decode c_C_isParameter 17 = .ok (.iconst 0, 1) := by decide +kernel
theorem d_C_isParameter_18 : decode c_C_isParameter 18 = .ok (.ireturn, 1) := by decide +kernel
theorem d_C_lambdaOfParameter_0 : decode c_C_lambdaOfParameter 0 = .ok (.iload_n 0, 1) := by decide +kernel
theorem d_C_lambdaOfParameter_1 : decode c_C_lambdaOfParameter 1 = .ok (.bipush 100, 2) := by decide +kernel
theorem d_C_lambdaOfParameter_3 : decode c_C_lambdaOfParameter 3 = .ok (.isub, 1) := by decide +kernel
theorem d_C_lambdaOfParameter_4 : decode c_C_lambdaOfParameter 4 = .ok (.bipush 10, 2) := by decide +kernel
theorem d_C_lambdaOfParameter_6 : decode c_C_lambdaOfParameter 6 = .ok (.idiv, 1) := by decide +kernel
theorem d_C_lambdaOfParameter_7 : decode c_C_lambdaOfParameter 7 = .ok (.ireturn, 1) := by decide +kernel
theorem d_C_indexOfParameter_0 : decode c_C_indexOfParameter 0 = .ok (.iload_n 0, 1) := by decide +kernel
theorem d_C_indexOfParameter_1 : decode c_C_indexOfParameter 1 = .ok (.bipush 100, 2) := by decide +kernel
theorem d_C_indexOfParameter_3 : decode c_C_indexOfParameter 3 = .ok (.isub, 1) := by decide +kernel
theorem d_C_indexOfParameter_4 : decode c_C_indexOfParameter 4 = .ok (.bipush 10, 2) := by decide +kernel
theorem d_C_indexOfParameter_6 : decode c_C_indexOfParameter 6 = .ok (.irem, 1) := by decide +kernel
theorem d_C_indexOfParameter_7 : decode c_C_indexOfParameter 7 = .ok (.ireturn, 1) := by decide +kernel
theorem d_C_has_0 : decode c_C_has 0 = .ok (.iload_n 0, 1) := by decide +kernel
theorem d_C_has_1 : decode c_C_has 1 = .ok (.iload_n 1, 1) := by decide +kernel
theorem d_C_has_2 : decode c_C_has 2 = .ok (.iushr, 1) := by decide +kernel
theorem d_C_has_3 : decode c_C_has 3 = .ok (.iconst 1, 1) := by decide +kernel
theorem d_C_has_4 : decode c_C_has 4 = .ok (.iand, 1) := by decide +kernel
theorem d_C_has_5 : decode c_C_has 5 = .ok (.ifCond .eq 7, 3) := by decide +kernel
theorem d_C_has_8 : decode c_C_has 8 = .ok (.iconst 1, 1) := by decide +kernel
theorem d_C_has_9 : decode c_C_has 9 = .ok (.goto 4, 3) := by decide +kernel
theorem d_C_has_12 : decode c_C_has 12 = .ok (.iconst 0, 1) := by decide +kernel
theorem d_C_has_13 : decode c_C_has 13 = .ok (.ireturn, 1) := by decide +kernel
theorem d_C_isLambda_0 : decode c_C_isLambda 0 = .ok (.iload_n 0, 1) := by decide +kernel
theorem d_C_isLambda_1 : decode c_C_isLambda 1 = .ok (.sipush 200, 3) := by decide +kernel
theorem d_C_isLambda_4 : decode c_C_isLambda 4 = .ok (.if_icmp .lt 14, 3) := by decide +kernel
theorem d_C_isLambda_7 : decode c_C_isLambda 7 = .ok (.iload_n 0, 1) := by decide +kernel
theorem d_C_isLambda_8 : decode c_C_isLambda 8 = .ok (.sipush 208, 3) := by decide +kernel
theorem d_C_isLambda_11 : decode c_C_isLambda 11 = .ok (.if_icmp .ge 7, 3) := by decide +kernel
theorem d_C_isLambda_14 : decode c_C_isLambda 14 = .ok (.iconst 1, 1) := by decide +kernel
theorem d_C_isLambda_15 : decode c_C_isLambda 15 = .ok (.goto 4, 3) := by decide +kernel
theorem d_C_isLambda_18 : decode c_C_isLambda 18 = .ok (.iconst 0, 1) := by decide +kernel
theorem d_C_isLambda_19 : decode c_C_isLambda 19 = .ok (.ireturn, 1) := by decide +kernel
theorem d_C_isNumber_0 : decode c_C_isNumber 0 = .ok (.iload_n 0, 1) := by decide +kernel
theorem d_C_isNumber_1 : decode c_C_isNumber 1 = .ok (.ifCond .lt 13, 3) := by decide +kernel
theorem d_C_isNumber_4 : decode c_C_isNumber 4 = .ok (.iload_n 0, 1) := by decide +kernel
theorem d_C_isNumber_5 : decode c_C_isNumber 5 = .ok (.bipush 10, 2) := by decide +kernel
theorem d_C_isNumber_7 : decode c_C_isNumber 7 = .ok (.if_icmp .ge 7, 3) := by decide +kernel
theorem d_C_isNumber_10 : decode c_C_isNumber 10 = .ok (.iconst 1, 1) := by decide +kernel
theorem d_C_isNumber_11 : decode c_C_isNumber 11 = .ok (.goto 4, 3) := by decide +kernel
theorem d_C_isNumber_14 : decode c_C_isNumber 14 = .ok (.iconst 0, 1) := by decide +kernel
theorem d_C_isNumber_15 : decode c_C_isNumber 15 = .ok (.ireturn, 1) := by decide +kernel
theorem d_C_isPrimitive_0 : decode c_C_isPrimitive 0 = .ok (.iload_n 0, 1) := by decide +kernel
theorem d_C_isPrimitive_1 : decode c_C_isPrimitive 1 = .ok (.sipush 300, 3) := by decide +kernel
theorem d_C_isPrimitive_4 : decode c_C_isPrimitive 4 = .ok (.if_icmp .lt 14, 3) := by decide +kernel
theorem d_C_isPrimitive_7 : decode c_C_isPrimitive 7 = .ok (.iload_n 0, 1) := by decide +kernel
theorem d_C_isPrimitive_8 : decode c_C_isPrimitive 8 = .ok (.sipush 302, 3) := by decide +kernel
theorem d_C_isPrimitive_11 : decode c_C_isPrimitive 11 = .ok (.if_icmp .gt 7, 3) := by decide +kernel
theorem d_C_isPrimitive_14 : decode c_C_isPrimitive 14 = .ok (.iconst 1, 1) := by decide +kernel
theorem d_C_isPrimitive_15 : decode c_C_isPrimitive 15 = .ok (.goto 4, 3) := by decide +kernel
theorem d_C_isPrimitive_18 : decode c_C_isPrimitive 18 = .ok (.iconst 0, 1) := by decide +kernel
theorem d_C_isPrimitive_19 : decode c_C_isPrimitive 19 = .ok (.ireturn, 1) := by decide +kernel
theorem d_C_clear_0 : decode c_C_clear 0 = .ok (.aload_n 0, 1) := by decide +kernel
theorem d_C_clear_1 : decode c_C_clear 1 = .ok (.getfield 10, 3) := by decide +kernel
theorem d_C_clear_4 : decode c_C_clear 4 = .ok (.invokevirtual 43, 3) := by decide +kernel
theorem d_C_clear_7 : decode c_C_clear 7 = .ok (.aload_n 0, 1) := by decide +kernel
theorem d_C_clear_8 : decode c_C_clear 8 = .ok (.invokevirtual 36, 3) := by decide +kernel
theorem d_C_clear_11 : decode c_C_clear 11 = .ok (.return_, 1) := by decide +kernel
theorem d_C_lambdas_0 : decode c_C_lambdas 0 = .ok (.aload_n 0, 1) := by decide +kernel
theorem d_C_lambdas_1 : decode c_C_lambdas 1 = .ok (.getfield 10, 3) := by decide +kernel
theorem d_C_lambdas_4 : decode c_C_lambdas 4 = .ok (.invokevirtual 46, 3) := by decide +kernel
theorem d_C_lambdas_7 : decode c_C_lambdas 7 = .ok (.ireturn, 1) := by decide +kernel
theorem d_C_atom_0 : decode c_C_atom 0 = .ok (.aload_n 0, 1) := by decide +kernel
theorem d_C_atom_1 : decode c_C_atom 1 = .ok (.getfield 10, 3) := by decide +kernel
theorem d_C_atom_4 : decode c_C_atom 4 = .ok (.iload_n 1, 1) := by decide +kernel
theorem d_C_atom_5 : decode c_C_atom 5 = .ok (.iload_n 2, 1) := by decide +kernel
theorem d_C_atom_6 : decode c_C_atom 6 = .ok (.invokevirtual 50, 3) := by decide +kernel
theorem d_C_atom_9 : decode c_C_atom 9 = .ok (.ifCond .eq 15, 3) := by decide +kernel
theorem d_C_atom_12 : decode c_C_atom 12 = .ok (.aload_n 0, 1) := by decide +kernel
theorem d_C_atom_13 : decode c_C_atom 13 = .ok (.getfield 10, 3) := by decide +kernel
theorem d_C_atom_16 : decode c_C_atom 16 = .ok (.iload_n 1, 1) := by decide +kernel
theorem d_C_atom_17 : decode c_C_atom 17 = .ok (.iload_n 2, 1) := by decide +kernel
theorem d_C_atom_18 : decode c_C_atom 18 = .ok (.invokevirtual 53, 3) := by decide +kernel
theorem d_C_atom_21 : decode c_C_atom 21 = .ok (.goto 4, 3) := by decide +kernel
theorem d_C_atom_24 : decode c_C_atom 24 = .ok (.iconst (-1), 1) := by decide +kernel
theorem d_C_atom_25 : decode c_C_atom 25 = .ok (.ireturn, 1) := by decide +kernel
theorem d_C_start_0 : decode c_C_start 0 = .ok (.aload_n 0, 1) := by decide +kernel
theorem d_C_start_1 : decode c_C_start 1 = .ok (.getfield 21, 3) := by decide +kernel
theorem d_C_start_4 : decode c_C_start 4 = .ok (.invokevirtual 56, 3) := by decide +kernel
theorem d_C_start_7 : decode c_C_start 7 = .ok (.return_, 1) := by decide +kernel
theorem d_C_step_0 : decode c_C_step 0 = .ok (.iload_n 1, 1) := by decide +kernel
theorem d_C_step_1 : decode c_C_step 1 = .ok (.ifCond .lt 19, 3) := by decide +kernel
theorem d_C_step_4 : decode c_C_step 4 = .ok (.iload_n 1, 1) := by decide +kernel
theorem d_C_step_5 : decode c_C_step 5 = .ok (.bipush 100, 2) := by decide +kernel
theorem d_C_step_7 : decode c_C_step 7 = .ok (.if_icmp .gt 13, 3) := by decide +kernel
theorem d_C_step_10 : decode c_C_step 10 = .ok (.aload_n 0, 1) := by decide +kernel
theorem d_C_step_11 : decode c_C_step 11 = .ok (.getfield 21, 3) := by decide +kernel
theorem d_C_step_14 : decode c_C_step 14 = .ok (.invokevirtual 59, 3) := by decide +kernel
theorem d_C_step_17 : decode c_C_step 17 = .ok (.ifCond .ne 5, 3) := by decide +kernel
theorem d_C_step_20 : decode c_C_step 20 = .ok (.iconst (-1), 1) := by decide +kernel
theorem d_C_step_21 : decode c_C_step 21 = .ok (.ireturn, 1) := by decide +kernel
theorem d_C_step_22 : decode c_C_step 22 = .ok (.aload_n 0, 1) := by decide +kernel
theorem d_C_step_23 : decode c_C_step 23 = .ok (.getfield 21, 3) := by decide +kernel
theorem d_C_step_26 : decode c_C_step 26 = .ok (.iload_n 1, 1) := by decide +kernel
theorem d_C_step_27 : decode c_C_step 27 = .ok (.invokevirtual 63, 3) := by decide +kernel
theorem d_C_step_30 : decode c_C_step 30 = .ok (.ireturn, 1) := by decide +kernel
theorem d_C_told_0 : decode c_C_told 0 = .ok (.iload_n 0, 1) := by decide +kernel
theorem d_C_told_1 : decode c_C_told 1 = .ok (.sipush 1000, 3) := by decide +kernel
theorem d_C_told_4 : decode c_C_told 4 = .ok (.irem, 1) := by decide +kernel
theorem d_C_told_5 : decode c_C_told 5 = .ok (.ireturn, 1) := by decide +kernel
theorem d_C_state_0 : decode c_C_state 0 = .ok (.aload_n 0, 1) := by decide +kernel
theorem d_C_state_1 : decode c_C_state 1 = .ok (.getfield 21, 3) := by decide +kernel
theorem d_C_state_4 : decode c_C_state 4 = .ok (.invokevirtual 67, 3) := by decide +kernel
theorem d_C_state_7 : decode c_C_state 7 = .ok (.ireturn, 1) := by decide +kernel
theorem d_C_at_0 : decode c_C_at 0 = .ok (.aload_n 0, 1) := by decide +kernel
theorem d_C_at_1 : decode c_C_at 1 = .ok (.getfield 21, 3) := by decide +kernel
theorem d_C_at_4 : decode c_C_at 4 = .ok (.invokevirtual 59, 3) := by decide +kernel
theorem d_C_at_7 : decode c_C_at 7 = .ok (.ifCond .eq 13, 3) := by decide +kernel
theorem d_C_at_10 : decode c_C_at 10 = .ok (.aload_n 0, 1) := by decide +kernel
theorem d_C_at_11 : decode c_C_at 11 = .ok (.getfield 21, 3) := by decide +kernel
theorem d_C_at_14 : decode c_C_at 14 = .ok (.invokevirtual 70, 3) := by decide +kernel
theorem d_C_at_17 : decode c_C_at 17 = .ok (.goto 4, 3) := by decide +kernel
theorem d_C_at_20 : decode c_C_at 20 = .ok (.iconst (-1), 1) := by decide +kernel
theorem d_C_at_21 : decode c_C_at 21 = .ok (.ireturn, 1) := by decide +kernel
theorem d_C_value_0 : decode c_C_value 0 = .ok (.aload_n 0, 1) := by decide +kernel
theorem d_C_value_1 : decode c_C_value 1 = .ok (.getfield 21, 3) := by decide +kernel
theorem d_C_value_4 : decode c_C_value 4 = .ok (.invokevirtual 59, 3) := by decide +kernel
theorem d_C_value_7 : decode c_C_value 7 = .ok (.ifCond .eq 18, 3) := by decide +kernel
theorem d_C_value_10 : decode c_C_value 10 = .ok (.aload_n 0, 1) := by decide +kernel
theorem d_C_value_11 : decode c_C_value 11 = .ok (.getfield 21, 3) := by decide +kernel
theorem d_C_value_14 : decode c_C_value 14 = .ok (.iload_n 1, 1) := by decide +kernel
theorem d_C_value_15 : decode c_C_value 15 = .ok (.iload_n 2, 1) := by decide +kernel
theorem d_C_value_16 : decode c_C_value 16 = .ok (.invokevirtual 73, 3) := by decide +kernel
theorem d_C_value_19 : decode c_C_value 19 = .ok (.invokestatic 76, 3) := by decide +kernel
theorem d_C_value_22 : decode c_C_value 22 = .ok (.goto 4, 3) := by decide +kernel
theorem d_C_value_25 : decode c_C_value 25 = .ok (.iconst (-1), 1) := by decide +kernel
theorem d_C_value_26 : decode c_C_value 26 = .ok (.ireturn, 1) := by decide +kernel
theorem d_C_result_0 : decode c_C_result 0 = .ok (.aload_n 0, 1) := by decide +kernel
theorem d_C_result_1 : decode c_C_result 1 = .ok (.getfield 21, 3) := by decide +kernel
theorem d_C_result_4 : decode c_C_result 4 = .ok (.invokevirtual 67, 3) := by decide +kernel
theorem d_C_result_7 : decode c_C_result 7 = .ok (.iconst 2, 1) := by decide +kernel
theorem d_C_result_8 : decode c_C_result 8 = .ok (.if_icmp .ne 16, 3) := by decide +kernel
theorem d_C_result_11 : decode c_C_result 11 = .ok (.aload_n 0, 1) := by decide +kernel
theorem d_C_result_12 : decode c_C_result 12 = .ok (.getfield 21, 3) := by decide +kernel
theorem d_C_result_15 : decode c_C_result 15 = .ok (.invokevirtual 79, 3) := by decide +kernel
theorem d_C_result_18 : decode c_C_result 18 = .ok (.invokestatic 76, 3) := by decide +kernel
theorem d_C_result_21 : decode c_C_result 21 = .ok (.goto 4, 3) := by decide +kernel
theorem d_C_result_24 : decode c_C_result 24 = .ok (.iconst (-1), 1) := by decide +kernel
theorem d_C_result_25 : decode c_C_result 25 = .ok (.ireturn, 1) := by decide +kernel
theorem d_C_called_0 : decode c_C_called 0 = .ok (.aload_n 0, 1) := by decide +kernel
theorem d_C_called_1 : decode c_C_called 1 = .ok (.getfield 21, 3) := by decide +kernel
theorem d_C_called_4 : decode c_C_called 4 = .ok (.invokevirtual 59, 3) := by decide +kernel
theorem d_C_called_7 : decode c_C_called 7 = .ok (.ifCond .eq 25, 3) := by decide +kernel
theorem d_C_called_10 : decode c_C_called 10 = .ok (.aload_n 0, 1) := by decide +kernel
theorem d_C_called_11 : decode c_C_called 11 = .ok (.getfield 10, 3) := by decide +kernel
theorem d_C_called_14 : decode c_C_called 14 = .ok (.iload_n 1, 1) := by decide +kernel
theorem d_C_called_15 : decode c_C_called 15 = .ok (.invokevirtual 82, 3) := by decide +kernel
theorem d_C_called_18 : decode c_C_called 18 = .ok (.ifCond .eq 14, 3) := by decide +kernel
theorem d_C_called_21 : decode c_C_called 21 = .ok (.aload_n 0, 1) := by decide +kernel
theorem d_C_called_22 : decode c_C_called 22 = .ok (.getfield 21, 3) := by decide +kernel
theorem d_C_called_25 : decode c_C_called 25 = .ok (.iload_n 1, 1) := by decide +kernel
theorem d_C_called_26 : decode c_C_called 26 = .ok (.invokevirtual 86, 3) := by decide +kernel
theorem d_C_called_29 : decode c_C_called 29 = .ok (.goto 4, 3) := by decide +kernel
theorem d_C_called_32 : decode c_C_called 32 = .ok (.iconst (-1), 1) := by decide +kernel
theorem d_C_called_33 : decode c_C_called 33 = .ok (.ireturn, 1) := by decide +kernel
theorem d_C_analyse_0 : decode c_C_analyse 0 = .ok (.iload_n 1, 1) := by decide +kernel
theorem d_C_analyse_1 : decode c_C_analyse 1 = .ok (.ifCond .eq 8, 3) := by decide +kernel
theorem d_C_analyse_4 : decode c_C_analyse 4 = .ok (.iload_n 1, 1) := by decide +kernel
theorem d_C_analyse_5 : decode c_C_analyse 5 = .ok (.iconst 1, 1) := by decide +kernel
theorem d_C_analyse_6 : decode c_C_analyse 6 = .ok (.if_icmp .ne 14, 3) := by decide +kernel
theorem d_C_analyse_9 : decode c_C_analyse 9 = .ok (.aload_n 0, 1) := by decide +kernel
theorem d_C_analyse_10 : decode c_C_analyse 10 = .ok (.getfield 28, 3) := by decide +kernel
theorem d_C_analyse_13 : decode c_C_analyse 13 = .ok (.iload_n 1, 1) := by decide +kernel
theorem d_C_analyse_14 : decode c_C_analyse 14 = .ok (.invokevirtual 89, 3) := by decide +kernel
theorem d_C_analyse_17 : decode c_C_analyse 17 = .ok (.goto 4, 3) := by decide +kernel
theorem d_C_analyse_20 : decode c_C_analyse 20 = .ok (.iconst (-1), 1) := by decide +kernel
theorem d_C_analyse_21 : decode c_C_analyse 21 = .ok (.ireturn, 1) := by decide +kernel
theorem d_C_flow_0 : decode c_C_flow 0 = .ok (.aload_n 0, 1) := by decide +kernel
theorem d_C_flow_1 : decode c_C_flow 1 = .ok (.getfield 28, 3) := by decide +kernel
theorem d_C_flow_4 : decode c_C_flow 4 = .ok (.invokevirtual 92, 3) := by decide +kernel
theorem d_C_flow_7 : decode c_C_flow 7 = .ok (.ifCond .eq 25, 3) := by decide +kernel
theorem d_C_flow_10 : decode c_C_flow 10 = .ok (.aload_n 0, 1) := by decide +kernel
theorem d_C_flow_11 : decode c_C_flow 11 = .ok (.getfield 10, 3) := by decide +kernel
theorem d_C_flow_14 : decode c_C_flow 14 = .ok (.iload_n 1, 1) := by decide +kernel
theorem d_C_flow_15 : decode c_C_flow 15 = .ok (.invokevirtual 82, 3) := by decide +kernel
theorem d_C_flow_18 : decode c_C_flow 18 = .ok (.ifCond .eq 14, 3) := by decide +kernel
theorem d_C_flow_21 : decode c_C_flow 21 = .ok (.aload_n 0, 1) := by decide +kernel
theorem d_C_flow_22 : decode c_C_flow 22 = .ok (.getfield 28, 3) := by decide +kernel
theorem d_C_flow_25 : decode c_C_flow 25 = .ok (.iload_n 1, 1) := by decide +kernel
theorem d_C_flow_26 : decode c_C_flow 26 = .ok (.invokevirtual 95, 3) := by decide +kernel
theorem d_C_flow_29 : decode c_C_flow 29 = .ok (.goto 4, 3) := by decide +kernel
theorem d_C_flow_32 : decode c_C_flow 32 = .ok (.iconst (-1), 1) := by decide +kernel
theorem d_C_flow_33 : decode c_C_flow 33 = .ok (.ireturn, 1) := by decide +kernel
theorem d_C_contours_0 : decode c_C_contours 0 = .ok (.aload_n 0, 1) := by decide +kernel
theorem d_C_contours_1 : decode c_C_contours 1 = .ok (.getfield 28, 3) := by decide +kernel
theorem d_C_contours_4 : decode c_C_contours 4 = .ok (.invokevirtual 92, 3) := by decide +kernel
theorem d_C_contours_7 : decode c_C_contours 7 = .ok (.ifCond .eq 25, 3) := by decide +kernel
theorem d_C_contours_10 : decode c_C_contours 10 = .ok (.aload_n 0, 1) := by decide +kernel
theorem d_C_contours_11 : decode c_C_contours 11 = .ok (.getfield 10, 3) := by decide +kernel
theorem d_C_contours_14 : decode c_C_contours 14 = .ok (.iload_n 1, 1) := by decide +kernel
theorem d_C_contours_15 : decode c_C_contours 15 = .ok (.invokevirtual 82, 3) := by decide +kernel
theorem d_C_contours_18 : decode c_C_contours 18 = .ok (.ifCond .eq 14, 3) := by decide +kernel
theorem d_C_contours_21 : decode c_C_contours 21 = .ok (.aload_n 0, 1) := by decide +kernel
theorem d_C_contours_22 : decode c_C_contours 22 = .ok (.getfield 28, 3) := by decide +kernel
theorem d_C_contours_25 : decode c_C_contours 25 = .ok (.iload_n 1, 1) := by decide +kernel
theorem d_C_contours_26 : decode c_C_contours 26 = .ok (.invokevirtual 98, 3) := by decide +kernel
theorem d_C_contours_29 : decode c_C_contours 29 = .ok (.goto 4, 3) := by decide +kernel
theorem d_C_contours_32 : decode c_C_contours 32 = .ok (.iconst (-1), 1) := by decide +kernel
theorem d_C_contours_33 : decode c_C_contours 33 = .ok (.ireturn, 1) := by decide +kernel
theorem d_C_constants_0 : decode c_C_constants 0 = .ok (.aload_n 0, 1) := by decide +kernel
theorem d_C_constants_1 : decode c_C_constants 1 = .ok (.getfield 28, 3) := by decide +kernel
theorem d_C_constants_4 : decode c_C_constants 4 = .ok (.invokevirtual 92, 3) := by decide +kernel
theorem d_C_constants_7 : decode c_C_constants 7 = .ok (.ifCond .eq 27, 3) := by decide +kernel
theorem d_C_constants_10 : decode c_C_constants 10 = .ok (.aload_n 0, 1) := by decide +kernel
theorem d_C_constants_11 : decode c_C_constants 11 = .ok (.getfield 10, 3) := by decide +kernel
theorem d_C_constants_14 : decode c_C_constants 14 = .ok (.iload_n 1, 1) := by decide +kernel
theorem d_C_constants_15 : decode c_C_constants 15 = .ok (.iload_n 2, 1) := by decide +kernel
theorem d_C_constants_16 : decode c_C_constants 16 = .ok (.invokevirtual 101, 3) := by decide +kernel
theorem d_C_constants_19 : decode c_C_constants 19 = .ok (.ifCond .eq 15, 3) := by decide +kernel
theorem d_C_constants_22 : decode c_C_constants 22 = .ok (.aload_n 0, 1) := by decide +kernel
theorem d_C_constants_23 : decode c_C_constants 23 = .ok (.getfield 28, 3) := by decide +kernel
theorem d_C_constants_26 : decode c_C_constants 26 = .ok (.iload_n 1, 1) := by decide +kernel
theorem d_C_constants_27 : decode c_C_constants 27 = .ok (.iload_n 2, 1) := by decide +kernel
theorem d_C_constants_28 : decode c_C_constants 28 = .ok (.invokevirtual 104, 3) := by decide +kernel
theorem d_C_constants_31 : decode c_C_constants 31 = .ok (.goto 4, 3) := by decide +kernel
theorem d_C_constants_34 : decode c_C_constants 34 = .ok (.iconst (-1), 1) := by decide +kernel
theorem d_C_constants_35 : decode c_C_constants 35 = .ok (.ireturn, 1) := by decide +kernel
theorem d_C_closures_0 : decode c_C_closures 0 = .ok (.aload_n 0, 1) := by decide +kernel
theorem d_C_closures_1 : decode c_C_closures 1 = .ok (.getfield 28, 3) := by decide +kernel
theorem d_C_closures_4 : decode c_C_closures 4 = .ok (.invokevirtual 92, 3) := by decide +kernel
theorem d_C_closures_7 : decode c_C_closures 7 = .ok (.ifCond .eq 27, 3) := by decide +kernel
theorem d_C_closures_10 : decode c_C_closures 10 = .ok (.aload_n 0, 1) := by decide +kernel
theorem d_C_closures_11 : decode c_C_closures 11 = .ok (.getfield 10, 3) := by decide +kernel
theorem d_C_closures_14 : decode c_C_closures 14 = .ok (.iload_n 1, 1) := by decide +kernel
theorem d_C_closures_15 : decode c_C_closures 15 = .ok (.iload_n 2, 1) := by decide +kernel
theorem d_C_closures_16 : decode c_C_closures 16 = .ok (.invokevirtual 101, 3) := by decide +kernel
theorem d_C_closures_19 : decode c_C_closures 19 = .ok (.ifCond .eq 15, 3) := by decide +kernel
theorem d_C_closures_22 : decode c_C_closures 22 = .ok (.aload_n 0, 1) := by decide +kernel
theorem d_C_closures_23 : decode c_C_closures 23 = .ok (.getfield 28, 3) := by decide +kernel
theorem d_C_closures_26 : decode c_C_closures 26 = .ok (.iload_n 1, 1) := by decide +kernel
theorem d_C_closures_27 : decode c_C_closures 27 = .ok (.iload_n 2, 1) := by decide +kernel
theorem d_C_closures_28 : decode c_C_closures 28 = .ok (.invokevirtual 107, 3) := by decide +kernel
theorem d_C_closures_31 : decode c_C_closures 31 = .ok (.goto 4, 3) := by decide +kernel
theorem d_C_closures_34 : decode c_C_closures 34 = .ok (.iconst (-1), 1) := by decide +kernel
theorem d_C_closures_35 : decode c_C_closures 35 = .ok (.ireturn, 1) := by decide +kernel
theorem d_C_results_0 : decode c_C_results 0 = .ok (.aload_n 0, 1) := by decide +kernel
theorem d_C_results_1 : decode c_C_results 1 = .ok (.getfield 28, 3) := by decide +kernel
theorem d_C_results_4 : decode c_C_results 4 = .ok (.invokevirtual 92, 3) := by decide +kernel
theorem d_C_results_7 : decode c_C_results 7 = .ok (.ifCond .eq 13, 3) := by decide +kernel
theorem d_C_results_10 : decode c_C_results 10 = .ok (.aload_n 0, 1) := by decide +kernel
theorem d_C_results_11 : decode c_C_results 11 = .ok (.getfield 28, 3) := by decide +kernel
theorem d_C_results_14 : decode c_C_results 14 = .ok (.invokevirtual 110, 3) := by decide +kernel
theorem d_C_results_17 : decode c_C_results 17 = .ok (.goto 4, 3) := by decide +kernel
theorem d_C_results_20 : decode c_C_results 20 = .ok (.iconst (-1), 1) := by decide +kernel
theorem d_C_results_21 : decode c_C_results 21 = .ok (.ireturn, 1) := by decide +kernel
end
section
theorem d_JA_fill_0 : decode c_JA_fill 0 = .ok (.iconst 0, 1) := by decide +kernel
theorem d_JA_fill_1 : decode c_JA_fill 1 = .ok (.istore_n 2, 1) := by decide +kernel
theorem d_JA_fill_2 : decode c_JA_fill 2 = .ok (.aload_n 0, 1) := by decide +kernel
theorem d_JA_fill_3 : decode c_JA_fill 3 = .ok (.arraylength, 1) := by decide +kernel
theorem d_JA_fill_4 : decode c_JA_fill 4 = .ok (.istore_n 3, 1) := by decide +kernel
theorem d_JA_fill_5 : decode c_JA_fill 5 = .ok (.iload_n 2, 1) := by decide +kernel
theorem d_JA_fill_6 : decode c_JA_fill 6 = .ok (.iload_n 3, 1) := by decide +kernel
theorem d_JA_fill_7 : decode c_JA_fill 7 = .ok (.if_icmp .ge 13, 3) := by decide +kernel
theorem d_JA_fill_10 : decode c_JA_fill 10 = .ok (.aload_n 0, 1) := by decide +kernel
theorem d_JA_fill_11 : decode c_JA_fill 11 = .ok (.iload_n 2, 1) := by decide +kernel
theorem d_JA_fill_12 : decode c_JA_fill 12 = .ok (.iload_n 1, 1) := by decide +kernel
theorem d_JA_fill_13 : decode c_JA_fill 13 = .ok (.iastore, 1) := by decide +kernel
theorem d_JA_fill_14 : decode c_JA_fill 14 = .ok (.iinc 2 1, 3) := by decide +kernel
theorem d_JA_fill_17 : decode c_JA_fill 17 = .ok (.goto (-12), 3) := by decide +kernel
theorem d_JA_fill_20 : decode c_JA_fill 20 = .ok (.return_, 1) := by decide +kernel
theorem d_JA_fill_JJV_0 : decode c_JA_fill_JJV 0 = .ok (.iconst 0, 1) := by decide +kernel
theorem d_JA_fill_JJV_1 : decode c_JA_fill_JJV 1 = .ok (.istore_n 3, 1) := by decide +kernel
theorem d_JA_fill_JJV_2 : decode c_JA_fill_JJV 2 = .ok (.aload_n 0, 1) := by decide +kernel
theorem d_JA_fill_JJV_3 : decode c_JA_fill_JJV 3 = .ok (.arraylength, 1) := by decide +kernel
theorem d_JA_fill_JJV_4 : decode c_JA_fill_JJV 4 = .ok (.istore 4, 2) := by decide +kernel
theorem d_JA_fill_JJV_6 : decode c_JA_fill_JJV 6 = .ok (.iload_n 3, 1) := by decide +kernel
theorem d_JA_fill_JJV_7 : decode c_JA_fill_JJV 7 = .ok (.iload 4, 2) := by decide +kernel
theorem d_JA_fill_JJV_9 : decode c_JA_fill_JJV 9 = .ok (.if_icmp .ge 13, 3) := by decide +kernel
theorem d_JA_fill_JJV_12 : decode c_JA_fill_JJV 12 = .ok (.aload_n 0, 1) := by decide +kernel
theorem d_JA_fill_JJV_13 : decode c_JA_fill_JJV 13 = .ok (.iload_n 3, 1) := by decide +kernel
theorem d_JA_fill_JJV_14 : decode c_JA_fill_JJV 14 = .ok (.lload_n 1, 1) := by decide +kernel
theorem d_JA_fill_JJV_15 : decode c_JA_fill_JJV 15 = .ok (.lastore, 1) := by decide +kernel
theorem d_JA_fill_JJV_16 : decode c_JA_fill_JJV 16 = .ok (.iinc 3 1, 3) := by decide +kernel
theorem d_JA_fill_JJV_19 : decode c_JA_fill_JJV 19 = .ok (.goto (-13), 3) := by decide +kernel
theorem d_JA_fill_JJV_22 : decode c_JA_fill_JJV 22 = .ok (.return_, 1) := by decide +kernel
theorem d_JL_bitCount_0 : decode c_JL_bitCount 0 = .ok (.lload_n 0, 1) := by decide +kernel
theorem d_JL_bitCount_1 : decode c_JL_bitCount 1 = .ok (.lload_n 0, 1) := by decide +kernel
theorem d_JL_bitCount_2 : decode c_JL_bitCount 2 = .ok (.iconst 1, 1) := by decide +kernel
theorem d_JL_bitCount_3 : decode c_JL_bitCount 3 = .ok (.lushr, 1) := by decide +kernel
theorem d_JL_bitCount_4 : decode c_JL_bitCount 4 = .ok (.ldc2_w 314, 3) := by decide +kernel
theorem d_JL_bitCount_7 : decode c_JL_bitCount 7 = .ok (.land, 1) := by decide +kernel
theorem d_JL_bitCount_8 : decode c_JL_bitCount 8 = .ok (.lsub, 1) := by decide +kernel
theorem d_JL_bitCount_9 : decode c_JL_bitCount 9 = .ok (.lstore_n 0, 1) := by decide +kernel
theorem d_JL_bitCount_10 : decode c_JL_bitCount 10 = .ok (.lload_n 0, 1) := by decide +kernel
theorem d_JL_bitCount_11 : decode c_JL_bitCount 11 = .ok (.ldc2_w 316, 3) := by decide +kernel
theorem d_JL_bitCount_14 : decode c_JL_bitCount 14 = .ok (.land, 1) := by decide +kernel
theorem d_JL_bitCount_15 : decode c_JL_bitCount 15 = .ok (.lload_n 0, 1) := by decide +kernel
theorem d_JL_bitCount_16 : decode c_JL_bitCount 16 = .ok (.iconst 2, 1) := by decide +kernel
theorem d_JL_bitCount_17 : decode c_JL_bitCount 17 = .ok (.lushr, 1) := by decide +kernel
theorem d_JL_bitCount_18 : decode c_JL_bitCount 18 = .ok (.ldc2_w 316, 3) := by decide +kernel
theorem d_JL_bitCount_21 : decode c_JL_bitCount 21 = .ok (.land, 1) := by decide +kernel
theorem d_JL_bitCount_22 : decode c_JL_bitCount 22 = .ok (.ladd, 1) := by decide +kernel
theorem d_JL_bitCount_23 : decode c_JL_bitCount 23 = .ok (.lstore_n 0, 1) := by decide +kernel
theorem d_JL_bitCount_24 : decode c_JL_bitCount 24 = .ok (.lload_n 0, 1) := by decide +kernel
theorem d_JL_bitCount_25 : decode c_JL_bitCount 25 = .ok (.lload_n 0, 1) := by decide +kernel
theorem d_JL_bitCount_26 : decode c_JL_bitCount 26 = .ok (.iconst 4, 1) := by decide +kernel
theorem d_JL_bitCount_27 : decode c_JL_bitCount 27 = .ok (.lushr, 1) := by decide +kernel
theorem d_JL_bitCount_28 : decode c_JL_bitCount 28 = .ok (.ladd, 1) := by decide +kernel
theorem d_JL_bitCount_29 : decode c_JL_bitCount 29 = .ok (.ldc2_w 318, 3) := by decide +kernel
theorem d_JL_bitCount_32 : decode c_JL_bitCount 32 = .ok (.land, 1) := by decide +kernel
theorem d_JL_bitCount_33 : decode c_JL_bitCount 33 = .ok (.lstore_n 0, 1) := by decide +kernel
theorem d_JL_bitCount_34 : decode c_JL_bitCount 34 = .ok (.lload_n 0, 1) := by decide +kernel
theorem d_JL_bitCount_35 : decode c_JL_bitCount 35 = .ok (.lload_n 0, 1) := by decide +kernel
theorem d_JL_bitCount_36 : decode c_JL_bitCount 36 = .ok (.bipush 8, 2) := by decide +kernel
theorem d_JL_bitCount_38 : decode c_JL_bitCount 38 = .ok (.lushr, 1) := by decide +kernel
theorem d_JL_bitCount_39 : decode c_JL_bitCount 39 = .ok (.ladd, 1) := by decide +kernel
theorem d_JL_bitCount_40 : decode c_JL_bitCount 40 = .ok (.lstore_n 0, 1) := by decide +kernel
theorem d_JL_bitCount_41 : decode c_JL_bitCount 41 = .ok (.lload_n 0, 1) := by decide +kernel
theorem d_JL_bitCount_42 : decode c_JL_bitCount 42 = .ok (.lload_n 0, 1) := by decide +kernel
theorem d_JL_bitCount_43 : decode c_JL_bitCount 43 = .ok (.bipush 16, 2) := by decide +kernel
theorem d_JL_bitCount_45 : decode c_JL_bitCount 45 = .ok (.lushr, 1) := by decide +kernel
theorem d_JL_bitCount_46 : decode c_JL_bitCount 46 = .ok (.ladd, 1) := by decide +kernel
theorem d_JL_bitCount_47 : decode c_JL_bitCount 47 = .ok (.lstore_n 0, 1) := by decide +kernel
theorem d_JL_bitCount_48 : decode c_JL_bitCount 48 = .ok (.lload_n 0, 1) := by decide +kernel
theorem d_JL_bitCount_49 : decode c_JL_bitCount 49 = .ok (.lload_n 0, 1) := by decide +kernel
theorem d_JL_bitCount_50 : decode c_JL_bitCount 50 = .ok (.bipush 32, 2) := by decide +kernel
theorem d_JL_bitCount_52 : decode c_JL_bitCount 52 = .ok (.lushr, 1) := by decide +kernel
theorem d_JL_bitCount_53 : decode c_JL_bitCount 53 = .ok (.ladd, 1) := by decide +kernel
theorem d_JL_bitCount_54 : decode c_JL_bitCount 54 = .ok (.lstore_n 0, 1) := by decide +kernel
theorem d_JL_bitCount_55 : decode c_JL_bitCount 55 = .ok (.lload_n 0, 1) := by decide +kernel
theorem d_JL_bitCount_56 : decode c_JL_bitCount 56 = .ok (.l2i, 1) := by decide +kernel
theorem d_JL_bitCount_57 : decode c_JL_bitCount 57 = .ok (.bipush 127, 2) := by decide +kernel
theorem d_JL_bitCount_59 : decode c_JL_bitCount 59 = .ok (.iand, 1) := by decide +kernel
theorem d_JL_bitCount_60 : decode c_JL_bitCount 60 = .ok (.ireturn, 1) := by decide +kernel
end
section
theorem d_R_init_0 : decode c_R_init 0 = .ok (.aload_n 0, 1) := by decide +kernel
theorem d_R_init_1 : decode c_R_init 1 = .ok (.invokespecial 1, 3) := by decide +kernel
theorem d_R_init_4 : decode c_R_init 4 = .ok (.aload_n 0, 1) := by decide +kernel
theorem d_R_init_5 : decode c_R_init 5 = .ok (.iconst 1, 1) := by decide +kernel
theorem d_R_init_6 : decode c_R_init 6 = .ok (.putfield 7, 3) := by decide +kernel
theorem d_R_init_9 : decode c_R_init 9 = .ok (.aload_n 0, 1) := by decide +kernel
theorem d_R_init_10 : decode c_R_init 10 = .ok (.bipush 8, 2) := by decide +kernel
theorem d_R_init_12 : decode c_R_init 12 = .ok (.newarray .int, 2) := by decide +kernel
theorem d_R_init_14 : decode c_R_init 14 = .ok (.putfield 13, 3) := by decide +kernel
theorem d_R_init_17 : decode c_R_init 17 = .ok (.aload_n 0, 1) := by decide +kernel
theorem d_R_init_18 : decode c_R_init 18 = .ok (.bipush 8, 2) := by decide +kernel
theorem d_R_init_20 : decode c_R_init 20 = .ok (.newarray .int, 2) := by decide +kernel
theorem d_R_init_22 : decode c_R_init 22 = .ok (.putfield 17, 3) := by decide +kernel
theorem d_R_init_25 : decode c_R_init 25 = .ok (.aload_n 0, 1) := by decide +kernel
theorem d_R_init_26 : decode c_R_init 26 = .ok (.bipush 8, 2) := by decide +kernel
theorem d_R_init_28 : decode c_R_init 28 = .ok (.newarray .int, 2) := by decide +kernel
theorem d_R_init_30 : decode c_R_init 30 = .ok (.putfield 20, 3) := by decide +kernel
theorem d_R_init_33 : decode c_R_init 33 = .ok (.aload_n 0, 1) := by decide +kernel
theorem d_R_init_34 : decode c_R_init 34 = .ok (.bipush 32, 2) := by decide +kernel
theorem d_R_init_36 : decode c_R_init 36 = .ok (.newarray .int, 2) := by decide +kernel
theorem d_R_init_38 : decode c_R_init 38 = .ok (.putfield 23, 3) := by decide +kernel
theorem d_R_init_41 : decode c_R_init 41 = .ok (.aload_n 0, 1) := by decide +kernel
theorem d_R_init_42 : decode c_R_init 42 = .ok (.bipush 8, 2) := by decide +kernel
theorem d_R_init_44 : decode c_R_init 44 = .ok (.newarray .int, 2) := by decide +kernel
theorem d_R_init_46 : decode c_R_init 46 = .ok (.putfield 26, 3) := by decide +kernel
theorem d_R_init_49 : decode c_R_init 49 = .ok (.aload_n 0, 1) := by decide +kernel
theorem d_R_init_50 : decode c_R_init 50 = .ok (.bipush 65, 2) := by decide +kernel
theorem d_R_init_52 : decode c_R_init 52 = .ok (.newarray .int, 2) := by decide +kernel
theorem d_R_init_54 : decode c_R_init 54 = .ok (.putfield 29, 3) := by decide +kernel
theorem d_R_init_57 : decode c_R_init 57 = .ok (.aload_n 0, 1) := by decide +kernel
theorem d_R_init_58 : decode c_R_init 58 = .ok (.bipush 65, 2) := by decide +kernel
theorem d_R_init_60 : decode c_R_init 60 = .ok (.newarray .int, 2) := by decide +kernel
theorem d_R_init_62 : decode c_R_init 62 = .ok (.putfield 32, 3) := by decide +kernel
theorem d_R_init_65 : decode c_R_init 65 = .ok (.aload_n 0, 1) := by decide +kernel
theorem d_R_init_66 : decode c_R_init 66 = .ok (.sipush 195, 3) := by decide +kernel
theorem d_R_init_69 : decode c_R_init 69 = .ok (.newarray .int, 2) := by decide +kernel
theorem d_R_init_71 : decode c_R_init 71 = .ok (.putfield 35, 3) := by decide +kernel
theorem d_R_init_74 : decode c_R_init 74 = .ok (.aload_n 0, 1) := by decide +kernel
theorem d_R_init_75 : decode c_R_init 75 = .ok (.iconst 4, 1) := by decide +kernel
theorem d_R_init_76 : decode c_R_init 76 = .ok (.newarray .int, 2) := by decide +kernel
theorem d_R_init_78 : decode c_R_init 78 = .ok (.putfield 38, 3) := by decide +kernel
theorem d_R_init_81 : decode c_R_init 81 = .ok (.aload_n 0, 1) := by decide +kernel
theorem d_R_init_82 : decode c_R_init 82 = .ok (.sipush 192, 3) := by decide +kernel
theorem d_R_init_85 : decode c_R_init 85 = .ok (.newarray .int, 2) := by decide +kernel
theorem d_R_init_87 : decode c_R_init 87 = .ok (.putfield 41, 3) := by decide +kernel
theorem d_R_init_90 : decode c_R_init 90 = .ok (.aload_n 0, 1) := by decide +kernel
theorem d_R_init_91 : decode c_R_init 91 = .ok (.sipush 192, 3) := by decide +kernel
theorem d_R_init_94 : decode c_R_init 94 = .ok (.newarray .long, 2) := by decide +kernel
theorem d_R_init_96 : decode c_R_init 96 = .ok (.putfield 44, 3) := by decide +kernel
theorem d_R_init_99 : decode c_R_init 99 = .ok (.aload_n 0, 1) := by decide +kernel
theorem d_R_init_100 : decode c_R_init 100 = .ok (.bipush 8, 2) := by decide +kernel
theorem d_R_init_102 : decode c_R_init 102 = .ok (.newarray .int, 2) := by decide +kernel
theorem d_R_init_104 : decode c_R_init 104 = .ok (.putfield 48, 3) := by decide +kernel
theorem d_R_init_107 : decode c_R_init 107 = .ok (.aload_n 0, 1) := by decide +kernel
theorem d_R_init_108 : decode c_R_init 108 = .ok (.iconst 4, 1) := by decide +kernel
theorem d_R_init_109 : decode c_R_init 109 = .ok (.newarray .int, 2) := by decide +kernel
theorem d_R_init_111 : decode c_R_init 111 = .ok (.putfield 51, 3) := by decide +kernel
theorem d_R_init_114 : decode c_R_init 114 = .ok (.aload_n 0, 1) := by decide +kernel
theorem d_R_init_115 : decode c_R_init 115 = .ok (.iconst 4, 1) := by decide +kernel
theorem d_R_init_116 : decode c_R_init 116 = .ok (.newarray .long, 2) := by decide +kernel
theorem d_R_init_118 : decode c_R_init 118 = .ok (.putfield 54, 3) := by decide +kernel
theorem d_R_init_121 : decode c_R_init 121 = .ok (.aload_n 0, 1) := by decide +kernel
theorem d_R_init_122 : decode c_R_init 122 = .ok (.getfield 13, 3) := by decide +kernel
theorem d_R_init_125 : decode c_R_init 125 = .ok (.iconst 0, 1) := by decide +kernel
theorem d_R_init_126 : decode c_R_init 126 = .ok (.iconst (-1), 1) := by decide +kernel
theorem d_R_init_127 : decode c_R_init 127 = .ok (.iastore, 1) := by decide +kernel
theorem d_R_init_128 : decode c_R_init 128 = .ok (.return_, 1) := by decide +kernel
theorem d_R_lambda_0 : decode c_R_lambda 0 = .ok (.aload_n 0, 1) := by decide +kernel
theorem d_R_lambda_1 : decode c_R_lambda 1 = .ok (.iload_n 1, 1) := by decide +kernel
theorem d_R_lambda_2 : decode c_R_lambda 2 = .ok (.invokevirtual 64, 3) := by decide +kernel
theorem d_R_lambda_5 : decode c_R_lambda 5 = .ok (.ifCond .eq 21, 3) := by decide +kernel
theorem d_R_lambda_8 : decode c_R_lambda 8 = .ok (.iload_n 2, 1) := by decide +kernel
theorem d_R_lambda_9 : decode c_R_lambda 9 = .ok (.ifCond .lt 17, 3) := by decide +kernel
theorem d_R_lambda_12 : decode c_R_lambda 12 = .ok (.iload_n 2, 1) := by decide +kernel
theorem d_R_lambda_13 : decode c_R_lambda 13 = .ok (.iconst 3, 1) := by decide +kernel
theorem d_R_lambda_14 : decode c_R_lambda 14 = .ok (.if_icmp .gt 12, 3) := by decide +kernel
theorem d_R_lambda_17 : decode c_R_lambda 17 = .ok (.aload_n 0, 1) := by decide +kernel
theorem d_R_lambda_18 : decode c_R_lambda 18 = .ok (.getfield 7, 3) := by decide +kernel
theorem d_R_lambda_21 : decode c_R_lambda 21 = .ok (.bipush 8, 2) := by decide +kernel
theorem d_R_lambda_23 : decode c_R_lambda 23 = .ok (.if_icmp .ne 5, 3) := by decide +kernel
theorem d_R_lambda_26 : decode c_R_lambda 26 = .ok (.iconst (-1), 1) := by decide +kernel
theorem d_R_lambda_27 : decode c_R_lambda 27 = .ok (.ireturn, 1) := by decide +kernel
theorem d_R_lambda_28 : decode c_R_lambda 28 = .ok (.aload_n 0, 1) := by decide +kernel
theorem d_R_lambda_29 : decode c_R_lambda 29 = .ok (.getfield 13, 3) := by decide +kernel
theorem d_R_lambda_32 : decode c_R_lambda 32 = .ok (.aload_n 0, 1) := by decide +kernel
theorem d_R_lambda_33 : decode c_R_lambda 33 = .ok (.getfield 7, 3) := by decide +kernel
theorem d_R_lambda_36 : decode c_R_lambda 36 = .ok (.iload_n 1, 1) := by decide +kernel
theorem d_R_lambda_37 : decode c_R_lambda 37 = .ok (.iastore, 1) := by decide +kernel
theorem d_R_lambda_38 : decode c_R_lambda 38 = .ok (.aload_n 0, 1) := by decide +kernel
theorem d_R_lambda_39 : decode c_R_lambda 39 = .ok (.getfield 17, 3) := by decide +kernel
theorem d_R_lambda_42 : decode c_R_lambda 42 = .ok (.aload_n 0, 1) := by decide +kernel
theorem d_R_lambda_43 : decode c_R_lambda 43 = .ok (.getfield 7, 3) := by decide +kernel
theorem d_R_lambda_46 : decode c_R_lambda 46 = .ok (.iload_n 2, 1) := by decide +kernel
theorem d_R_lambda_47 : decode c_R_lambda 47 = .ok (.iastore, 1) := by decide +kernel
theorem d_R_lambda_48 : decode c_R_lambda 48 = .ok (.aload_n 0, 1) := by decide +kernel
theorem d_R_lambda_49 : decode c_R_lambda 49 = .ok (.getfield 20, 3) := by decide +kernel
theorem d_R_lambda_52 : decode c_R_lambda 52 = .ok (.aload_n 0, 1) := by decide +kernel
theorem d_R_lambda_53 : decode c_R_lambda 53 = .ok (.getfield 7, 3) := by decide +kernel
theorem d_R_lambda_56 : decode c_R_lambda 56 = .ok (.iconst 0, 1) := by decide +kernel
theorem d_R_lambda_57 : decode c_R_lambda 57 = .ok (.iastore, 1) := by decide +kernel
theorem d_R_lambda_58 : decode c_R_lambda 58 = .ok (.aload_n 0, 1) := by decide +kernel
theorem d_R_lambda_59 : decode c_R_lambda 59 = .ok (.dup, 1) := by decide +kernel
theorem d_R_lambda_60 : decode c_R_lambda 60 = .ok (.getfield 7, 3) := by decide +kernel
theorem d_R_lambda_63 : decode c_R_lambda 63 = .ok (.iconst 1, 1) := by decide +kernel
theorem d_R_lambda_64 : decode c_R_lambda 64 = .ok (.iadd, 1) := by decide +kernel
theorem d_R_lambda_65 : decode c_R_lambda 65 = .ok (.putfield 7, 3) := by decide +kernel
theorem d_R_lambda_68 : decode c_R_lambda 68 = .ok (.aload_n 0, 1) := by decide +kernel
theorem d_R_lambda_69 : decode c_R_lambda 69 = .ok (.invokevirtual 68, 3) := by decide +kernel
theorem d_R_lambda_72 : decode c_R_lambda 72 = .ok (.aload_n 0, 1) := by decide +kernel
theorem d_R_lambda_73 : decode c_R_lambda 73 = .ok (.getfield 7, 3) := by decide +kernel
theorem d_R_lambda_76 : decode c_R_lambda 76 = .ok (.iconst 1, 1) := by decide +kernel
theorem d_R_lambda_77 : decode c_R_lambda 77 = .ok (.isub, 1) := by decide +kernel
theorem d_R_lambda_78 : decode c_R_lambda 78 = .ok (.ireturn, 1) := by decide +kernel
theorem d_R_isLambda_0 : decode c_R_isLambda 0 = .ok (.iload_n 1, 1) := by decide +kernel
theorem d_R_isLambda_1 : decode c_R_isLambda 1 = .ok (.ifCond .lt 15, 3) := by decide +kernel
theorem d_R_isLambda_4 : decode c_R_isLambda 4 = .ok (.iload_n 1, 1) := by decide +kernel
theorem d_R_isLambda_5 : decode c_R_isLambda 5 = .ok (.aload_n 0, 1) := by decide +kernel
theorem d_R_isLambda_6 : decode c_R_isLambda 6 = .ok (.getfield 7, 3) := by decide +kernel
theorem d_R_isLambda_9 : decode c_R_isLambda 9 = .ok (.if_icmp .ge 7, 3) := by decide +kernel
theorem d_R_isLambda_12 : decode c_R_isLambda 12 = .ok (.iconst 1, 1) := by decide +kernel
theorem d_R_isLambda_13 : decode c_R_isLambda 13 = .ok (.goto 4, 3) := by decide +kernel
theorem d_R_isLambda_16 : decode c_R_isLambda 16 = .ok (.iconst 0, 1) := by decide +kernel
theorem d_R_isLambda_17 : decode c_R_isLambda 17 = .ok (.ireturn, 1) := by decide +kernel
theorem d_R_change_0 : decode c_R_change 0 = .ok (.aload_n 0, 1) := by decide +kernel
theorem d_R_change_1 : decode c_R_change 1 = .ok (.iconst 0, 1) := by decide +kernel
theorem d_R_change_2 : decode c_R_change 2 = .ok (.putfield 57, 3) := by decide +kernel
theorem d_R_change_5 : decode c_R_change 5 = .ok (.aload_n 0, 1) := by decide +kernel
theorem d_R_change_6 : decode c_R_change 6 = .ok (.iconst 0, 1) := by decide +kernel
theorem d_R_change_7 : decode c_R_change 7 = .ok (.putfield 60, 3) := by decide +kernel
theorem d_R_change_10 : decode c_R_change 10 = .ok (.return_, 1) := by decide +kernel
theorem d_R_put_0 : decode c_R_put 0 = .ok (.aload_n 0, 1) := by decide +kernel
theorem d_R_put_1 : decode c_R_put 1 = .ok (.iload_n 1, 1) := by decide +kernel
theorem d_R_put_2 : decode c_R_put 2 = .ok (.invokevirtual 64, 3) := by decide +kernel
theorem d_R_put_5 : decode c_R_put 5 = .ok (.ifCond .eq 22, 3) := by decide +kernel
theorem d_R_put_8 : decode c_R_put 8 = .ok (.aload_n 0, 1) := by decide +kernel
theorem d_R_put_9 : decode c_R_put 9 = .ok (.getfield 20, 3) := by decide +kernel
theorem d_R_put_12 : decode c_R_put 12 = .ok (.iload_n 1, 1) := by decide +kernel
theorem d_R_put_13 : decode c_R_put 13 = .ok (.iaload, 1) := by decide +kernel
theorem d_R_put_14 : decode c_R_put 14 = .ok (.iconst 4, 1) := by decide +kernel
theorem d_R_put_15 : decode c_R_put 15 = .ok (.if_icmp .eq 12, 3) := by decide +kernel
theorem d_R_put_18 : decode c_R_put 18 = .ok (.aload_n 0, 1) := by decide +kernel
theorem d_R_put_19 : decode c_R_put 19 = .ok (.iload_n 1, 1) := by decide +kernel
theorem d_R_put_20 : decode c_R_put 20 = .ok (.iload_n 2, 1) := by decide +kernel
theorem d_R_put_21 : decode c_R_put 21 = .ok (.invokevirtual 75, 3) := by decide +kernel
theorem d_R_put_24 : decode c_R_put 24 = .ok (.ifCond .ne 5, 3) := by decide +kernel
theorem d_R_put_27 : decode c_R_put 27 = .ok (.iconst 0, 1) := by decide +kernel
theorem d_R_put_28 : decode c_R_put 28 = .ok (.ireturn, 1) := by decide +kernel
theorem d_R_put_29 : decode c_R_put 29 = .ok (.aload_n 0, 1) := by decide +kernel
theorem d_R_put_30 : decode c_R_put 30 = .ok (.getfield 23, 3) := by decide +kernel
theorem d_R_put_33 : decode c_R_put 33 = .ok (.iconst 4, 1) := by decide +kernel
theorem d_R_put_34 : decode c_R_put 34 = .ok (.iload_n 1, 1) := by decide +kernel
theorem d_R_put_35 : decode c_R_put 35 = .ok (.imul, 1) := by decide +kernel
theorem d_R_put_36 : decode c_R_put 36 = .ok (.aload_n 0, 1) := by decide +kernel
theorem d_R_put_37 : decode c_R_put 37 = .ok (.getfield 20, 3) := by decide +kernel
theorem d_R_put_40 : decode c_R_put 40 = .ok (.iload_n 1, 1) := by decide +kernel
theorem d_R_put_41 : decode c_R_put 41 = .ok (.iaload, 1) := by decide +kernel
theorem d_R_put_42 : decode c_R_put 42 = .ok (.iadd, 1) := by decide +kernel
theorem d_R_put_43 : decode c_R_put 43 = .ok (.iload_n 2, 1) := by decide +kernel
theorem d_R_put_44 : decode c_R_put 44 = .ok (.iastore, 1) := by decide +kernel
theorem d_R_put_45 : decode c_R_put 45 = .ok (.aload_n 0, 1) := by decide +kernel
theorem d_R_put_46 : decode c_R_put 46 = .ok (.getfield 20, 3) := by decide +kernel
theorem d_R_put_49 : decode c_R_put 49 = .ok (.iload_n 1, 1) := by decide +kernel
theorem d_R_put_50 : decode c_R_put 50 = .ok (.dup2, 1) := by decide +kernel
theorem d_R_put_51 : decode c_R_put 51 = .ok (.iaload, 1) := by decide +kernel
theorem d_R_put_52 : decode c_R_put 52 = .ok (.iconst 1, 1) := by decide +kernel
theorem d_R_put_53 : decode c_R_put 53 = .ok (.iadd, 1) := by decide +kernel
theorem d_R_put_54 : decode c_R_put 54 = .ok (.iastore, 1) := by decide +kernel
theorem d_R_put_55 : decode c_R_put 55 = .ok (.aload_n 0, 1) := by decide +kernel
theorem d_R_put_56 : decode c_R_put 56 = .ok (.invokevirtual 68, 3) := by decide +kernel
theorem d_R_put_59 : decode c_R_put 59 = .ok (.iconst 1, 1) := by decide +kernel
theorem d_R_put_60 : decode c_R_put 60 = .ok (.ireturn, 1) := by decide +kernel
theorem d_R_mayStand_0 : decode c_R_mayStand 0 = .ok (.iload_n 2, 1) := by decide +kernel
theorem d_R_mayStand_1 : decode c_R_mayStand 1 = .ok (.ifCond .lt 9, 3) := by decide +kernel
theorem d_R_mayStand_4 : decode c_R_mayStand 4 = .ok (.iload_n 2, 1) := by decide +kernel
theorem d_R_mayStand_5 : decode c_R_mayStand 5 = .ok (.bipush 9, 2) := by decide +kernel
theorem d_R_mayStand_7 : decode c_R_mayStand 7 = .ok (.if_icmp .le 17, 3) := by decide +kernel
theorem d_R_mayStand_10 : decode c_R_mayStand 10 = .ok (.iload_n 2, 1) := by decide +kernel
theorem d_R_mayStand_11 : decode c_R_mayStand 11 = .ok (.sipush 300, 3) := by decide +kernel
theorem d_R_mayStand_14 : decode c_R_mayStand 14 = .ok (.if_icmp .lt 12, 3) := by decide +kernel
theorem d_R_mayStand_17 : decode c_R_mayStand 17 = .ok (.iload_n 2, 1) := by decide +kernel
theorem d_R_mayStand_18 : decode c_R_mayStand 18 = .ok (.sipush 302, 3) := by decide +kernel
theorem d_R_mayStand_21 : decode c_R_mayStand 21 = .ok (.if_icmp .gt 5, 3) := by decide +kernel
theorem d_R_mayStand_24 : decode c_R_mayStand 24 = .ok (.iconst 1, 1) := by decide +kernel
theorem d_R_mayStand_25 : decode c_R_mayStand 25 = .ok (.ireturn, 1) := by decide +kernel
theorem d_R_mayStand_26 : decode c_R_mayStand 26 = .ok (.iload_n 2, 1) := by decide +kernel
theorem d_R_mayStand_27 : decode c_R_mayStand 27 = .ok (.sipush 200, 3) := by decide +kernel
theorem d_R_mayStand_30 : decode c_R_mayStand 30 = .ok (.if_icmp .lt 44, 3) := by decide +kernel
theorem d_R_mayStand_33 : decode c_R_mayStand 33 = .ok (.iload_n 2, 1) := by decide +kernel
theorem d_R_mayStand_34 : decode c_R_mayStand 34 = .ok (.sipush 208, 3) := by decide +kernel
theorem d_R_mayStand_37 : decode c_R_mayStand 37 = .ok (.if_icmp .ge 37, 3) := by decide +kernel
theorem d_R_mayStand_40 : decode c_R_mayStand 40 = .ok (.iload_n 2, 1) := by decide +kernel
theorem d_R_mayStand_41 : decode c_R_mayStand 41 = .ok (.sipush 200, 3) := by decide +kernel
theorem d_R_mayStand_44 : decode c_R_mayStand 44 = .ok (.isub, 1) := by decide +kernel
theorem d_R_mayStand_45 : decode c_R_mayStand 45 = .ok (.istore_n 3, 1) := by decide +kernel
theorem d_R_mayStand_46 : decode c_R_mayStand 46 = .ok (.iload_n 3, 1) := by decide +kernel
theorem d_R_mayStand_47 : decode c_R_mayStand 47 = .ok (.ifCond .le 25, 3) := by decide +kernel
theorem d_R_mayStand_50 : decode c_R_mayStand 50 = .ok (.aload_n 0, 1) := by decide +kernel
theorem d_R_mayStand_51 : decode c_R_mayStand 51 = .ok (.iload_n 3, 1) := by decide +kernel
theorem d_R_mayStand_52 : decode c_R_mayStand 52 = .ok (.invokevirtual 64, 3) := by decide +kernel
theorem d_R_mayStand_55 : decode c_R_mayStand 55 = .ok (.ifCond .eq 17, 3) := by decide +kernel
theorem d_R_mayStand_58 : decode c_R_mayStand 58 = .ok (.aload_n 0, 1) := by decide +kernel
theorem d_R_mayStand_59 : decode c_R_mayStand 59 = .ok (.getfield 13, 3) := by decide +kernel
theorem d_R_mayStand_62 : decode c_R_mayStand 62 = .ok (.iload_n 3, 1) := by decide +kernel
theorem d_R_mayStand_63 : decode c_R_mayStand 63 = .ok (.iaload, 1) := by decide +kernel
theorem d_R_mayStand_64 : decode c_R_mayStand 64 = .ok (.iload_n 1, 1) := by decide +kernel
theorem d_R_mayStand_65 : decode c_R_mayStand 65 = .ok (.if_icmp .ne 7, 3) := by decide +kernel
theorem d_R_mayStand_68 : decode c_R_mayStand 68 = .ok (.iconst 1, 1) := by decide +kernel
theorem d_R_mayStand_69 : decode c_R_mayStand 69 = .ok (.goto 4, 3) := by decide +kernel
theorem d_R_mayStand_72 : decode c_R_mayStand 72 = .ok (.iconst 0, 1) := by decide +kernel
theorem d_R_mayStand_73 : decode c_R_mayStand 73 = .ok (.ireturn, 1) := by decide +kernel
theorem d_R_mayStand_74 : decode c_R_mayStand 74 = .ok (.iload_n 2, 1) := by decide +kernel
theorem d_R_mayStand_75 : decode c_R_mayStand 75 = .ok (.bipush 100, 2) := by decide +kernel
theorem d_R_mayStand_77 : decode c_R_mayStand 77 = .ok (.if_icmp .lt 10, 3) := by decide +kernel
theorem d_R_mayStand_80 : decode c_R_mayStand 80 = .ok (.iload_n 2, 1) := by decide +kernel
theorem d_R_mayStand_81 : decode c_R_mayStand 81 = .ok (.sipush 179, 3) := by decide +kernel
theorem d_R_mayStand_84 : decode c_R_mayStand 84 = .ok (.if_icmp .le 5, 3) := by decide +kernel
theorem d_R_mayStand_87 : decode c_R_mayStand 87 = .ok (.iconst 0, 1) := by decide +kernel
theorem d_R_mayStand_88 : decode c_R_mayStand 88 = .ok (.ireturn, 1) := by decide +kernel
theorem d_R_mayStand_89 : decode c_R_mayStand 89 = .ok (.iload_n 2, 1) := by decide +kernel
theorem d_R_mayStand_90 : decode c_R_mayStand 90 = .ok (.bipush 100, 2) := by decide +kernel
theorem d_R_mayStand_92 : decode c_R_mayStand 92 = .ok (.isub, 1) := by decide +kernel
theorem d_R_mayStand_93 : decode c_R_mayStand 93 = .ok (.bipush 10, 2) := by decide +kernel
theorem d_R_mayStand_95 : decode c_R_mayStand 95 = .ok (.idiv, 1) := by decide +kernel
theorem d_R_mayStand_96 : decode c_R_mayStand 96 = .ok (.istore_n 3, 1) := by decide +kernel
theorem d_R_mayStand_97 : decode c_R_mayStand 97 = .ok (.aload_n 0, 1) := by decide +kernel
theorem d_R_mayStand_98 : decode c_R_mayStand 98 = .ok (.iload_n 3, 1) := by decide +kernel
theorem d_R_mayStand_99 : decode c_R_mayStand 99 = .ok (.invokevirtual 64, 3) := by decide +kernel
theorem d_R_mayStand_102 : decode c_R_mayStand 102 = .ok (.ifCond .eq 29, 3) := by decide +kernel
theorem d_R_mayStand_105 : decode c_R_mayStand 105 = .ok (.iload_n 2, 1) := by decide +kernel
theorem d_R_mayStand_106 : decode c_R_mayStand 106 = .ok (.bipush 10, 2) := by decide +kernel
theorem d_R_mayStand_108 : decode c_R_mayStand 108 = .ok (.irem, 1) := by decide +kernel
theorem d_R_mayStand_109 : decode c_R_mayStand 109 = .ok (.aload_n 0, 1) := by decide +kernel
theorem d_R_mayStand_110 : decode c_R_mayStand 110 = .ok (.getfield 17, 3) := by decide +kernel
theorem d_R_mayStand_113 : decode c_R_mayStand 113 = .ok (.iload_n 3, 1) := by decide +kernel
theorem d_R_mayStand_114 : decode c_R_mayStand 114 = .ok (.iaload, 1) := by decide +kernel
theorem d_R_mayStand_115 : decode c_R_mayStand 115 = .ok (.if_icmp .ge 16, 3) := by decide +kernel
theorem d_R_mayStand_118 : decode c_R_mayStand 118 = .ok (.aload_n 0, 1) := by decide +kernel
theorem d_R_mayStand_119 : decode c_R_mayStand 119 = .ok (.iload_n 3, 1) := by decide +kernel
theorem d_R_mayStand_120 : decode c_R_mayStand 120 = .ok (.iload_n 1, 1) := by decide +kernel
theorem d_R_mayStand_121 : decode c_R_mayStand 121 = .ok (.invokevirtual 71, 3) := by decide +kernel
theorem d_R_mayStand_124 : decode c_R_mayStand 124 = .ok (.ifCond .eq 7, 3) := by decide +kernel
theorem d_R_mayStand_127 : decode c_R_mayStand 127 = .ok (.iconst 1, 1) := by decide +kernel
theorem d_R_mayStand_128 : decode c_R_mayStand 128 = .ok (.goto 4, 3) := by decide +kernel
theorem d_R_mayStand_131 : decode c_R_mayStand 131 = .ok (.iconst 0, 1) := by decide +kernel
theorem d_R_mayStand_132 : decode c_R_mayStand 132 = .ok (.ireturn, 1) := by decide +kernel
theorem d_R_around_0 : decode c_R_around 0 = .ok (.iload_n 2, 1) := by decide +kernel
theorem d_R_around_1 : decode c_R_around 1 = .ok (.istore_n 3, 1) := by decide +kernel
theorem d_R_around_2 : decode c_R_around 2 = .ok (.iload_n 3, 1) := by decide +kernel
theorem d_R_around_3 : decode c_R_around 3 = .ok (.iload_n 1, 1) := by decide +kernel
theorem d_R_around_4 : decode c_R_around 4 = .ok (.if_icmp .le 13, 3) := by decide +kernel
theorem d_R_around_7 : decode c_R_around 7 = .ok (.aload_n 0, 1) := by decide +kernel
theorem d_R_around_8 : decode c_R_around 8 = .ok (.getfield 13, 3) := by decide +kernel
theorem d_R_around_11 : decode c_R_around 11 = .ok (.iload_n 3, 1) := by decide +kernel
theorem d_R_around_12 : decode c_R_around 12 = .ok (.iaload, 1) := by decide +kernel
theorem d_R_around_13 : decode c_R_around 13 = .ok (.istore_n 3, 1) := by decide +kernel
theorem d_R_around_14 : decode c_R_around 14 = .ok (.goto (-12), 3) := by decide +kernel
theorem d_R_around_17 : decode c_R_around 17 = .ok (.iload_n 3, 1) := by decide +kernel
theorem d_R_around_18 : decode c_R_around 18 = .ok (.iload_n 1, 1) := by decide +kernel
theorem d_R_around_19 : decode c_R_around 19 = .ok (.if_icmp .ne 7, 3) := by decide +kernel
theorem d_R_around_22 : decode c_R_around 22 = .ok (.iconst 1, 1) := by decide +kernel
theorem d_R_around_23 : decode c_R_around 23 = .ok (.goto 4, 3) := by decide +kernel
theorem d_R_around_26 : decode c_R_around 26 = .ok (.iconst 0, 1) := by decide +kernel
theorem d_R_around_27 : decode c_R_around 27 = .ok (.ireturn, 1) := by decide +kernel
theorem d_R_clear_0 : decode c_R_clear 0 = .ok (.aload_n 0, 1) := by decide +kernel
theorem d_R_clear_1 : decode c_R_clear 1 = .ok (.iconst 1, 1) := by decide +kernel
theorem d_R_clear_2 : decode c_R_clear 2 = .ok (.putfield 7, 3) := by decide +kernel
theorem d_R_clear_5 : decode c_R_clear 5 = .ok (.aload_n 0, 1) := by decide +kernel
theorem d_R_clear_6 : decode c_R_clear 6 = .ok (.getfield 20, 3) := by decide +kernel
theorem d_R_clear_9 : decode c_R_clear 9 = .ok (.iconst 0, 1) := by decide +kernel
theorem d_R_clear_10 : decode c_R_clear 10 = .ok (.iconst 0, 1) := by decide +kernel
theorem d_R_clear_11 : decode c_R_clear 11 = .ok (.iastore, 1) := by decide +kernel
theorem d_R_clear_12 : decode c_R_clear 12 = .ok (.aload_n 0, 1) := by decide +kernel
theorem d_R_clear_13 : decode c_R_clear 13 = .ok (.invokevirtual 68, 3) := by decide +kernel
theorem d_R_clear_16 : decode c_R_clear 16 = .ok (.return_, 1) := by decide +kernel
theorem d_R_lambdas_0 : decode c_R_lambdas 0 = .ok (.aload_n 0, 1) := by decide +kernel
theorem d_R_lambdas_1 : decode c_R_lambdas 1 = .ok (.getfield 7, 3) := by decide +kernel
theorem d_R_lambdas_4 : decode c_R_lambdas 4 = .ok (.ireturn, 1) := by decide +kernel
theorem d_R_atom_0 : decode c_R_atom 0 = .ok (.aload_n 0, 1) := by decide +kernel
theorem d_R_atom_1 : decode c_R_atom 1 = .ok (.iload_n 1, 1) := by decide +kernel
theorem d_R_atom_2 : decode c_R_atom 2 = .ok (.invokevirtual 64, 3) := by decide +kernel
theorem d_R_atom_5 : decode c_R_atom 5 = .ok (.ifCond .eq 17, 3) := by decide +kernel
theorem d_R_atom_8 : decode c_R_atom 8 = .ok (.iload_n 2, 1) := by decide +kernel
theorem d_R_atom_9 : decode c_R_atom 9 = .ok (.ifCond .lt 13, 3) := by decide +kernel
theorem d_R_atom_12 : decode c_R_atom 12 = .ok (.iload_n 2, 1) := by decide +kernel
theorem d_R_atom_13 : decode c_R_atom 13 = .ok (.aload_n 0, 1) := by decide +kernel
theorem d_R_atom_14 : decode c_R_atom 14 = .ok (.getfield 20, 3) := by decide +kernel
theorem d_R_atom_17 : decode c_R_atom 17 = .ok (.iload_n 1, 1) := by decide +kernel
theorem d_R_atom_18 : decode c_R_atom 18 = .ok (.iaload, 1) := by decide +kernel
theorem d_R_atom_19 : decode c_R_atom 19 = .ok (.if_icmp .lt 7, 3) := by decide +kernel
theorem d_R_atom_22 : decode c_R_atom 22 = .ok (.iconst (-1), 1) := by decide +kernel
theorem d_R_atom_23 : decode c_R_atom 23 = .ok (.goto 13, 3) := by decide +kernel
theorem d_R_atom_26 : decode c_R_atom 26 = .ok (.aload_n 0, 1) := by decide +kernel
theorem d_R_atom_27 : decode c_R_atom 27 = .ok (.getfield 23, 3) := by decide +kernel
theorem d_R_atom_30 : decode c_R_atom 30 = .ok (.iconst 4, 1) := by decide +kernel
theorem d_R_atom_31 : decode c_R_atom 31 = .ok (.iload_n 1, 1) := by decide +kernel
theorem d_R_atom_32 : decode c_R_atom 32 = .ok (.imul, 1) := by decide +kernel
theorem d_R_atom_33 : decode c_R_atom 33 = .ok (.iload_n 2, 1) := by decide +kernel
theorem d_R_atom_34 : decode c_R_atom 34 = .ok (.iadd, 1) := by decide +kernel
theorem d_R_atom_35 : decode c_R_atom 35 = .ok (.iaload, 1) := by decide +kernel
theorem d_R_atom_36 : decode c_R_atom 36 = .ok (.ireturn, 1) := by decide +kernel
theorem d_R_start_0 : decode c_R_start 0 = .ok (.aload_n 0, 1) := by decide +kernel
theorem d_R_start_1 : decode c_R_start 1 = .ok (.iconst 1, 1) := by decide +kernel
theorem d_R_start_2 : decode c_R_start 2 = .ok (.putfield 57, 3) := by decide +kernel
theorem d_R_start_5 : decode c_R_start 5 = .ok (.aload_n 0, 1) := by decide +kernel
theorem d_R_start_6 : decode c_R_start 6 = .ok (.iconst 0, 1) := by decide +kernel
theorem d_R_start_7 : decode c_R_start 7 = .ok (.putfield 78, 3) := by decide +kernel
theorem d_R_start_10 : decode c_R_start 10 = .ok (.aload_n 0, 1) := by decide +kernel
theorem d_R_start_11 : decode c_R_start 11 = .ok (.iconst 0, 1) := by decide +kernel
theorem d_R_start_12 : decode c_R_start 12 = .ok (.putfield 81, 3) := by decide +kernel
theorem d_R_start_15 : decode c_R_start 15 = .ok (.aload_n 0, 1) := by decide +kernel
theorem d_R_start_16 : decode c_R_start 16 = .ok (.iconst 0, 1) := by decide +kernel
theorem d_R_start_17 : decode c_R_start 17 = .ok (.putfield 84, 3) := by decide +kernel
theorem d_R_start_20 : decode c_R_start 20 = .ok (.aload_n 0, 1) := by decide +kernel
theorem d_R_start_21 : decode c_R_start 21 = .ok (.getfield 29, 3) := by decide +kernel
theorem d_R_start_24 : decode c_R_start 24 = .ok (.iconst 0, 1) := by decide +kernel
theorem d_R_start_25 : decode c_R_start 25 = .ok (.iconst 0, 1) := by decide +kernel
theorem d_R_start_26 : decode c_R_start 26 = .ok (.iastore, 1) := by decide +kernel
theorem d_R_start_27 : decode c_R_start 27 = .ok (.aload_n 0, 1) := by decide +kernel
theorem d_R_start_28 : decode c_R_start 28 = .ok (.getfield 32, 3) := by decide +kernel
theorem d_R_start_31 : decode c_R_start 31 = .ok (.iconst 0, 1) := by decide +kernel
theorem d_R_start_32 : decode c_R_start 32 = .ok (.iconst (-1), 1) := by decide +kernel
theorem d_R_start_33 : decode c_R_start 33 = .ok (.iastore, 1) := by decide +kernel
theorem d_R_start_34 : decode c_R_start 34 = .ok (.iconst 0, 1) := by decide +kernel
theorem d_R_start_35 : decode c_R_start 35 = .ok (.istore_n 1, 1) := by decide +kernel
theorem d_R_start_36 : decode c_R_start 36 = .ok (.iload_n 1, 1) := by decide +kernel
theorem d_R_start_37 : decode c_R_start 37 = .ok (.bipush 8, 2) := by decide +kernel
theorem d_R_start_39 : decode c_R_start 39 = .ok (.if_icmp .ge 16, 3) := by decide +kernel
theorem d_R_start_42 : decode c_R_start 42 = .ok (.aload_n 0, 1) := by decide +kernel
theorem d_R_start_43 : decode c_R_start 43 = .ok (.getfield 26, 3) := by decide +kernel
theorem d_R_start_46 : decode c_R_start 46 = .ok (.iload_n 1, 1) := by decide +kernel
theorem d_R_start_47 : decode c_R_start 47 = .ok (.iconst 0, 1) := by decide +kernel
theorem d_R_start_48 : decode c_R_start 48 = .ok (.iastore, 1) := by decide +kernel
theorem d_R_start_49 : decode c_R_start 49 = .ok (.iinc 1 1, 3) := by decide +kernel
theorem d_R_start_52 : decode c_R_start 52 = .ok (.goto (-16), 3) := by decide +kernel
theorem d_R_start_55 : decode c_R_start 55 = .ok (.return_, 1) := by decide +kernel
theorem d_R_step_0 : decode c_R_step 0 = .ok (.iload_n 1, 1) := by decide +kernel
theorem d_R_step_1 : decode c_R_step 1 = .ok (.ifCond .lt 16, 3) := by decide +kernel
theorem d_R_step_4 : decode c_R_step 4 = .ok (.iload_n 1, 1) := by decide +kernel
theorem d_R_step_5 : decode c_R_step 5 = .ok (.bipush 100, 2) := by decide +kernel
theorem d_R_step_7 : decode c_R_step 7 = .ok (.if_icmp .gt 10, 3) := by decide +kernel
theorem d_R_step_10 : decode c_R_step 10 = .ok (.aload_n 0, 1) := by decide +kernel
theorem d_R_step_11 : decode c_R_step 11 = .ok (.getfield 57, 3) := by decide +kernel
theorem d_R_step_14 : decode c_R_step 14 = .ok (.ifCond .ne 5, 3) := by decide +kernel
theorem d_R_step_17 : decode c_R_step 17 = .ok (.iconst (-1), 1) := by decide +kernel
theorem d_R_step_18 : decode c_R_step 18 = .ok (.ireturn, 1) := by decide +kernel
theorem d_R_step_19 : decode c_R_step 19 = .ok (.iconst 0, 1) := by decide +kernel
theorem d_R_step_20 : decode c_R_step 20 = .ok (.istore_n 2, 1) := by decide +kernel
theorem d_R_step_21 : decode c_R_step 21 = .ok (.iconst 0, 1) := by decide +kernel
theorem d_R_step_22 : decode c_R_step 22 = .ok (.istore_n 3, 1) := by decide +kernel
theorem d_R_step_23 : decode c_R_step 23 = .ok (.iload_n 3, 1) := by decide +kernel
theorem d_R_step_24 : decode c_R_step 24 = .ok (.iload_n 1, 1) := by decide +kernel
theorem d_R_step_25 : decode c_R_step 25 = .ok (.if_icmp .ge 36, 3) := by decide +kernel
theorem d_R_step_28 : decode c_R_step 28 = .ok (.aload_n 0, 1) := by decide +kernel
theorem d_R_step_29 : decode c_R_step 29 = .ok (.getfield 57, 3) := by decide +kernel
theorem d_R_step_32 : decode c_R_step 32 = .ok (.iconst 1, 1) := by decide +kernel
theorem d_R_step_33 : decode c_R_step 33 = .ok (.if_icmp .ne 28, 3) := by decide +kernel
theorem d_R_step_36 : decode c_R_step 36 = .ok (.aload_n 0, 1) := by decide +kernel
theorem d_R_step_37 : decode c_R_step 37 = .ok (.invokevirtual 105, 3) := by decide +kernel
theorem d_R_step_40 : decode c_R_step 40 = .ok (.istore 4, 2) := by decide +kernel
theorem d_R_step_42 : decode c_R_step 42 = .ok (.iload 4, 2) := by decide +kernel
theorem d_R_step_44 : decode c_R_step 44 = .ok (.ifCond .eq 9, 3) := by decide +kernel
theorem d_R_step_47 : decode c_R_step 47 = .ok (.iload_n 2, 1) := by decide +kernel
theorem d_R_step_48 : decode c_R_step 48 = .ok (.iconst 1, 1) := by decide +kernel
theorem d_R_step_49 : decode c_R_step 49 = .ok (.iadd, 1) := by decide +kernel
theorem d_R_step_50 : decode c_R_step 50 = .ok (.goto 4, 3) := by decide +kernel
theorem d_R_step_53 : decode c_R_step 53 = .ok (.iload_n 2, 1) := by decide +kernel
theorem d_R_step_54 : decode c_R_step 54 = .ok (.istore_n 2, 1) := by decide +kernel
theorem d_R_step_55 : decode c_R_step 55 = .ok (.iinc 3 1, 3) := by decide +kernel
theorem d_R_step_58 : decode c_R_step 58 = .ok (.goto (-35), 3) := by decide +kernel
theorem d_R_step_61 : decode c_R_step 61 = .ok (.iload_n 2, 1) := by decide +kernel
theorem d_R_step_62 : decode c_R_step 62 = .ok (.ireturn, 1) := by decide +kernel
theorem d_R_move_0 : decode c_R_move 0 = .ok (.aload_n 0, 1) := by decide +kernel
theorem d_R_move_1 : decode c_R_move 1 = .ok (.getfield 20, 3) := by decide +kernel
theorem d_R_move_4 : decode c_R_move 4 = .ok (.aload_n 0, 1) := by decide +kernel
theorem d_R_move_5 : decode c_R_move 5 = .ok (.getfield 78, 3) := by decide +kernel
theorem d_R_move_8 : decode c_R_move 8 = .ok (.iaload, 1) := by decide +kernel
theorem d_R_move_9 : decode c_R_move 9 = .ok (.iconst 1, 1) := by decide +kernel
theorem d_R_move_10 : decode c_R_move 10 = .ok (.isub, 1) := by decide +kernel
theorem d_R_move_11 : decode c_R_move 11 = .ok (.istore_n 1, 1) := by decide +kernel
theorem d_R_move_12 : decode c_R_move 12 = .ok (.iload_n 1, 1) := by decide +kernel
theorem d_R_move_13 : decode c_R_move 13 = .ok (.ifCond .ge 7, 3) := by decide +kernel
theorem d_R_move_16 : decode c_R_move 16 = .ok (.iconst 0, 1) := by decide +kernel
theorem d_R_move_17 : decode c_R_move 17 = .ok (.goto 18, 3) := by decide +kernel
theorem d_R_move_20 : decode c_R_move 20 = .ok (.aload_n 0, 1) := by decide +kernel
theorem d_R_move_21 : decode c_R_move 21 = .ok (.aload_n 0, 1) := by decide +kernel
theorem d_R_move_22 : decode c_R_move 22 = .ok (.getfield 23, 3) := by decide +kernel
theorem d_R_move_25 : decode c_R_move 25 = .ok (.iconst 4, 1) := by decide +kernel
theorem d_R_move_26 : decode c_R_move 26 = .ok (.aload_n 0, 1) := by decide +kernel
theorem d_R_move_27 : decode c_R_move 27 = .ok (.getfield 78, 3) := by decide +kernel
theorem d_R_move_30 : decode c_R_move 30 = .ok (.imul, 1) := by decide +kernel
theorem d_R_move_31 : decode c_R_move 31 = .ok (.iaload, 1) := by decide +kernel
theorem d_R_move_32 : decode c_R_move 32 = .ok (.invokevirtual 91, 3) := by decide +kernel
theorem d_R_move_35 : decode c_R_move 35 = .ok (.istore_n 2, 1) := by decide +kernel
theorem d_R_move_36 : decode c_R_move 36 = .ok (.iconst 0, 1) := by decide +kernel
theorem d_R_move_37 : decode c_R_move 37 = .ok (.istore_n 3, 1) := by decide +kernel
theorem d_R_move_38 : decode c_R_move 38 = .ok (.iload_n 3, 1) := by decide +kernel
theorem d_R_move_39 : decode c_R_move 39 = .ok (.iload_n 1, 1) := by decide +kernel
theorem d_R_move_40 : decode c_R_move 40 = .ok (.if_icmp .ge 34, 3) := by decide +kernel
theorem d_R_move_43 : decode c_R_move 43 = .ok (.aload_n 0, 1) := by decide +kernel
theorem d_R_move_44 : decode c_R_move 44 = .ok (.getfield 38, 3) := by decide +kernel
theorem d_R_move_47 : decode c_R_move 47 = .ok (.iload_n 3, 1) := by decide +kernel
theorem d_R_move_48 : decode c_R_move 48 = .ok (.aload_n 0, 1) := by decide +kernel
theorem d_R_move_49 : decode c_R_move 49 = .ok (.aload_n 0, 1) := by decide +kernel
theorem d_R_move_50 : decode c_R_move 50 = .ok (.getfield 23, 3) := by decide +kernel
theorem d_R_move_53 : decode c_R_move 53 = .ok (.iconst 4, 1) := by decide +kernel
theorem d_R_move_54 : decode c_R_move 54 = .ok (.aload_n 0, 1) := by decide +kernel
theorem d_R_move_55 : decode c_R_move 55 = .ok (.getfield 78, 3) := by decide +kernel
theorem d_R_move_58 : decode c_R_move 58 = .ok (.imul, 1) := by decide +kernel
theorem d_R_move_59 : decode c_R_move 59 = .ok (.iconst 1, 1) := by decide +kernel
theorem d_R_move_60 : decode c_R_move 60 = .ok (.iadd, 1) := by decide +kernel
theorem d_R_move_61 : decode c_R_move 61 = .ok (.iload_n 3, 1) := by decide +kernel
theorem d_R_move_62 : decode c_R_move 62 = .ok (.iadd, 1) := by decide +kernel
theorem d_R_move_63 : decode c_R_move 63 = .ok (.iaload, 1) := by decide +kernel
theorem d_R_move_64 : decode c_R_move 64 = .ok (.invokevirtual 91, 3) := by decide +kernel
theorem d_R_move_67 : decode c_R_move 67 = .ok (.iastore, 1) := by decide +kernel
theorem d_R_move_68 : decode c_R_move 68 = .ok (.iinc 3 1, 3) := by decide +kernel
theorem d_R_move_71 : decode c_R_move 71 = .ok (.goto (-33), 3) := by decide +kernel
theorem d_R_move_74 : decode c_R_move 74 = .ok (.iload_n 2, 1) := by decide +kernel
theorem d_R_move_75 : decode c_R_move 75 = .ok (.sipush 301, 3) := by decide +kernel
theorem d_R_move_78 : decode c_R_move 78 = .ok (.if_icmp .ne 66, 3) := by decide +kernel
theorem d_R_move_81 : decode c_R_move 81 = .ok (.iload_n 1, 1) := by decide +kernel
theorem d_R_move_82 : decode c_R_move 82 = .ok (.iconst 3, 1) := by decide +kernel
theorem d_R_move_83 : decode c_R_move 83 = .ok (.if_icmp .ne 61, 3) := by decide +kernel
theorem d_R_move_86 : decode c_R_move 86 = .ok (.aload_n 0, 1) := by decide +kernel
theorem d_R_move_87 : decode c_R_move 87 = .ok (.getfield 38, 3) := by decide +kernel
theorem d_R_move_90 : decode c_R_move 90 = .ok (.iconst 0, 1) := by decide +kernel
theorem d_R_move_91 : decode c_R_move 91 = .ok (.iaload, 1) := by decide +kernel
theorem d_R_move_92 : decode c_R_move 92 = .ok (.invokestatic 95, 3) := by decide +kernel
theorem d_R_move_95 : decode c_R_move 95 = .ok (.ifCond .eq 49, 3) := by decide +kernel
theorem d_R_move_98 : decode c_R_move 98 = .ok (.aload_n 0, 1) := by decide +kernel
theorem d_R_move_99 : decode c_R_move 99 = .ok (.getfield 38, 3) := by decide +kernel
theorem d_R_move_102 : decode c_R_move 102 = .ok (.iconst 1, 1) := by decide +kernel
theorem d_R_move_103 : decode c_R_move 103 = .ok (.iaload, 1) := by decide +kernel
theorem d_R_move_104 : decode c_R_move 104 = .ok (.invokestatic 95, 3) := by decide +kernel
theorem d_R_move_107 : decode c_R_move 107 = .ok (.ifCond .eq 37, 3) := by decide +kernel
theorem d_R_move_110 : decode c_R_move 110 = .ok (.aload_n 0, 1) := by decide +kernel
theorem d_R_move_111 : decode c_R_move 111 = .ok (.getfield 38, 3) := by decide +kernel
theorem d_R_move_114 : decode c_R_move 114 = .ok (.iconst 2, 1) := by decide +kernel
theorem d_R_move_115 : decode c_R_move 115 = .ok (.iaload, 1) := by decide +kernel
theorem d_R_move_116 : decode c_R_move 116 = .ok (.istore_n 2, 1) := by decide +kernel
theorem d_R_move_117 : decode c_R_move 117 = .ok (.aload_n 0, 1) := by decide +kernel
theorem d_R_move_118 : decode c_R_move 118 = .ok (.getfield 38, 3) := by decide +kernel
theorem d_R_move_121 : decode c_R_move 121 = .ok (.iconst 0, 1) := by decide +kernel
theorem d_R_move_122 : decode c_R_move 122 = .ok (.aload_n 0, 1) := by decide +kernel
theorem d_R_move_123 : decode c_R_move 123 = .ok (.getfield 38, 3) := by decide +kernel
theorem d_R_move_126 : decode c_R_move 126 = .ok (.iconst 0, 1) := by decide +kernel
theorem d_R_move_127 : decode c_R_move 127 = .ok (.iaload, 1) := by decide +kernel
theorem d_R_move_128 : decode c_R_move 128 = .ok (.aload_n 0, 1) := by decide +kernel
theorem d_R_move_129 : decode c_R_move 129 = .ok (.getfield 38, 3) := by decide +kernel
theorem d_R_move_132 : decode c_R_move 132 = .ok (.iconst 1, 1) := by decide +kernel
theorem d_R_move_133 : decode c_R_move 133 = .ok (.iaload, 1) := by decide +kernel
theorem d_R_move_134 : decode c_R_move 134 = .ok (.iadd, 1) := by decide +kernel
theorem d_R_move_135 : decode c_R_move 135 = .ok (.bipush 10, 2) := by decide +kernel
theorem d_R_move_137 : decode c_R_move 137 = .ok (.irem, 1) := by decide +kernel
theorem d_R_move_138 : decode c_R_move 138 = .ok (.iastore, 1) := by decide +kernel
theorem d_R_move_139 : decode c_R_move 139 = .ok (.iconst 1, 1) := by decide +kernel
theorem d_R_move_140 : decode c_R_move 140 = .ok (.istore_n 1, 1) := by decide +kernel
theorem d_R_move_141 : decode c_R_move 141 = .ok (.goto 54, 3) := by decide +kernel
theorem d_R_move_144 : decode c_R_move 144 = .ok (.iload_n 2, 1) := by decide +kernel
theorem d_R_move_145 : decode c_R_move 145 = .ok (.sipush 302, 3) := by decide +kernel
theorem d_R_move_148 : decode c_R_move 148 = .ok (.if_icmp .ne 47, 3) := by decide +kernel
theorem d_R_move_151 : decode c_R_move 151 = .ok (.iload_n 1, 1) := by decide +kernel
theorem d_R_move_152 : decode c_R_move 152 = .ok (.iconst 3, 1) := by decide +kernel
theorem d_R_move_153 : decode c_R_move 153 = .ok (.if_icmp .ne 42, 3) := by decide +kernel
theorem d_R_move_156 : decode c_R_move 156 = .ok (.aload_n 0, 1) := by decide +kernel
theorem d_R_move_157 : decode c_R_move 157 = .ok (.getfield 38, 3) := by decide +kernel
theorem d_R_move_160 : decode c_R_move 160 = .ok (.iconst 0, 1) := by decide +kernel
theorem d_R_move_161 : decode c_R_move 161 = .ok (.iaload, 1) := by decide +kernel
theorem d_R_move_162 : decode c_R_move 162 = .ok (.invokestatic 95, 3) := by decide +kernel
theorem d_R_move_165 : decode c_R_move 165 = .ok (.ifCond .eq 30, 3) := by decide +kernel
theorem d_R_move_168 : decode c_R_move 168 = .ok (.aload_n 0, 1) := by decide +kernel
theorem d_R_move_169 : decode c_R_move 169 = .ok (.getfield 38, 3) := by decide +kernel
theorem d_R_move_172 : decode c_R_move 172 = .ok (.iconst 0, 1) := by decide +kernel
theorem d_R_move_173 : decode c_R_move 173 = .ok (.iaload, 1) := by decide +kernel
theorem d_R_move_174 : decode c_R_move 174 = .ok (.ifCond .ne 12, 3) := by decide +kernel
theorem d_R_move_177 : decode c_R_move 177 = .ok (.aload_n 0, 1) := by decide +kernel
theorem d_R_move_178 : decode c_R_move 178 = .ok (.getfield 38, 3) := by decide +kernel
theorem d_R_move_181 : decode c_R_move 181 = .ok (.iconst 1, 1) := by decide +kernel
theorem d_R_move_182 : decode c_R_move 182 = .ok (.iaload, 1) := by decide +kernel
theorem d_R_move_183 : decode c_R_move 183 = .ok (.goto 9, 3) := by decide +kernel
theorem d_R_move_186 : decode c_R_move 186 = .ok (.aload_n 0, 1) := by decide +kernel
theorem d_R_move_187 : decode c_R_move 187 = .ok (.getfield 38, 3) := by decide +kernel
theorem d_R_move_190 : decode c_R_move 190 = .ok (.iconst 2, 1) := by decide +kernel
theorem d_R_move_191 : decode c_R_move 191 = .ok (.iaload, 1) := by decide +kernel
theorem d_R_move_192 : decode c_R_move 192 = .ok (.istore_n 2, 1) := by decide +kernel
theorem d_R_move_193 : decode c_R_move 193 = .ok (.iconst 0, 1) := by decide +kernel
theorem d_R_move_194 : decode c_R_move 194 = .ok (.istore_n 1, 1) := by decide +kernel
theorem d_R_move_195 : decode c_R_move 195 = .ok (.iload_n 2, 1) := by decide +kernel
theorem d_R_move_196 : decode c_R_move 196 = .ok (.sipush 1000, 3) := by decide +kernel
theorem d_R_move_199 : decode c_R_move 199 = .ok (.if_icmp .lt 14, 3) := by decide +kernel
theorem d_R_move_202 : decode c_R_move 202 = .ok (.iload_n 2, 1) := by decide +kernel
theorem d_R_move_203 : decode c_R_move 203 = .ok (.sipush 1000, 3) := by decide +kernel
theorem d_R_move_206 : decode c_R_move 206 = .ok (.isub, 1) := by decide +kernel
theorem d_R_move_207 : decode c_R_move 207 = .ok (.bipush 100, 2) := by decide +kernel
theorem d_R_move_209 : decode c_R_move 209 = .ok (.idiv, 1) := by decide +kernel
theorem d_R_move_210 : decode c_R_move 210 = .ok (.goto 4, 3) := by decide +kernel
theorem d_R_move_213 : decode c_R_move 213 = .ok (.iconst 0, 1) := by decide +kernel
theorem d_R_move_214 : decode c_R_move 214 = .ok (.istore_n 3, 1) := by decide +kernel
theorem d_R_move_215 : decode c_R_move 215 = .ok (.iload_n 2, 1) := by decide +kernel
theorem d_R_move_216 : decode c_R_move 216 = .ok (.sipush 300, 3) := by decide +kernel
theorem d_R_move_219 : decode c_R_move 219 = .ok (.if_icmp .ne 26, 3) := by decide +kernel
theorem d_R_move_222 : decode c_R_move 222 = .ok (.iload_n 1, 1) := by decide +kernel
theorem d_R_move_223 : decode c_R_move 223 = .ok (.iconst 1, 1) := by decide +kernel
theorem d_R_move_224 : decode c_R_move 224 = .ok (.if_icmp .ne 21, 3) := by decide +kernel
theorem d_R_move_227 : decode c_R_move 227 = .ok (.aload_n 0, 1) := by decide +kernel
theorem d_R_move_228 : decode c_R_move 228 = .ok (.aload_n 0, 1) := by decide +kernel
theorem d_R_move_229 : decode c_R_move 229 = .ok (.getfield 38, 3) := by decide +kernel
theorem d_R_move_232 : decode c_R_move 232 = .ok (.iconst 0, 1) := by decide +kernel
theorem d_R_move_233 : decode c_R_move 233 = .ok (.iaload, 1) := by decide +kernel
theorem d_R_move_234 : decode c_R_move 234 = .ok (.putfield 98, 3) := by decide +kernel
theorem d_R_move_237 : decode c_R_move 237 = .ok (.aload_n 0, 1) := by decide +kernel
theorem d_R_move_238 : decode c_R_move 238 = .ok (.iconst 2, 1) := by decide +kernel
theorem d_R_move_239 : decode c_R_move 239 = .ok (.putfield 57, 3) := by decide +kernel
theorem d_R_move_242 : decode c_R_move 242 = .ok (.goto 58, 3) := by decide +kernel
theorem d_R_move_245 : decode c_R_move 245 = .ok (.iload_n 2, 1) := by decide +kernel
theorem d_R_move_246 : decode c_R_move 246 = .ok (.sipush 1000, 3) := by decide +kernel
theorem d_R_move_249 : decode c_R_move 249 = .ok (.if_icmp .lt 46, 3) := by decide +kernel
theorem d_R_move_252 : decode c_R_move 252 = .ok (.aload_n 0, 1) := by decide +kernel
theorem d_R_move_253 : decode c_R_move 253 = .ok (.getfield 17, 3) := by decide +kernel
theorem d_R_move_256 : decode c_R_move 256 = .ok (.iload_n 3, 1) := by decide +kernel
theorem d_R_move_257 : decode c_R_move 257 = .ok (.iaload, 1) := by decide +kernel
theorem d_R_move_258 : decode c_R_move 258 = .ok (.iload_n 1, 1) := by decide +kernel
theorem d_R_move_259 : decode c_R_move 259 = .ok (.if_icmp .ne 36, 3) := by decide +kernel
theorem d_R_move_262 : decode c_R_move 262 = .ok (.aload_n 0, 1) := by decide +kernel
theorem d_R_move_263 : decode c_R_move 263 = .ok (.getfield 84, 3) := by decide +kernel
theorem d_R_move_266 : decode c_R_move 266 = .ok (.bipush 64, 2) := by decide +kernel
theorem d_R_move_268 : decode c_R_move 268 = .ok (.if_icmp .ne 10, 3) := by decide +kernel
theorem d_R_move_271 : decode c_R_move 271 = .ok (.aload_n 0, 1) := by decide +kernel
theorem d_R_move_272 : decode c_R_move 272 = .ok (.iconst 4, 1) := by decide +kernel
theorem d_R_move_273 : decode c_R_move 273 = .ok (.putfield 57, 3) := by decide +kernel
theorem d_R_move_276 : decode c_R_move 276 = .ok (.iconst 0, 1) := by decide +kernel
theorem d_R_move_277 : decode c_R_move 277 = .ok (.ireturn, 1) := by decide +kernel
theorem d_R_move_278 : decode c_R_move 278 = .ok (.aload_n 0, 1) := by decide +kernel
theorem d_R_move_279 : decode c_R_move 279 = .ok (.iload_n 3, 1) := by decide +kernel
theorem d_R_move_280 : decode c_R_move 280 = .ok (.iload_n 2, 1) := by decide +kernel
theorem d_R_move_281 : decode c_R_move 281 = .ok (.sipush 1000, 3) := by decide +kernel
theorem d_R_move_284 : decode c_R_move 284 = .ok (.isub, 1) := by decide +kernel
theorem d_R_move_285 : decode c_R_move 285 = .ok (.bipush 100, 2) := by decide +kernel
theorem d_R_move_287 : decode c_R_move 287 = .ok (.irem, 1) := by decide +kernel
theorem d_R_move_288 : decode c_R_move 288 = .ok (.iload_n 1, 1) := by decide +kernel
theorem d_R_move_289 : decode c_R_move 289 = .ok (.invokevirtual 101, 3) := by decide +kernel
theorem d_R_move_292 : decode c_R_move 292 = .ok (.goto 8, 3) := by decide +kernel
theorem d_R_move_295 : decode c_R_move 295 = .ok (.aload_n 0, 1) := by decide +kernel
theorem d_R_move_296 : decode c_R_move 296 = .ok (.iconst 3, 1) := by decide +kernel
theorem d_R_move_297 : decode c_R_move 297 = .ok (.putfield 57, 3) := by decide +kernel
theorem d_R_move_300 : decode c_R_move 300 = .ok (.iconst 1, 1) := by decide +kernel
theorem d_R_move_301 : decode c_R_move 301 = .ok (.ireturn, 1) := by decide +kernel
theorem d_R_valueOf_0 : decode c_R_valueOf 0 = .ok (.iload_n 1, 1) := by decide +kernel
theorem d_R_valueOf_1 : decode c_R_valueOf 1 = .ok (.bipush 100, 2) := by decide +kernel
theorem d_R_valueOf_3 : decode c_R_valueOf 3 = .ok (.if_icmp .lt 10, 3) := by decide +kernel
theorem d_R_valueOf_6 : decode c_R_valueOf 6 = .ok (.iload_n 1, 1) := by decide +kernel
theorem d_R_valueOf_7 : decode c_R_valueOf 7 = .ok (.sipush 300, 3) := by decide +kernel
theorem d_R_valueOf_10 : decode c_R_valueOf 10 = .ok (.if_icmp .lt 5, 3) := by decide +kernel
theorem d_R_valueOf_13 : decode c_R_valueOf 13 = .ok (.iload_n 1, 1) := by decide +kernel
theorem d_R_valueOf_14 : decode c_R_valueOf 14 = .ok (.ireturn, 1) := by decide +kernel
theorem d_R_valueOf_15 : decode c_R_valueOf 15 = .ok (.iload_n 1, 1) := by decide +kernel
theorem d_R_valueOf_16 : decode c_R_valueOf 16 = .ok (.sipush 200, 3) := by decide +kernel
theorem d_R_valueOf_19 : decode c_R_valueOf 19 = .ok (.if_icmp .lt 21, 3) := by decide +kernel
theorem d_R_valueOf_22 : decode c_R_valueOf 22 = .ok (.sipush 1000, 3) := by decide +kernel
theorem d_R_valueOf_25 : decode c_R_valueOf 25 = .ok (.bipush 100, 2) := by decide +kernel
theorem d_R_valueOf_27 : decode c_R_valueOf 27 = .ok (.iload_n 1, 1) := by decide +kernel
theorem d_R_valueOf_28 : decode c_R_valueOf 28 = .ok (.sipush 200, 3) := by decide +kernel
theorem d_R_valueOf_31 : decode c_R_valueOf 31 = .ok (.isub, 1) := by decide +kernel
theorem d_R_valueOf_32 : decode c_R_valueOf 32 = .ok (.imul, 1) := by decide +kernel
theorem d_R_valueOf_33 : decode c_R_valueOf 33 = .ok (.iadd, 1) := by decide +kernel
theorem d_R_valueOf_34 : decode c_R_valueOf 34 = .ok (.aload_n 0, 1) := by decide +kernel
theorem d_R_valueOf_35 : decode c_R_valueOf 35 = .ok (.getfield 81, 3) := by decide +kernel
theorem d_R_valueOf_38 : decode c_R_valueOf 38 = .ok (.iadd, 1) := by decide +kernel
theorem d_R_valueOf_39 : decode c_R_valueOf 39 = .ok (.ireturn, 1) := by decide +kernel
theorem d_R_valueOf_40 : decode c_R_valueOf 40 = .ok (.aload_n 0, 1) := by decide +kernel
theorem d_R_valueOf_41 : decode c_R_valueOf 41 = .ok (.iload_n 1, 1) := by decide +kernel
theorem d_R_valueOf_42 : decode c_R_valueOf 42 = .ok (.bipush 100, 2) := by decide +kernel
theorem d_R_valueOf_44 : decode c_R_valueOf 44 = .ok (.isub, 1) := by decide +kernel
theorem d_R_valueOf_45 : decode c_R_valueOf 45 = .ok (.bipush 10, 2) := by decide +kernel
theorem d_R_valueOf_47 : decode c_R_valueOf 47 = .ok (.idiv, 1) := by decide +kernel
theorem d_R_valueOf_48 : decode c_R_valueOf 48 = .ok (.aload_n 0, 1) := by decide +kernel
theorem d_R_valueOf_49 : decode c_R_valueOf 49 = .ok (.getfield 81, 3) := by decide +kernel
theorem d_R_valueOf_52 : decode c_R_valueOf 52 = .ok (.invokevirtual 87, 3) := by decide +kernel
theorem d_R_valueOf_55 : decode c_R_valueOf 55 = .ok (.istore_n 2, 1) := by decide +kernel
theorem d_R_valueOf_56 : decode c_R_valueOf 56 = .ok (.iload_n 2, 1) := by decide +kernel
theorem d_R_valueOf_57 : decode c_R_valueOf 57 = .ok (.ifCond .ge 7, 3) := by decide +kernel
theorem d_R_valueOf_60 : decode c_R_valueOf 60 = .ok (.iconst 0, 1) := by decide +kernel
theorem d_R_valueOf_61 : decode c_R_valueOf 61 = .ok (.goto 16, 3) := by decide +kernel
theorem d_R_valueOf_64 : decode c_R_valueOf 64 = .ok (.aload_n 0, 1) := by decide +kernel
theorem d_R_valueOf_65 : decode c_R_valueOf 65 = .ok (.getfield 35, 3) := by decide +kernel
theorem d_R_valueOf_68 : decode c_R_valueOf 68 = .ok (.iconst 3, 1) := by decide +kernel
theorem d_R_valueOf_69 : decode c_R_valueOf 69 = .ok (.iload_n 2, 1) := by decide +kernel
theorem d_R_valueOf_70 : decode c_R_valueOf 70 = .ok (.imul, 1) := by decide +kernel
theorem d_R_valueOf_71 : decode c_R_valueOf 71 = .ok (.iload_n 1, 1) := by decide +kernel
theorem d_R_valueOf_72 : decode c_R_valueOf 72 = .ok (.bipush 10, 2) := by decide +kernel
theorem d_R_valueOf_74 : decode c_R_valueOf 74 = .ok (.irem, 1) := by decide +kernel
theorem d_R_valueOf_75 : decode c_R_valueOf 75 = .ok (.iadd, 1) := by decide +kernel
theorem d_R_valueOf_76 : decode c_R_valueOf 76 = .ok (.iaload, 1) := by decide +kernel
theorem d_R_valueOf_77 : decode c_R_valueOf 77 = .ok (.ireturn, 1) := by decide +kernel
theorem d_R_envOf_0 : decode c_R_envOf 0 = .ok (.iload_n 2, 1) := by decide +kernel
theorem d_R_envOf_1 : decode c_R_envOf 1 = .ok (.istore_n 3, 1) := by decide +kernel
theorem d_R_envOf_2 : decode c_R_envOf 2 = .ok (.iload_n 3, 1) := by decide +kernel
theorem d_R_envOf_3 : decode c_R_envOf 3 = .ok (.ifCond .lt 23, 3) := by decide +kernel
theorem d_R_envOf_6 : decode c_R_envOf 6 = .ok (.aload_n 0, 1) := by decide +kernel
theorem d_R_envOf_7 : decode c_R_envOf 7 = .ok (.getfield 29, 3) := by decide +kernel
theorem d_R_envOf_10 : decode c_R_envOf 10 = .ok (.iload_n 3, 1) := by decide +kernel
theorem d_R_envOf_11 : decode c_R_envOf 11 = .ok (.iaload, 1) := by decide +kernel
theorem d_R_envOf_12 : decode c_R_envOf 12 = .ok (.iload_n 1, 1) := by decide +kernel
theorem d_R_envOf_13 : decode c_R_envOf 13 = .ok (.if_icmp .eq 13, 3) := by decide +kernel
theorem d_R_envOf_16 : decode c_R_envOf 16 = .ok (.aload_n 0, 1) := by decide +kernel
theorem d_R_envOf_17 : decode c_R_envOf 17 = .ok (.getfield 32, 3) := by decide +kernel
theorem d_R_envOf_20 : decode c_R_envOf 20 = .ok (.iload_n 3, 1) := by decide +kernel
theorem d_R_envOf_21 : decode c_R_envOf 21 = .ok (.iaload, 1) := by decide +kernel
theorem d_R_envOf_22 : decode c_R_envOf 22 = .ok (.istore_n 3, 1) := by decide +kernel
theorem d_R_envOf_23 : decode c_R_envOf 23 = .ok (.goto (-21), 3) := by decide +kernel
theorem d_R_envOf_26 : decode c_R_envOf 26 = .ok (.iload_n 3, 1) := by decide +kernel
theorem d_R_envOf_27 : decode c_R_envOf 27 = .ok (.ireturn, 1) := by decide +kernel
theorem d_R_isNumber_0 : decode c_R_isNumber 0 = .ok (.iload_n 0, 1) := by decide +kernel
theorem d_R_isNumber_1 : decode c_R_isNumber 1 = .ok (.bipush 10, 2) := by decide +kernel
theorem d_R_isNumber_3 : decode c_R_isNumber 3 = .ok (.if_icmp .ge 7, 3) := by decide +kernel
theorem d_R_isNumber_6 : decode c_R_isNumber 6 = .ok (.iconst 1, 1) := by decide +kernel
theorem d_R_isNumber_7 : decode c_R_isNumber 7 = .ok (.goto 4, 3) := by decide +kernel
theorem d_R_isNumber_10 : decode c_R_isNumber 10 = .ok (.iconst 0, 1) := by decide +kernel
theorem d_R_isNumber_11 : decode c_R_isNumber 11 = .ok (.ireturn, 1) := by decide +kernel
theorem d_R_enter_0 : decode c_R_enter 0 = .ok (.aload_n 0, 1) := by decide +kernel
theorem d_R_enter_1 : decode c_R_enter 1 = .ok (.getfield 26, 3) := by decide +kernel
theorem d_R_enter_4 : decode c_R_enter 4 = .ok (.aload_n 0, 1) := by decide +kernel
theorem d_R_enter_5 : decode c_R_enter 5 = .ok (.getfield 78, 3) := by decide +kernel
theorem d_R_enter_8 : decode c_R_enter 8 = .ok (.aload_n 0, 1) := by decide +kernel
theorem d_R_enter_9 : decode c_R_enter 9 = .ok (.getfield 26, 3) := by decide +kernel
theorem d_R_enter_12 : decode c_R_enter 12 = .ok (.aload_n 0, 1) := by decide +kernel
theorem d_R_enter_13 : decode c_R_enter 13 = .ok (.getfield 78, 3) := by decide +kernel
theorem d_R_enter_16 : decode c_R_enter 16 = .ok (.iaload, 1) := by decide +kernel
theorem d_R_enter_17 : decode c_R_enter 17 = .ok (.iconst 1, 1) := by decide +kernel
theorem d_R_enter_18 : decode c_R_enter 18 = .ok (.iload_n 1, 1) := by decide +kernel
theorem d_R_enter_19 : decode c_R_enter 19 = .ok (.ishl, 1) := by decide +kernel
theorem d_R_enter_20 : decode c_R_enter 20 = .ok (.ior, 1) := by decide +kernel
theorem d_R_enter_21 : decode c_R_enter 21 = .ok (.iastore, 1) := by decide +kernel
theorem d_R_enter_22 : decode c_R_enter 22 = .ok (.aload_n 0, 1) := by decide +kernel
theorem d_R_enter_23 : decode c_R_enter 23 = .ok (.dup, 1) := by decide +kernel
theorem d_R_enter_24 : decode c_R_enter 24 = .ok (.getfield 84, 3) := by decide +kernel
theorem d_R_enter_27 : decode c_R_enter 27 = .ok (.iconst 1, 1) := by decide +kernel
theorem d_R_enter_28 : decode c_R_enter 28 = .ok (.iadd, 1) := by decide +kernel
theorem d_R_enter_29 : decode c_R_enter 29 = .ok (.putfield 84, 3) := by decide +kernel
theorem d_R_enter_32 : decode c_R_enter 32 = .ok (.aload_n 0, 1) := by decide +kernel
theorem d_R_enter_33 : decode c_R_enter 33 = .ok (.getfield 29, 3) := by decide +kernel
theorem d_R_enter_36 : decode c_R_enter 36 = .ok (.aload_n 0, 1) := by decide +kernel
theorem d_R_enter_37 : decode c_R_enter 37 = .ok (.getfield 84, 3) := by decide +kernel
theorem d_R_enter_40 : decode c_R_enter 40 = .ok (.iload_n 1, 1) := by decide +kernel
theorem d_R_enter_41 : decode c_R_enter 41 = .ok (.iastore, 1) := by decide +kernel
theorem d_R_enter_42 : decode c_R_enter 42 = .ok (.aload_n 0, 1) := by decide +kernel
theorem d_R_enter_43 : decode c_R_enter 43 = .ok (.getfield 32, 3) := by decide +kernel
theorem d_R_enter_46 : decode c_R_enter 46 = .ok (.aload_n 0, 1) := by decide +kernel
theorem d_R_enter_47 : decode c_R_enter 47 = .ok (.getfield 84, 3) := by decide +kernel
theorem d_R_enter_50 : decode c_R_enter 50 = .ok (.iload_n 2, 1) := by decide +kernel
theorem d_R_enter_51 : decode c_R_enter 51 = .ok (.iastore, 1) := by decide +kernel
theorem d_R_enter_52 : decode c_R_enter 52 = .ok (.iconst 0, 1) := by decide +kernel
theorem d_R_enter_53 : decode c_R_enter 53 = .ok (.istore 4, 2) := by decide +kernel
theorem d_R_enter_55 : decode c_R_enter 55 = .ok (.iload 4, 2) := by decide +kernel
theorem d_R_enter_57 : decode c_R_enter 57 = .ok (.iload_n 3, 1) := by decide +kernel
theorem d_R_enter_58 : decode c_R_enter 58 = .ok (.if_icmp .ge 30, 3) := by decide +kernel
theorem d_R_enter_61 : decode c_R_enter 61 = .ok (.aload_n 0, 1) := by decide +kernel
theorem d_R_enter_62 : decode c_R_enter 62 = .ok (.getfield 35, 3) := by decide +kernel
theorem d_R_enter_65 : decode c_R_enter 65 = .ok (.iconst 3, 1) := by decide +kernel
theorem d_R_enter_66 : decode c_R_enter 66 = .ok (.aload_n 0, 1) := by decide +kernel
theorem d_R_enter_67 : decode c_R_enter 67 = .ok (.getfield 84, 3) := by decide +kernel
theorem d_R_enter_70 : decode c_R_enter 70 = .ok (.imul, 1) := by decide +kernel
theorem d_R_enter_71 : decode c_R_enter 71 = .ok (.iload 4, 2) := by decide +kernel
theorem d_R_enter_73 : decode c_R_enter 73 = .ok (.iadd, 1) := by decide +kernel
theorem d_R_enter_74 : decode c_R_enter 74 = .ok (.aload_n 0, 1) := by decide +kernel
theorem d_R_enter_75 : decode c_R_enter 75 = .ok (.getfield 38, 3) := by decide +kernel
theorem d_R_enter_78 : decode c_R_enter 78 = .ok (.iload 4, 2) := by decide +kernel
theorem d_R_enter_80 : decode c_R_enter 80 = .ok (.iaload, 1) := by decide +kernel
theorem d_R_enter_81 : decode c_R_enter 81 = .ok (.iastore, 1) := by decide +kernel
theorem d_R_enter_82 : decode c_R_enter 82 = .ok (.iinc 4 1, 3) := by decide +kernel
theorem d_R_enter_85 : decode c_R_enter 85 = .ok (.goto (-30), 3) := by decide +kernel
theorem d_R_enter_88 : decode c_R_enter 88 = .ok (.aload_n 0, 1) := by decide +kernel
theorem d_R_enter_89 : decode c_R_enter 89 = .ok (.aload_n 0, 1) := by decide +kernel
theorem d_R_enter_90 : decode c_R_enter 90 = .ok (.getfield 84, 3) := by decide +kernel
theorem d_R_enter_93 : decode c_R_enter 93 = .ok (.putfield 81, 3) := by decide +kernel
theorem d_R_enter_96 : decode c_R_enter 96 = .ok (.aload_n 0, 1) := by decide +kernel
theorem d_R_enter_97 : decode c_R_enter 97 = .ok (.iload_n 1, 1) := by decide +kernel
theorem d_R_enter_98 : decode c_R_enter 98 = .ok (.putfield 78, 3) := by decide +kernel
theorem d_R_enter_101 : decode c_R_enter 101 = .ok (.return_, 1) := by decide +kernel
theorem d_R_state_0 : decode c_R_state 0 = .ok (.aload_n 0, 1) := by decide +kernel
theorem d_R_state_1 : decode c_R_state 1 = .ok (.getfield 57, 3) := by decide +kernel
theorem d_R_state_4 : decode c_R_state 4 = .ok (.ireturn, 1) := by decide +kernel
theorem d_R_at_0 : decode c_R_at 0 = .ok (.aload_n 0, 1) := by decide +kernel
theorem d_R_at_1 : decode c_R_at 1 = .ok (.getfield 57, 3) := by decide +kernel
theorem d_R_at_4 : decode c_R_at 4 = .ok (.ifCond .ne 7, 3) := by decide +kernel
theorem d_R_at_7 : decode c_R_at 7 = .ok (.iconst (-1), 1) := by decide +kernel
theorem d_R_at_8 : decode c_R_at 8 = .ok (.goto 7, 3) := by decide +kernel
theorem d_R_at_11 : decode c_R_at 11 = .ok (.aload_n 0, 1) := by decide +kernel
theorem d_R_at_12 : decode c_R_at 12 = .ok (.getfield 78, 3) := by decide +kernel
theorem d_R_at_15 : decode c_R_at 15 = .ok (.ireturn, 1) := by decide +kernel
theorem d_R_value_0 : decode c_R_value 0 = .ok (.aload_n 0, 1) := by decide +kernel
theorem d_R_value_1 : decode c_R_value 1 = .ok (.getfield 57, 3) := by decide +kernel
theorem d_R_value_4 : decode c_R_value 4 = .ok (.ifCond .eq 25, 3) := by decide +kernel
theorem d_R_value_7 : decode c_R_value 7 = .ok (.aload_n 0, 1) := by decide +kernel
theorem d_R_value_8 : decode c_R_value 8 = .ok (.iload_n 1, 1) := by decide +kernel
theorem d_R_value_9 : decode c_R_value 9 = .ok (.invokevirtual 64, 3) := by decide +kernel
theorem d_R_value_12 : decode c_R_value 12 = .ok (.ifCond .eq 17, 3) := by decide +kernel
theorem d_R_value_15 : decode c_R_value 15 = .ok (.iload_n 2, 1) := by decide +kernel
theorem d_R_value_16 : decode c_R_value 16 = .ok (.ifCond .lt 13, 3) := by decide +kernel
theorem d_R_value_19 : decode c_R_value 19 = .ok (.iload_n 2, 1) := by decide +kernel
theorem d_R_value_20 : decode c_R_value 20 = .ok (.aload_n 0, 1) := by decide +kernel
theorem d_R_value_21 : decode c_R_value 21 = .ok (.getfield 17, 3) := by decide +kernel
theorem d_R_value_24 : decode c_R_value 24 = .ok (.iload_n 1, 1) := by decide +kernel
theorem d_R_value_25 : decode c_R_value 25 = .ok (.iaload, 1) := by decide +kernel
theorem d_R_value_26 : decode c_R_value 26 = .ok (.if_icmp .lt 5, 3) := by decide +kernel
theorem d_R_value_29 : decode c_R_value 29 = .ok (.iconst (-1), 1) := by decide +kernel
theorem d_R_value_30 : decode c_R_value 30 = .ok (.ireturn, 1) := by decide +kernel
theorem d_R_value_31 : decode c_R_value 31 = .ok (.aload_n 0, 1) := by decide +kernel
theorem d_R_value_32 : decode c_R_value 32 = .ok (.iload_n 1, 1) := by decide +kernel
theorem d_R_value_33 : decode c_R_value 33 = .ok (.aload_n 0, 1) := by decide +kernel
theorem d_R_value_34 : decode c_R_value 34 = .ok (.getfield 81, 3) := by decide +kernel
theorem d_R_value_37 : decode c_R_value 37 = .ok (.invokevirtual 87, 3) := by decide +kernel
theorem d_R_value_40 : decode c_R_value 40 = .ok (.istore_n 3, 1) := by decide +kernel
theorem d_R_value_41 : decode c_R_value 41 = .ok (.iload_n 3, 1) := by decide +kernel
theorem d_R_value_42 : decode c_R_value 42 = .ok (.ifCond .ge 7, 3) := by decide +kernel
theorem d_R_value_45 : decode c_R_value 45 = .ok (.iconst (-1), 1) := by decide +kernel
theorem d_R_value_46 : decode c_R_value 46 = .ok (.goto 16, 3) := by decide +kernel
theorem d_R_value_49 : decode c_R_value 49 = .ok (.aload_n 0, 1) := by decide +kernel
theorem d_R_value_50 : decode c_R_value 50 = .ok (.getfield 35, 3) := by decide +kernel
theorem d_R_value_53 : decode c_R_value 53 = .ok (.iconst 3, 1) := by decide +kernel
theorem d_R_value_54 : decode c_R_value 54 = .ok (.iload_n 3, 1) := by decide +kernel
theorem d_R_value_55 : decode c_R_value 55 = .ok (.imul, 1) := by decide +kernel
theorem d_R_value_56 : decode c_R_value 56 = .ok (.iload_n 2, 1) := by decide +kernel
theorem d_R_value_57 : decode c_R_value 57 = .ok (.iadd, 1) := by decide +kernel
theorem d_R_value_58 : decode c_R_value 58 = .ok (.iaload, 1) := by decide +kernel
theorem d_R_value_59 : decode c_R_value 59 = .ok (.invokestatic 109, 3) := by decide +kernel
theorem d_R_value_62 : decode c_R_value 62 = .ok (.ireturn, 1) := by decide +kernel
theorem d_R_told_0 : decode c_R_told 0 = .ok (.iload_n 0, 1) := by decide +kernel
theorem d_R_told_1 : decode c_R_told 1 = .ok (.sipush 1000, 3) := by decide +kernel
theorem d_R_told_4 : decode c_R_told 4 = .ok (.if_icmp .ge 7, 3) := by decide +kernel
theorem d_R_told_7 : decode c_R_told 7 = .ok (.iload_n 0, 1) := by decide +kernel
theorem d_R_told_8 : decode c_R_told 8 = .ok (.goto 15, 3) := by decide +kernel
theorem d_R_told_11 : decode c_R_told 11 = .ok (.sipush 200, 3) := by decide +kernel
theorem d_R_told_14 : decode c_R_told 14 = .ok (.iload_n 0, 1) := by decide +kernel
theorem d_R_told_15 : decode c_R_told 15 = .ok (.sipush 1000, 3) := by decide +kernel
theorem d_R_told_18 : decode c_R_told 18 = .ok (.isub, 1) := by decide +kernel
theorem d_R_told_19 : decode c_R_told 19 = .ok (.bipush 100, 2) := by decide +kernel
theorem d_R_told_21 : decode c_R_told 21 = .ok (.idiv, 1) := by decide +kernel
theorem d_R_told_22 : decode c_R_told 22 = .ok (.iadd, 1) := by decide +kernel
theorem d_R_told_23 : decode c_R_told 23 = .ok (.ireturn, 1) := by decide +kernel
theorem d_R_result_0 : decode c_R_result 0 = .ok (.aload_n 0, 1) := by decide +kernel
theorem d_R_result_1 : decode c_R_result 1 = .ok (.getfield 57, 3) := by decide +kernel
theorem d_R_result_4 : decode c_R_result 4 = .ok (.iconst 2, 1) := by decide +kernel
theorem d_R_result_5 : decode c_R_result 5 = .ok (.if_icmp .ne 13, 3) := by decide +kernel
theorem d_R_result_8 : decode c_R_result 8 = .ok (.aload_n 0, 1) := by decide +kernel
theorem d_R_result_9 : decode c_R_result 9 = .ok (.getfield 98, 3) := by decide +kernel
theorem d_R_result_12 : decode c_R_result 12 = .ok (.invokestatic 109, 3) := by decide +kernel
theorem d_R_result_15 : decode c_R_result 15 = .ok (.goto 4, 3) := by decide +kernel
theorem d_R_result_18 : decode c_R_result 18 = .ok (.iconst (-1), 1) := by decide +kernel
theorem d_R_result_19 : decode c_R_result 19 = .ok (.ireturn, 1) := by decide +kernel
theorem d_R_called_0 : decode c_R_called 0 = .ok (.aload_n 0, 1) := by decide +kernel
theorem d_R_called_1 : decode c_R_called 1 = .ok (.getfield 57, 3) := by decide +kernel
theorem d_R_called_4 : decode c_R_called 4 = .ok (.ifCond .eq 11, 3) := by decide +kernel
theorem d_R_called_7 : decode c_R_called 7 = .ok (.aload_n 0, 1) := by decide +kernel
theorem d_R_called_8 : decode c_R_called 8 = .ok (.iload_n 1, 1) := by decide +kernel
theorem d_R_called_9 : decode c_R_called 9 = .ok (.invokevirtual 64, 3) := by decide +kernel
theorem d_R_called_12 : decode c_R_called 12 = .ok (.ifCond .ne 7, 3) := by decide +kernel
theorem d_R_called_15 : decode c_R_called 15 = .ok (.iconst (-1), 1) := by decide +kernel
theorem d_R_called_16 : decode c_R_called 16 = .ok (.goto 9, 3) := by decide +kernel
theorem d_R_called_19 : decode c_R_called 19 = .ok (.aload_n 0, 1) := by decide +kernel
theorem d_R_called_20 : decode c_R_called 20 = .ok (.getfield 26, 3) := by decide +kernel
theorem d_R_called_23 : decode c_R_called 23 = .ok (.iload_n 1, 1) := by decide +kernel
theorem d_R_called_24 : decode c_R_called 24 = .ok (.iaload, 1) := by decide +kernel
theorem d_R_called_25 : decode c_R_called 25 = .ok (.ireturn, 1) := by decide +kernel
theorem d_R_analyse_0 : decode c_R_analyse 0 = .ok (.iload_n 1, 1) := by decide +kernel
theorem d_R_analyse_1 : decode c_R_analyse 1 = .ok (.ifCond .eq 10, 3) := by decide +kernel
theorem d_R_analyse_4 : decode c_R_analyse 4 = .ok (.iload_n 1, 1) := by decide +kernel
theorem d_R_analyse_5 : decode c_R_analyse 5 = .ok (.iconst 1, 1) := by decide +kernel
theorem d_R_analyse_6 : decode c_R_analyse 6 = .ok (.if_icmp .eq 5, 3) := by decide +kernel
theorem d_R_analyse_9 : decode c_R_analyse 9 = .ok (.iconst (-1), 1) := by decide +kernel
theorem d_R_analyse_10 : decode c_R_analyse 10 = .ok (.ireturn, 1) := by decide +kernel
theorem d_R_analyse_11 : decode c_R_analyse 11 = .ok (.aload_n 0, 1) := by decide +kernel
theorem d_R_analyse_12 : decode c_R_analyse 12 = .ok (.iload_n 1, 1) := by decide +kernel
theorem d_R_analyse_13 : decode c_R_analyse 13 = .ok (.putfield 117, 3) := by decide +kernel
theorem d_R_analyse_16 : decode c_R_analyse 16 = .ok (.aload_n 0, 1) := by decide +kernel
theorem d_R_analyse_17 : decode c_R_analyse 17 = .ok (.iconst 1, 1) := by decide +kernel
theorem d_R_analyse_18 : decode c_R_analyse 18 = .ok (.putfield 60, 3) := by decide +kernel
theorem d_R_analyse_21 : decode c_R_analyse 21 = .ok (.iconst 0, 1) := by decide +kernel
theorem d_R_analyse_22 : decode c_R_analyse 22 = .ok (.istore_n 2, 1) := by decide +kernel
theorem d_R_analyse_23 : decode c_R_analyse 23 = .ok (.iload_n 2, 1) := by decide +kernel
theorem d_R_analyse_24 : decode c_R_analyse 24 = .ok (.sipush 192, 3) := by decide +kernel
theorem d_R_analyse_27 : decode c_R_analyse 27 = .ok (.if_icmp .ge 23, 3) := by decide +kernel
theorem d_R_analyse_30 : decode c_R_analyse 30 = .ok (.aload_n 0, 1) := by decide +kernel
theorem d_R_analyse_31 : decode c_R_analyse 31 = .ok (.getfield 41, 3) := by decide +kernel
theorem d_R_analyse_34 : decode c_R_analyse 34 = .ok (.iload_n 2, 1) := by decide +kernel
theorem d_R_analyse_35 : decode c_R_analyse 35 = .ok (.iconst 0, 1) := by decide +kernel
theorem d_R_analyse_36 : decode c_R_analyse 36 = .ok (.iastore, 1) := by decide +kernel
theorem d_R_analyse_37 : decode c_R_analyse 37 = .ok (.aload_n 0, 1) := by decide +kernel
theorem d_R_analyse_38 : decode c_R_analyse 38 = .ok (.getfield 44, 3) := by decide +kernel
theorem d_R_analyse_41 : decode c_R_analyse 41 = .ok (.iload_n 2, 1) := by decide +kernel
theorem d_R_analyse_42 : decode c_R_analyse 42 = .ok (.lconst 0, 1) := by decide +kernel
theorem d_R_analyse_43 : decode c_R_analyse 43 = .ok (.lastore, 1) := by decide +kernel
theorem d_R_analyse_44 : decode c_R_analyse 44 = .ok (.iinc 2 1, 3) := by decide +kernel
theorem d_R_analyse_47 : decode c_R_analyse 47 = .ok (.goto (-24), 3) := by decide +kernel
theorem d_R_analyse_50 : decode c_R_analyse 50 = .ok (.iconst 0, 1) := by decide +kernel
theorem d_R_analyse_51 : decode c_R_analyse 51 = .ok (.istore_n 2, 1) := by decide +kernel
theorem d_R_analyse_52 : decode c_R_analyse 52 = .ok (.iload_n 2, 1) := by decide +kernel
theorem d_R_analyse_53 : decode c_R_analyse 53 = .ok (.bipush 8, 2) := by decide +kernel
theorem d_R_analyse_55 : decode c_R_analyse 55 = .ok (.if_icmp .ge 16, 3) := by decide +kernel
theorem d_R_analyse_58 : decode c_R_analyse 58 = .ok (.aload_n 0, 1) := by decide +kernel
theorem d_R_analyse_59 : decode c_R_analyse 59 = .ok (.getfield 48, 3) := by decide +kernel
theorem d_R_analyse_62 : decode c_R_analyse 62 = .ok (.iload_n 2, 1) := by decide +kernel
theorem d_R_analyse_63 : decode c_R_analyse 63 = .ok (.iconst 0, 1) := by decide +kernel
theorem d_R_analyse_64 : decode c_R_analyse 64 = .ok (.iastore, 1) := by decide +kernel
theorem d_R_analyse_65 : decode c_R_analyse 65 = .ok (.iinc 2 1, 3) := by decide +kernel
theorem d_R_analyse_68 : decode c_R_analyse 68 = .ok (.goto (-16), 3) := by decide +kernel
theorem d_R_analyse_71 : decode c_R_analyse 71 = .ok (.aload_n 0, 1) := by decide +kernel
theorem d_R_analyse_72 : decode c_R_analyse 72 = .ok (.lconst 1, 1) := by decide +kernel
theorem d_R_analyse_73 : decode c_R_analyse 73 = .ok (.putfield 128, 3) := by decide +kernel
theorem d_R_analyse_76 : decode c_R_analyse 76 = .ok (.aload_n 0, 1) := by decide +kernel
theorem d_R_analyse_77 : decode c_R_analyse 77 = .ok (.iconst 0, 1) := by decide +kernel
theorem d_R_analyse_78 : decode c_R_analyse 78 = .ok (.putfield 132, 3) := by decide +kernel
theorem d_R_analyse_81 : decode c_R_analyse 81 = .ok (.aload_n 0, 1) := by decide +kernel
theorem d_R_analyse_82 : decode c_R_analyse 82 = .ok (.iconst 1, 1) := by decide +kernel
theorem d_R_analyse_83 : decode c_R_analyse 83 = .ok (.putfield 114, 3) := by decide +kernel
theorem d_R_analyse_86 : decode c_R_analyse 86 = .ok (.iconst 0, 1) := by decide +kernel
theorem d_R_analyse_87 : decode c_R_analyse 87 = .ok (.istore_n 2, 1) := by decide +kernel
theorem d_R_analyse_88 : decode c_R_analyse 88 = .ok (.iload_n 2, 1) := by decide +kernel
theorem d_R_analyse_89 : decode c_R_analyse 89 = .ok (.sipush 20000, 3) := by decide +kernel
theorem d_R_analyse_92 : decode c_R_analyse 92 = .ok (.if_icmp .ge 88, 3) := by decide +kernel
theorem d_R_analyse_95 : decode c_R_analyse 95 = .ok (.aload_n 0, 1) := by decide +kernel
theorem d_R_analyse_96 : decode c_R_analyse 96 = .ok (.getfield 114, 3) := by decide +kernel
theorem d_R_analyse_99 : decode c_R_analyse 99 = .ok (.ifCond .eq 81, 3) := by decide +kernel
theorem d_R_analyse_102 : decode c_R_analyse 102 = .ok (.aload_n 0, 1) := by decide +kernel
theorem d_R_analyse_103 : decode c_R_analyse 103 = .ok (.iconst 0, 1) := by decide +kernel
theorem d_R_analyse_104 : decode c_R_analyse 104 = .ok (.putfield 114, 3) := by decide +kernel
theorem d_R_analyse_107 : decode c_R_analyse 107 = .ok (.iconst 0, 1) := by decide +kernel
theorem d_R_analyse_108 : decode c_R_analyse 108 = .ok (.istore_n 3, 1) := by decide +kernel
theorem d_R_analyse_109 : decode c_R_analyse 109 = .ok (.iload_n 3, 1) := by decide +kernel
theorem d_R_analyse_110 : decode c_R_analyse 110 = .ok (.aload_n 0, 1) := by decide +kernel
theorem d_R_analyse_111 : decode c_R_analyse 111 = .ok (.getfield 7, 3) := by decide +kernel
theorem d_R_analyse_114 : decode c_R_analyse 114 = .ok (.if_icmp .ge 60, 3) := by decide +kernel
theorem d_R_analyse_117 : decode c_R_analyse 117 = .ok (.iconst 0, 1) := by decide +kernel
theorem d_R_analyse_118 : decode c_R_analyse 118 = .ok (.istore 4, 2) := by decide +kernel
theorem d_R_analyse_120 : decode c_R_analyse 120 = .ok (.iload 4, 2) := by decide +kernel
theorem d_R_analyse_122 : decode c_R_analyse 122 = .ok (.bipush 8, 2) := by decide +kernel
theorem d_R_analyse_124 : decode c_R_analyse 124 = .ok (.if_icmp .ge 44, 3) := by decide +kernel
theorem d_R_analyse_127 : decode c_R_analyse 127 = .ok (.aload_n 0, 1) := by decide +kernel
theorem d_R_analyse_128 : decode c_R_analyse 128 = .ok (.getfield 128, 3) := by decide +kernel
theorem d_R_analyse_131 : decode c_R_analyse 131 = .ok (.bipush 8, 2) := by decide +kernel
theorem d_R_analyse_133 : decode c_R_analyse 133 = .ok (.iload_n 3, 1) := by decide +kernel
theorem d_R_analyse_134 : decode c_R_analyse 134 = .ok (.imul, 1) := by decide +kernel
theorem d_R_analyse_135 : decode c_R_analyse 135 = .ok (.iload 4, 2) := by decide +kernel
theorem d_R_analyse_137 : decode c_R_analyse 137 = .ok (.iadd, 1) := by decide +kernel
theorem d_R_analyse_138 : decode c_R_analyse 138 = .ok (.lushr, 1) := by decide +kernel
theorem d_R_analyse_139 : decode c_R_analyse 139 = .ok (.lconst 1, 1) := by decide +kernel
theorem d_R_analyse_140 : decode c_R_analyse 140 = .ok (.land, 1) := by decide +kernel
theorem d_R_analyse_141 : decode c_R_analyse 141 = .ok (.lconst 1, 1) := by decide +kernel
theorem d_R_analyse_142 : decode c_R_analyse 142 = .ok (.lcmp, 1) := by decide +kernel
theorem d_R_analyse_143 : decode c_R_analyse 143 = .ok (.ifCond .ne 19, 3) := by decide +kernel
theorem d_R_analyse_146 : decode c_R_analyse 146 = .ok (.aload_n 0, 1) := by decide +kernel
theorem d_R_analyse_147 : decode c_R_analyse 147 = .ok (.getfield 20, 3) := by decide +kernel
theorem d_R_analyse_150 : decode c_R_analyse 150 = .ok (.iload_n 3, 1) := by decide +kernel
theorem d_R_analyse_151 : decode c_R_analyse 151 = .ok (.iaload, 1) := by decide +kernel
theorem d_R_analyse_152 : decode c_R_analyse 152 = .ok (.ifCond .le 10, 3) := by decide +kernel
theorem d_R_analyse_155 : decode c_R_analyse 155 = .ok (.aload_n 0, 1) := by decide +kernel
theorem d_R_analyse_156 : decode c_R_analyse 156 = .ok (.iload_n 3, 1) := by decide +kernel
theorem d_R_analyse_157 : decode c_R_analyse 157 = .ok (.iload 4, 2) := by decide +kernel
theorem d_R_analyse_159 : decode c_R_analyse 159 = .ok (.invokevirtual 149, 3) := by decide +kernel
theorem d_R_analyse_162 : decode c_R_analyse 162 = .ok (.iinc 4 1, 3) := by decide +kernel
theorem d_R_analyse_165 : decode c_R_analyse 165 = .ok (.goto (-45), 3) := by decide +kernel
theorem d_R_analyse_168 : decode c_R_analyse 168 = .ok (.iinc 3 1, 3) := by decide +kernel
theorem d_R_analyse_171 : decode c_R_analyse 171 = .ok (.goto (-62), 3) := by decide +kernel
theorem d_R_analyse_174 : decode c_R_analyse 174 = .ok (.iinc 2 1, 3) := by decide +kernel
theorem d_R_analyse_177 : decode c_R_analyse 177 = .ok (.goto (-89), 3) := by decide +kernel
theorem d_R_analyse_180 : decode c_R_analyse 180 = .ok (.iconst 0, 1) := by decide +kernel
theorem d_R_analyse_181 : decode c_R_analyse 181 = .ok (.istore_n 2, 1) := by decide +kernel
theorem d_R_analyse_182 : decode c_R_analyse 182 = .ok (.iconst 0, 1) := by decide +kernel
theorem d_R_analyse_183 : decode c_R_analyse 183 = .ok (.istore_n 3, 1) := by decide +kernel
theorem d_R_analyse_184 : decode c_R_analyse 184 = .ok (.iload_n 3, 1) := by decide +kernel
theorem d_R_analyse_185 : decode c_R_analyse 185 = .ok (.bipush 64, 2) := by decide +kernel
theorem d_R_analyse_187 : decode c_R_analyse 187 = .ok (.if_icmp .ge 30, 3) := by decide +kernel
theorem d_R_analyse_190 : decode c_R_analyse 190 = .ok (.aload_n 0, 1) := by decide +kernel
theorem d_R_analyse_191 : decode c_R_analyse 191 = .ok (.getfield 128, 3) := by decide +kernel
theorem d_R_analyse_194 : decode c_R_analyse 194 = .ok (.iload_n 3, 1) := by decide +kernel
theorem d_R_analyse_195 : decode c_R_analyse 195 = .ok (.lushr, 1) := by decide +kernel
theorem d_R_analyse_196 : decode c_R_analyse 196 = .ok (.lconst 1, 1) := by decide +kernel
theorem d_R_analyse_197 : decode c_R_analyse 197 = .ok (.land, 1) := by decide +kernel
theorem d_R_analyse_198 : decode c_R_analyse 198 = .ok (.lconst 1, 1) := by decide +kernel
theorem d_R_analyse_199 : decode c_R_analyse 199 = .ok (.lcmp, 1) := by decide +kernel
theorem d_R_analyse_200 : decode c_R_analyse 200 = .ok (.ifCond .ne 9, 3) := by decide +kernel
theorem d_R_analyse_203 : decode c_R_analyse 203 = .ok (.iload_n 2, 1) := by decide +kernel
theorem d_R_analyse_204 : decode c_R_analyse 204 = .ok (.iconst 1, 1) := by decide +kernel
theorem d_R_analyse_205 : decode c_R_analyse 205 = .ok (.iadd, 1) := by decide +kernel
theorem d_R_analyse_206 : decode c_R_analyse 206 = .ok (.goto 4, 3) := by decide +kernel
theorem d_R_analyse_209 : decode c_R_analyse 209 = .ok (.iload_n 2, 1) := by decide +kernel
theorem d_R_analyse_210 : decode c_R_analyse 210 = .ok (.istore_n 2, 1) := by decide +kernel
theorem d_R_analyse_211 : decode c_R_analyse 211 = .ok (.iinc 3 1, 3) := by decide +kernel
theorem d_R_analyse_214 : decode c_R_analyse 214 = .ok (.goto (-30), 3) := by decide +kernel
theorem d_R_analyse_217 : decode c_R_analyse 217 = .ok (.iload_n 2, 1) := by decide +kernel
theorem d_R_analyse_218 : decode c_R_analyse 218 = .ok (.ireturn, 1) := by decide +kernel
theorem d_R_visit_0 : decode c_R_visit 0 = .ok (.iconst 0, 1) := by decide +kernel
theorem d_R_visit_1 : decode c_R_visit 1 = .ok (.istore_n 3, 1) := by decide +kernel
theorem d_R_visit_2 : decode c_R_visit 2 = .ok (.iload_n 3, 1) := by decide +kernel
theorem d_R_visit_3 : decode c_R_visit 3 = .ok (.aload_n 0, 1) := by decide +kernel
theorem d_R_visit_4 : decode c_R_visit 4 = .ok (.getfield 20, 3) := by decide +kernel
theorem d_R_visit_7 : decode c_R_visit 7 = .ok (.iload_n 1, 1) := by decide +kernel
theorem d_R_visit_8 : decode c_R_visit 8 = .ok (.iaload, 1) := by decide +kernel
theorem d_R_visit_9 : decode c_R_visit 9 = .ok (.if_icmp .ge 16, 3) := by decide +kernel
theorem d_R_visit_12 : decode c_R_visit 12 = .ok (.aload_n 0, 1) := by decide +kernel
theorem d_R_visit_13 : decode c_R_visit 13 = .ok (.iload_n 1, 1) := by decide +kernel
theorem d_R_visit_14 : decode c_R_visit 14 = .ok (.iload_n 2, 1) := by decide +kernel
theorem d_R_visit_15 : decode c_R_visit 15 = .ok (.iload_n 3, 1) := by decide +kernel
theorem d_R_visit_16 : decode c_R_visit 16 = .ok (.invokevirtual 135, 3) := by decide +kernel
theorem d_R_visit_19 : decode c_R_visit 19 = .ok (.iinc 3 1, 3) := by decide +kernel
theorem d_R_visit_22 : decode c_R_visit 22 = .ok (.goto (-20), 3) := by decide +kernel
theorem d_R_visit_25 : decode c_R_visit 25 = .ok (.aload_n 0, 1) := by decide +kernel
theorem d_R_visit_26 : decode c_R_visit 26 = .ok (.getfield 20, 3) := by decide +kernel
theorem d_R_visit_29 : decode c_R_visit 29 = .ok (.iload_n 1, 1) := by decide +kernel
theorem d_R_visit_30 : decode c_R_visit 30 = .ok (.iaload, 1) := by decide +kernel
theorem d_R_visit_31 : decode c_R_visit 31 = .ok (.iconst 1, 1) := by decide +kernel
theorem d_R_visit_32 : decode c_R_visit 32 = .ok (.isub, 1) := by decide +kernel
theorem d_R_visit_33 : decode c_R_visit 33 = .ok (.istore_n 3, 1) := by decide +kernel
theorem d_R_visit_34 : decode c_R_visit 34 = .ok (.aload_n 0, 1) := by decide +kernel
theorem d_R_visit_35 : decode c_R_visit 35 = .ok (.getfield 51, 3) := by decide +kernel
theorem d_R_visit_38 : decode c_R_visit 38 = .ok (.iconst 0, 1) := by decide +kernel
theorem d_R_visit_39 : decode c_R_visit 39 = .ok (.iaload, 1) := by decide +kernel
theorem d_R_visit_40 : decode c_R_visit 40 = .ok (.istore 4, 2) := by decide +kernel
theorem d_R_visit_42 : decode c_R_visit 42 = .ok (.aload_n 0, 1) := by decide +kernel
theorem d_R_visit_43 : decode c_R_visit 43 = .ok (.aload_n 0, 1) := by decide +kernel
theorem d_R_visit_44 : decode c_R_visit 44 = .ok (.getfield 54, 3) := by decide +kernel
theorem d_R_visit_47 : decode c_R_visit 47 = .ok (.iconst 0, 1) := by decide +kernel
theorem d_R_visit_48 : decode c_R_visit 48 = .ok (.laload, 1) := by decide +kernel
theorem d_R_visit_49 : decode c_R_visit 49 = .ok (.iload_n 1, 1) := by decide +kernel
theorem d_R_visit_50 : decode c_R_visit 50 = .ok (.iload_n 3, 1) := by decide +kernel
theorem d_R_visit_51 : decode c_R_visit 51 = .ok (.iconst 1, 1) := by decide +kernel
theorem d_R_visit_52 : decode c_R_visit 52 = .ok (.invokevirtual 138, 3) := by decide +kernel
theorem d_R_visit_55 : decode c_R_visit 55 = .ok (.iload 4, 2) := by decide +kernel
theorem d_R_visit_57 : decode c_R_visit 57 = .ok (.bipush 10, 2) := by decide +kernel
theorem d_R_visit_59 : decode c_R_visit 59 = .ok (.ishr, 1) := by decide +kernel
theorem d_R_visit_60 : decode c_R_visit 60 = .ok (.iconst 1, 1) := by decide +kernel
theorem d_R_visit_61 : decode c_R_visit 61 = .ok (.iand, 1) := by decide +kernel
theorem d_R_visit_62 : decode c_R_visit 62 = .ok (.iconst 1, 1) := by decide +kernel
theorem d_R_visit_63 : decode c_R_visit 63 = .ok (.if_icmp .ne 13, 3) := by decide +kernel
theorem d_R_visit_66 : decode c_R_visit 66 = .ok (.iload_n 3, 1) := by decide +kernel
theorem d_R_visit_67 : decode c_R_visit 67 = .ok (.iconst 1, 1) := by decide +kernel
theorem d_R_visit_68 : decode c_R_visit 68 = .ok (.if_icmp .ne 8, 3) := by decide +kernel
theorem d_R_visit_71 : decode c_R_visit 71 = .ok (.aload_n 0, 1) := by decide +kernel
theorem d_R_visit_72 : decode c_R_visit 72 = .ok (.iconst 1, 1) := by decide +kernel
theorem d_R_visit_73 : decode c_R_visit 73 = .ok (.invokevirtual 142, 3) := by decide +kernel
theorem d_R_visit_76 : decode c_R_visit 76 = .ok (.iload 4, 2) := by decide +kernel
theorem d_R_visit_78 : decode c_R_visit 78 = .ok (.bipush 12, 2) := by decide +kernel
theorem d_R_visit_80 : decode c_R_visit 80 = .ok (.ishr, 1) := by decide +kernel
theorem d_R_visit_81 : decode c_R_visit 81 = .ok (.iconst 1, 1) := by decide +kernel
theorem d_R_visit_82 : decode c_R_visit 82 = .ok (.iand, 1) := by decide +kernel
theorem d_R_visit_83 : decode c_R_visit 83 = .ok (.iconst 1, 1) := by decide +kernel
theorem d_R_visit_84 : decode c_R_visit 84 = .ok (.if_icmp .ne 59, 3) := by decide +kernel
theorem d_R_visit_87 : decode c_R_visit 87 = .ok (.iload_n 3, 1) := by decide +kernel
theorem d_R_visit_88 : decode c_R_visit 88 = .ok (.iconst 3, 1) := by decide +kernel
theorem d_R_visit_89 : decode c_R_visit 89 = .ok (.if_icmp .ne 54, 3) := by decide +kernel
theorem d_R_visit_92 : decode c_R_visit 92 = .ok (.aload_n 0, 1) := by decide +kernel
theorem d_R_visit_93 : decode c_R_visit 93 = .ok (.getfield 51, 3) := by decide +kernel
theorem d_R_visit_96 : decode c_R_visit 96 = .ok (.iconst 1, 1) := by decide +kernel
theorem d_R_visit_97 : decode c_R_visit 97 = .ok (.iaload, 1) := by decide +kernel
theorem d_R_visit_98 : decode c_R_visit 98 = .ok (.iconst 1, 1) := by decide +kernel
theorem d_R_visit_99 : decode c_R_visit 99 = .ok (.iand, 1) := by decide +kernel
theorem d_R_visit_100 : decode c_R_visit 100 = .ok (.iconst 1, 1) := by decide +kernel
theorem d_R_visit_101 : decode c_R_visit 101 = .ok (.if_icmp .ne 16, 3) := by decide +kernel
theorem d_R_visit_104 : decode c_R_visit 104 = .ok (.aload_n 0, 1) := by decide +kernel
theorem d_R_visit_105 : decode c_R_visit 105 = .ok (.aload_n 0, 1) := by decide +kernel
theorem d_R_visit_106 : decode c_R_visit 106 = .ok (.getfield 54, 3) := by decide +kernel
theorem d_R_visit_109 : decode c_R_visit 109 = .ok (.iconst 2, 1) := by decide +kernel
theorem d_R_visit_110 : decode c_R_visit 110 = .ok (.laload, 1) := by decide +kernel
theorem d_R_visit_111 : decode c_R_visit 111 = .ok (.iload_n 1, 1) := by decide +kernel
theorem d_R_visit_112 : decode c_R_visit 112 = .ok (.iconst 0, 1) := by decide +kernel
theorem d_R_visit_113 : decode c_R_visit 113 = .ok (.iconst 1, 1) := by decide +kernel
theorem d_R_visit_114 : decode c_R_visit 114 = .ok (.invokevirtual 138, 3) := by decide +kernel
theorem d_R_visit_117 : decode c_R_visit 117 = .ok (.aload_n 0, 1) := by decide +kernel
theorem d_R_visit_118 : decode c_R_visit 118 = .ok (.getfield 51, 3) := by decide +kernel
theorem d_R_visit_121 : decode c_R_visit 121 = .ok (.iconst 1, 1) := by decide +kernel
theorem d_R_visit_122 : decode c_R_visit 122 = .ok (.iaload, 1) := by decide +kernel
theorem d_R_visit_123 : decode c_R_visit 123 = .ok (.sipush 1022, 3) := by decide +kernel
theorem d_R_visit_126 : decode c_R_visit 126 = .ok (.iand, 1) := by decide +kernel
theorem d_R_visit_127 : decode c_R_visit 127 = .ok (.ifCond .eq 16, 3) := by decide +kernel
theorem d_R_visit_130 : decode c_R_visit 130 = .ok (.aload_n 0, 1) := by decide +kernel
theorem d_R_visit_131 : decode c_R_visit 131 = .ok (.aload_n 0, 1) := by decide +kernel
theorem d_R_visit_132 : decode c_R_visit 132 = .ok (.getfield 54, 3) := by decide +kernel
theorem d_R_visit_135 : decode c_R_visit 135 = .ok (.iconst 3, 1) := by decide +kernel
theorem d_R_visit_136 : decode c_R_visit 136 = .ok (.laload, 1) := by decide +kernel
theorem d_R_visit_137 : decode c_R_visit 137 = .ok (.iload_n 1, 1) := by decide +kernel
theorem d_R_visit_138 : decode c_R_visit 138 = .ok (.iconst 0, 1) := by decide +kernel
theorem d_R_visit_139 : decode c_R_visit 139 = .ok (.iconst 1, 1) := by decide +kernel
theorem d_R_visit_140 : decode c_R_visit 140 = .ok (.invokevirtual 138, 3) := by decide +kernel
theorem d_R_visit_143 : decode c_R_visit 143 = .ok (.iload 4, 2) := by decide +kernel
theorem d_R_visit_145 : decode c_R_visit 145 = .ok (.bipush 11, 2) := by decide +kernel
theorem d_R_visit_147 : decode c_R_visit 147 = .ok (.ishr, 1) := by decide +kernel
theorem d_R_visit_148 : decode c_R_visit 148 = .ok (.iconst 1, 1) := by decide +kernel
theorem d_R_visit_149 : decode c_R_visit 149 = .ok (.iand, 1) := by decide +kernel
theorem d_R_visit_150 : decode c_R_visit 150 = .ok (.iconst 1, 1) := by decide +kernel
theorem d_R_visit_151 : decode c_R_visit 151 = .ok (.if_icmp .ne 78, 3) := by decide +kernel
theorem d_R_visit_154 : decode c_R_visit 154 = .ok (.iload_n 3, 1) := by decide +kernel
theorem d_R_visit_155 : decode c_R_visit 155 = .ok (.iconst 3, 1) := by decide +kernel
theorem d_R_visit_156 : decode c_R_visit 156 = .ok (.if_icmp .ne 73, 3) := by decide +kernel
theorem d_R_visit_159 : decode c_R_visit 159 = .ok (.aload_n 0, 1) := by decide +kernel
theorem d_R_visit_160 : decode c_R_visit 160 = .ok (.getfield 51, 3) := by decide +kernel
theorem d_R_visit_163 : decode c_R_visit 163 = .ok (.iconst 1, 1) := by decide +kernel
theorem d_R_visit_164 : decode c_R_visit 164 = .ok (.iaload, 1) := by decide +kernel
theorem d_R_visit_165 : decode c_R_visit 165 = .ok (.aload_n 0, 1) := by decide +kernel
theorem d_R_visit_166 : decode c_R_visit 166 = .ok (.getfield 51, 3) := by decide +kernel
theorem d_R_visit_169 : decode c_R_visit 169 = .ok (.iconst 2, 1) := by decide +kernel
theorem d_R_visit_170 : decode c_R_visit 170 = .ok (.iaload, 1) := by decide +kernel
theorem d_R_visit_171 : decode c_R_visit 171 = .ok (.invokestatic 146, 3) := by decide +kernel
theorem d_R_visit_174 : decode c_R_visit 174 = .ok (.istore 5, 2) := by decide +kernel
theorem d_R_visit_176 : decode c_R_visit 176 = .ok (.iload 5, 2) := by decide +kernel
theorem d_R_visit_178 : decode c_R_visit 178 = .ok (.ifCond .eq 51, 3) := by decide +kernel
theorem d_R_visit_181 : decode c_R_visit 181 = .ok (.aload_n 0, 1) := by decide +kernel
theorem d_R_visit_182 : decode c_R_visit 182 = .ok (.getfield 51, 3) := by decide +kernel
theorem d_R_visit_185 : decode c_R_visit 185 = .ok (.iconst 1, 1) := by decide +kernel
theorem d_R_visit_186 : decode c_R_visit 186 = .ok (.iload 5, 2) := by decide +kernel
theorem d_R_visit_188 : decode c_R_visit 188 = .ok (.iastore, 1) := by decide +kernel
theorem d_R_visit_189 : decode c_R_visit 189 = .ok (.aload_n 0, 1) := by decide +kernel
theorem d_R_visit_190 : decode c_R_visit 190 = .ok (.getfield 54, 3) := by decide +kernel
theorem d_R_visit_193 : decode c_R_visit 193 = .ok (.iconst 1, 1) := by decide +kernel
theorem d_R_visit_194 : decode c_R_visit 194 = .ok (.lconst 0, 1) := by decide +kernel
theorem d_R_visit_195 : decode c_R_visit 195 = .ok (.lastore, 1) := by decide +kernel
theorem d_R_visit_196 : decode c_R_visit 196 = .ok (.aload_n 0, 1) := by decide +kernel
theorem d_R_visit_197 : decode c_R_visit 197 = .ok (.aload_n 0, 1) := by decide +kernel
theorem d_R_visit_198 : decode c_R_visit 198 = .ok (.getfield 54, 3) := by decide +kernel
theorem d_R_visit_201 : decode c_R_visit 201 = .ok (.iconst 3, 1) := by decide +kernel
theorem d_R_visit_202 : decode c_R_visit 202 = .ok (.laload, 1) := by decide +kernel
theorem d_R_visit_203 : decode c_R_visit 203 = .ok (.iload_n 1, 1) := by decide +kernel
theorem d_R_visit_204 : decode c_R_visit 204 = .ok (.iconst 1, 1) := by decide +kernel
theorem d_R_visit_205 : decode c_R_visit 205 = .ok (.iconst 1, 1) := by decide +kernel
theorem d_R_visit_206 : decode c_R_visit 206 = .ok (.invokevirtual 138, 3) := by decide +kernel
theorem d_R_visit_209 : decode c_R_visit 209 = .ok (.aload_n 0, 1) := by decide +kernel
theorem d_R_visit_210 : decode c_R_visit 210 = .ok (.getfield 51, 3) := by decide +kernel
theorem d_R_visit_213 : decode c_R_visit 213 = .ok (.iconst 3, 1) := by decide +kernel
theorem d_R_visit_214 : decode c_R_visit 214 = .ok (.iaload, 1) := by decide +kernel
theorem d_R_visit_215 : decode c_R_visit 215 = .ok (.bipush 10, 2) := by decide +kernel
theorem d_R_visit_217 : decode c_R_visit 217 = .ok (.ishr, 1) := by decide +kernel
theorem d_R_visit_218 : decode c_R_visit 218 = .ok (.iconst 1, 1) := by decide +kernel
theorem d_R_visit_219 : decode c_R_visit 219 = .ok (.iand, 1) := by decide +kernel
theorem d_R_visit_220 : decode c_R_visit 220 = .ok (.iconst 1, 1) := by decide +kernel
theorem d_R_visit_221 : decode c_R_visit 221 = .ok (.if_icmp .ne 8, 3) := by decide +kernel
theorem d_R_visit_224 : decode c_R_visit 224 = .ok (.aload_n 0, 1) := by decide +kernel
theorem d_R_visit_225 : decode c_R_visit 225 = .ok (.iconst 1, 1) := by decide +kernel
theorem d_R_visit_226 : decode c_R_visit 226 = .ok (.invokevirtual 142, 3) := by decide +kernel
theorem d_R_visit_229 : decode c_R_visit 229 = .ok (.return_, 1) := by decide +kernel
theorem d_R_look_0 : decode c_R_look 0 = .ok (.aload_n 0, 1) := by decide +kernel
theorem d_R_look_1 : decode c_R_look 1 = .ok (.getfield 23, 3) := by decide +kernel
theorem d_R_look_4 : decode c_R_look 4 = .ok (.iconst 4, 1) := by decide +kernel
theorem d_R_look_5 : decode c_R_look 5 = .ok (.iload_n 1, 1) := by decide +kernel
theorem d_R_look_6 : decode c_R_look 6 = .ok (.imul, 1) := by decide +kernel
theorem d_R_look_7 : decode c_R_look 7 = .ok (.iload_n 3, 1) := by decide +kernel
theorem d_R_look_8 : decode c_R_look 8 = .ok (.iadd, 1) := by decide +kernel
theorem d_R_look_9 : decode c_R_look 9 = .ok (.iaload, 1) := by decide +kernel
theorem d_R_look_10 : decode c_R_look 10 = .ok (.istore 4, 2) := by decide +kernel
theorem d_R_look_12 : decode c_R_look 12 = .ok (.aload_n 0, 1) := by decide +kernel
theorem d_R_look_13 : decode c_R_look 13 = .ok (.getfield 51, 3) := by decide +kernel
theorem d_R_look_16 : decode c_R_look 16 = .ok (.iload_n 3, 1) := by decide +kernel
theorem d_R_look_17 : decode c_R_look 17 = .ok (.iconst 0, 1) := by decide +kernel
theorem d_R_look_18 : decode c_R_look 18 = .ok (.iastore, 1) := by decide +kernel
theorem d_R_look_19 : decode c_R_look 19 = .ok (.aload_n 0, 1) := by decide +kernel
theorem d_R_look_20 : decode c_R_look 20 = .ok (.getfield 54, 3) := by decide +kernel
theorem d_R_look_23 : decode c_R_look 23 = .ok (.iload_n 3, 1) := by decide +kernel
theorem d_R_look_24 : decode c_R_look 24 = .ok (.lconst 0, 1) := by decide +kernel
theorem d_R_look_25 : decode c_R_look 25 = .ok (.lastore, 1) := by decide +kernel
theorem d_R_look_26 : decode c_R_look 26 = .ok (.iload 4, 2) := by decide +kernel
theorem d_R_look_28 : decode c_R_look 28 = .ok (.bipush 10, 2) := by decide +kernel
theorem d_R_look_30 : decode c_R_look 30 = .ok (.if_icmp .ge 16, 3) := by decide +kernel
theorem d_R_look_33 : decode c_R_look 33 = .ok (.aload_n 0, 1) := by decide +kernel
theorem d_R_look_34 : decode c_R_look 34 = .ok (.getfield 51, 3) := by decide +kernel
theorem d_R_look_37 : decode c_R_look 37 = .ok (.iload_n 3, 1) := by decide +kernel
theorem d_R_look_38 : decode c_R_look 38 = .ok (.iconst 1, 1) := by decide +kernel
theorem d_R_look_39 : decode c_R_look 39 = .ok (.iload 4, 2) := by decide +kernel
theorem d_R_look_41 : decode c_R_look 41 = .ok (.ishl, 1) := by decide +kernel
theorem d_R_look_42 : decode c_R_look 42 = .ok (.iastore, 1) := by decide +kernel
theorem d_R_look_43 : decode c_R_look 43 = .ok (.goto 110, 3) := by decide +kernel
theorem d_R_look_46 : decode c_R_look 46 = .ok (.iload 4, 2) := by decide +kernel
theorem d_R_look_48 : decode c_R_look 48 = .ok (.sipush 300, 3) := by decide +kernel
theorem d_R_look_51 : decode c_R_look 51 = .ok (.if_icmp .lt 23, 3) := by decide +kernel
theorem d_R_look_54 : decode c_R_look 54 = .ok (.aload_n 0, 1) := by decide +kernel
theorem d_R_look_55 : decode c_R_look 55 = .ok (.getfield 51, 3) := by decide +kernel
theorem d_R_look_58 : decode c_R_look 58 = .ok (.iload_n 3, 1) := by decide +kernel
theorem d_R_look_59 : decode c_R_look 59 = .ok (.iconst 1, 1) := by decide +kernel
theorem d_R_look_60 : decode c_R_look 60 = .ok (.iload 4, 2) := by decide +kernel
theorem d_R_look_62 : decode c_R_look 62 = .ok (.sipush 300, 3) := by decide +kernel
theorem d_R_look_65 : decode c_R_look 65 = .ok (.isub, 1) := by decide +kernel
theorem d_R_look_66 : decode c_R_look 66 = .ok (.bipush 10, 2) := by decide +kernel
theorem d_R_look_68 : decode c_R_look 68 = .ok (.iadd, 1) := by decide +kernel
theorem d_R_look_69 : decode c_R_look 69 = .ok (.ishl, 1) := by decide +kernel
theorem d_R_look_70 : decode c_R_look 70 = .ok (.iastore, 1) := by decide +kernel
theorem d_R_look_71 : decode c_R_look 71 = .ok (.goto 82, 3) := by decide +kernel
theorem d_R_look_74 : decode c_R_look 74 = .ok (.iload 4, 2) := by decide +kernel
theorem d_R_look_76 : decode c_R_look 76 = .ok (.sipush 200, 3) := by decide +kernel
theorem d_R_look_79 : decode c_R_look 79 = .ok (.if_icmp .lt 25, 3) := by decide +kernel
theorem d_R_look_82 : decode c_R_look 82 = .ok (.aload_n 0, 1) := by decide +kernel
theorem d_R_look_83 : decode c_R_look 83 = .ok (.getfield 54, 3) := by decide +kernel
theorem d_R_look_86 : decode c_R_look 86 = .ok (.iload_n 3, 1) := by decide +kernel
theorem d_R_look_87 : decode c_R_look 87 = .ok (.lconst 1, 1) := by decide +kernel
theorem d_R_look_88 : decode c_R_look 88 = .ok (.bipush 8, 2) := by decide +kernel
theorem d_R_look_90 : decode c_R_look 90 = .ok (.iload 4, 2) := by decide +kernel
theorem d_R_look_92 : decode c_R_look 92 = .ok (.sipush 200, 3) := by decide +kernel
theorem d_R_look_95 : decode c_R_look 95 = .ok (.isub, 1) := by decide +kernel
theorem d_R_look_96 : decode c_R_look 96 = .ok (.imul, 1) := by decide +kernel
theorem d_R_look_97 : decode c_R_look 97 = .ok (.iload_n 2, 1) := by decide +kernel
theorem d_R_look_98 : decode c_R_look 98 = .ok (.iadd, 1) := by decide +kernel
theorem d_R_look_99 : decode c_R_look 99 = .ok (.lshl, 1) := by decide +kernel
theorem d_R_look_100 : decode c_R_look 100 = .ok (.lastore, 1) := by decide +kernel
theorem d_R_look_101 : decode c_R_look 101 = .ok (.goto 52, 3) := by decide +kernel
theorem d_R_look_104 : decode c_R_look 104 = .ok (.bipush 8, 2) := by decide +kernel
theorem d_R_look_106 : decode c_R_look 106 = .ok (.iconst 3, 1) := by decide +kernel
theorem d_R_look_107 : decode c_R_look 107 = .ok (.iload 4, 2) := by decide +kernel
theorem d_R_look_109 : decode c_R_look 109 = .ok (.bipush 100, 2) := by decide +kernel
theorem d_R_look_111 : decode c_R_look 111 = .ok (.isub, 1) := by decide +kernel
theorem d_R_look_112 : decode c_R_look 112 = .ok (.bipush 10, 2) := by decide +kernel
theorem d_R_look_114 : decode c_R_look 114 = .ok (.idiv, 1) := by decide +kernel
theorem d_R_look_115 : decode c_R_look 115 = .ok (.imul, 1) := by decide +kernel
theorem d_R_look_116 : decode c_R_look 116 = .ok (.iload 4, 2) := by decide +kernel
theorem d_R_look_118 : decode c_R_look 118 = .ok (.bipush 10, 2) := by decide +kernel
theorem d_R_look_120 : decode c_R_look 120 = .ok (.irem, 1) := by decide +kernel
theorem d_R_look_121 : decode c_R_look 121 = .ok (.iadd, 1) := by decide +kernel
theorem d_R_look_122 : decode c_R_look 122 = .ok (.imul, 1) := by decide +kernel
theorem d_R_look_123 : decode c_R_look 123 = .ok (.iload_n 2, 1) := by decide +kernel
theorem d_R_look_124 : decode c_R_look 124 = .ok (.iadd, 1) := by decide +kernel
theorem d_R_look_125 : decode c_R_look 125 = .ok (.istore 5, 2) := by decide +kernel
theorem d_R_look_127 : decode c_R_look 127 = .ok (.aload_n 0, 1) := by decide +kernel
theorem d_R_look_128 : decode c_R_look 128 = .ok (.getfield 51, 3) := by decide +kernel
theorem d_R_look_131 : decode c_R_look 131 = .ok (.iload_n 3, 1) := by decide +kernel
theorem d_R_look_132 : decode c_R_look 132 = .ok (.aload_n 0, 1) := by decide +kernel
theorem d_R_look_133 : decode c_R_look 133 = .ok (.getfield 41, 3) := by decide +kernel
theorem d_R_look_136 : decode c_R_look 136 = .ok (.iload 5, 2) := by decide +kernel
theorem d_R_look_138 : decode c_R_look 138 = .ok (.iaload, 1) := by decide +kernel
theorem d_R_look_139 : decode c_R_look 139 = .ok (.iastore, 1) := by decide +kernel
theorem d_R_look_140 : decode c_R_look 140 = .ok (.aload_n 0, 1) := by decide +kernel
theorem d_R_look_141 : decode c_R_look 141 = .ok (.getfield 54, 3) := by decide +kernel
theorem d_R_look_144 : decode c_R_look 144 = .ok (.iload_n 3, 1) := by decide +kernel
theorem d_R_look_145 : decode c_R_look 145 = .ok (.aload_n 0, 1) := by decide +kernel
theorem d_R_look_146 : decode c_R_look 146 = .ok (.getfield 44, 3) := by decide +kernel
theorem d_R_look_149 : decode c_R_look 149 = .ok (.iload 5, 2) := by decide +kernel
theorem d_R_look_151 : decode c_R_look 151 = .ok (.laload, 1) := by decide +kernel
theorem d_R_look_152 : decode c_R_look 152 = .ok (.lastore, 1) := by decide +kernel
theorem d_R_look_153 : decode c_R_look 153 = .ok (.return_, 1) := by decide +kernel
theorem d_R_applyPairs_0 : decode c_R_applyPairs 0 = .ok (.aload_n 0, 1) := by decide +kernel
theorem d_R_applyPairs_1 : decode c_R_applyPairs 1 = .ok (.getfield 117, 3) := by decide +kernel
theorem d_R_applyPairs_4 : decode c_R_applyPairs 4 = .ok (.iconst 1, 1) := by decide +kernel
theorem d_R_applyPairs_5 : decode c_R_applyPairs 5 = .ok (.if_icmp .ne 7, 3) := by decide +kernel
theorem d_R_applyPairs_8 : decode c_R_applyPairs 8 = .ok (.iload_n 3, 1) := by decide +kernel
theorem d_R_applyPairs_9 : decode c_R_applyPairs 9 = .ok (.goto 4, 3) := by decide +kernel
theorem d_R_applyPairs_12 : decode c_R_applyPairs 12 = .ok (.iconst 0, 1) := by decide +kernel
theorem d_R_applyPairs_13 : decode c_R_applyPairs 13 = .ok (.istore 6, 2) := by decide +kernel
theorem d_R_applyPairs_15 : decode c_R_applyPairs 15 = .ok (.iconst 0, 1) := by decide +kernel
theorem d_R_applyPairs_16 : decode c_R_applyPairs 16 = .ok (.istore 7, 2) := by decide +kernel
theorem d_R_applyPairs_18 : decode c_R_applyPairs 18 = .ok (.iload 7, 2) := by decide +kernel
theorem d_R_applyPairs_20 : decode c_R_applyPairs 20 = .ok (.aload_n 0, 1) := by decide +kernel
theorem d_R_applyPairs_21 : decode c_R_applyPairs 21 = .ok (.getfield 7, 3) := by decide +kernel
theorem d_R_applyPairs_24 : decode c_R_applyPairs 24 = .ok (.if_icmp .ge 118, 3) := by decide +kernel
theorem d_R_applyPairs_27 : decode c_R_applyPairs 27 = .ok (.iconst 0, 1) := by decide +kernel
theorem d_R_applyPairs_28 : decode c_R_applyPairs 28 = .ok (.istore 8, 2) := by decide +kernel
theorem d_R_applyPairs_30 : decode c_R_applyPairs 30 = .ok (.iload 8, 2) := by decide +kernel
theorem d_R_applyPairs_32 : decode c_R_applyPairs 32 = .ok (.bipush 8, 2) := by decide +kernel
theorem d_R_applyPairs_34 : decode c_R_applyPairs 34 = .ok (.if_icmp .ge 102, 3) := by decide +kernel
theorem d_R_applyPairs_37 : decode c_R_applyPairs 37 = .ok (.lload_n 1, 1) := by decide +kernel
theorem d_R_applyPairs_38 : decode c_R_applyPairs 38 = .ok (.bipush 8, 2) := by decide +kernel
theorem d_R_applyPairs_40 : decode c_R_applyPairs 40 = .ok (.iload 7, 2) := by decide +kernel
theorem d_R_applyPairs_42 : decode c_R_applyPairs 42 = .ok (.imul, 1) := by decide +kernel
theorem d_R_applyPairs_43 : decode c_R_applyPairs 43 = .ok (.iload 8, 2) := by decide +kernel
theorem d_R_applyPairs_45 : decode c_R_applyPairs 45 = .ok (.iadd, 1) := by decide +kernel
theorem d_R_applyPairs_46 : decode c_R_applyPairs 46 = .ok (.lushr, 1) := by decide +kernel
theorem d_R_applyPairs_47 : decode c_R_applyPairs 47 = .ok (.lconst 1, 1) := by decide +kernel
theorem d_R_applyPairs_48 : decode c_R_applyPairs 48 = .ok (.land, 1) := by decide +kernel
theorem d_R_applyPairs_49 : decode c_R_applyPairs 49 = .ok (.lconst 1, 1) := by decide +kernel
theorem d_R_applyPairs_50 : decode c_R_applyPairs 50 = .ok (.lcmp, 1) := by decide +kernel
theorem d_R_applyPairs_51 : decode c_R_applyPairs 51 = .ok (.ifCond .ne 79, 3) := by decide +kernel
theorem d_R_applyPairs_54 : decode c_R_applyPairs 54 = .ok (.aload_n 0, 1) := by decide +kernel
theorem d_R_applyPairs_55 : decode c_R_applyPairs 55 = .ok (.getfield 17, 3) := by decide +kernel
theorem d_R_applyPairs_58 : decode c_R_applyPairs 58 = .ok (.iload 7, 2) := by decide +kernel
theorem d_R_applyPairs_60 : decode c_R_applyPairs 60 = .ok (.iaload, 1) := by decide +kernel
theorem d_R_applyPairs_61 : decode c_R_applyPairs 61 = .ok (.iload 4, 2) := by decide +kernel
theorem d_R_applyPairs_63 : decode c_R_applyPairs 63 = .ok (.if_icmp .ne 67, 3) := by decide +kernel
theorem d_R_applyPairs_66 : decode c_R_applyPairs 66 = .ok (.aload_n 0, 1) := by decide +kernel
theorem d_R_applyPairs_67 : decode c_R_applyPairs 67 = .ok (.iload 7, 2) := by decide +kernel
theorem d_R_applyPairs_69 : decode c_R_applyPairs 69 = .ok (.iload 8, 2) := by decide +kernel
theorem d_R_applyPairs_71 : decode c_R_applyPairs 71 = .ok (.iload_n 3, 1) := by decide +kernel
theorem d_R_applyPairs_72 : decode c_R_applyPairs 72 = .ok (.iload 6, 2) := by decide +kernel
theorem d_R_applyPairs_74 : decode c_R_applyPairs 74 = .ok (.invokevirtual 120, 3) := by decide +kernel
theorem d_R_applyPairs_77 : decode c_R_applyPairs 77 = .ok (.iconst 0, 1) := by decide +kernel
theorem d_R_applyPairs_78 : decode c_R_applyPairs 78 = .ok (.istore 9, 2) := by decide +kernel
theorem d_R_applyPairs_80 : decode c_R_applyPairs 80 = .ok (.iload 9, 2) := by decide +kernel
theorem d_R_applyPairs_82 : decode c_R_applyPairs 82 = .ok (.iload 4, 2) := by decide +kernel
theorem d_R_applyPairs_84 : decode c_R_applyPairs 84 = .ok (.if_icmp .ge 46, 3) := by decide +kernel
theorem d_R_applyPairs_87 : decode c_R_applyPairs 87 = .ok (.aload_n 0, 1) := by decide +kernel
theorem d_R_applyPairs_88 : decode c_R_applyPairs 88 = .ok (.bipush 8, 2) := by decide +kernel
theorem d_R_applyPairs_90 : decode c_R_applyPairs 90 = .ok (.iconst 3, 1) := by decide +kernel
theorem d_R_applyPairs_91 : decode c_R_applyPairs 91 = .ok (.iload 7, 2) := by decide +kernel
theorem d_R_applyPairs_93 : decode c_R_applyPairs 93 = .ok (.imul, 1) := by decide +kernel
theorem d_R_applyPairs_94 : decode c_R_applyPairs 94 = .ok (.iload 9, 2) := by decide +kernel
theorem d_R_applyPairs_96 : decode c_R_applyPairs 96 = .ok (.iadd, 1) := by decide +kernel
theorem d_R_applyPairs_97 : decode c_R_applyPairs 97 = .ok (.imul, 1) := by decide +kernel
theorem d_R_applyPairs_98 : decode c_R_applyPairs 98 = .ok (.iload 6, 2) := by decide +kernel
theorem d_R_applyPairs_100 : decode c_R_applyPairs 100 = .ok (.iadd, 1) := by decide +kernel
theorem d_R_applyPairs_101 : decode c_R_applyPairs 101 = .ok (.aload_n 0, 1) := by decide +kernel
theorem d_R_applyPairs_102 : decode c_R_applyPairs 102 = .ok (.getfield 51, 3) := by decide +kernel
theorem d_R_applyPairs_105 : decode c_R_applyPairs 105 = .ok (.iload 5, 2) := by decide +kernel
theorem d_R_applyPairs_107 : decode c_R_applyPairs 107 = .ok (.iload 9, 2) := by decide +kernel
theorem d_R_applyPairs_109 : decode c_R_applyPairs 109 = .ok (.iadd, 1) := by decide +kernel
theorem d_R_applyPairs_110 : decode c_R_applyPairs 110 = .ok (.iaload, 1) := by decide +kernel
theorem d_R_applyPairs_111 : decode c_R_applyPairs 111 = .ok (.aload_n 0, 1) := by decide +kernel
theorem d_R_applyPairs_112 : decode c_R_applyPairs 112 = .ok (.getfield 54, 3) := by decide +kernel
theorem d_R_applyPairs_115 : decode c_R_applyPairs 115 = .ok (.iload 5, 2) := by decide +kernel
theorem d_R_applyPairs_117 : decode c_R_applyPairs 117 = .ok (.iload 9, 2) := by decide +kernel
theorem d_R_applyPairs_119 : decode c_R_applyPairs 119 = .ok (.iadd, 1) := by decide +kernel
theorem d_R_applyPairs_120 : decode c_R_applyPairs 120 = .ok (.laload, 1) := by decide +kernel
theorem d_R_applyPairs_121 : decode c_R_applyPairs 121 = .ok (.invokevirtual 124, 3) := by decide +kernel
theorem d_R_applyPairs_124 : decode c_R_applyPairs 124 = .ok (.iinc 9 1, 3) := by decide +kernel
theorem d_R_applyPairs_127 : decode c_R_applyPairs 127 = .ok (.goto (-47), 3) := by decide +kernel
theorem d_R_applyPairs_130 : decode c_R_applyPairs 130 = .ok (.iinc 8 1, 3) := by decide +kernel
theorem d_R_applyPairs_133 : decode c_R_applyPairs 133 = .ok (.goto (-103), 3) := by decide +kernel
theorem d_R_applyPairs_136 : decode c_R_applyPairs 136 = .ok (.iinc 7 1, 3) := by decide +kernel
theorem d_R_applyPairs_139 : decode c_R_applyPairs 139 = .ok (.goto (-121), 3) := by decide +kernel
theorem d_R_applyPairs_142 : decode c_R_applyPairs 142 = .ok (.return_, 1) := by decide +kernel
theorem d_R_callPair_0 : decode c_R_callPair 0 = .ok (.lconst 1, 1) := by decide +kernel
theorem d_R_callPair_1 : decode c_R_callPair 1 = .ok (.bipush 8, 2) := by decide +kernel
theorem d_R_callPair_3 : decode c_R_callPair 3 = .ok (.iload_n 1, 1) := by decide +kernel
theorem d_R_callPair_4 : decode c_R_callPair 4 = .ok (.imul, 1) := by decide +kernel
theorem d_R_callPair_5 : decode c_R_callPair 5 = .ok (.iload 4, 2) := by decide +kernel
theorem d_R_callPair_7 : decode c_R_callPair 7 = .ok (.iadd, 1) := by decide +kernel
theorem d_R_callPair_8 : decode c_R_callPair 8 = .ok (.lshl, 1) := by decide +kernel
theorem d_R_callPair_9 : decode c_R_callPair 9 = .ok (.lstore 5, 2) := by decide +kernel
theorem d_R_callPair_11 : decode c_R_callPair 11 = .ok (.aload_n 0, 1) := by decide +kernel
theorem d_R_callPair_12 : decode c_R_callPair 12 = .ok (.aload_n 0, 1) := by decide +kernel
theorem d_R_callPair_13 : decode c_R_callPair 13 = .ok (.getfield 114, 3) := by decide +kernel
theorem d_R_callPair_16 : decode c_R_callPair 16 = .ok (.ifCond .ne 28, 3) := by decide +kernel
theorem d_R_callPair_19 : decode c_R_callPair 19 = .ok (.aload_n 0, 1) := by decide +kernel
theorem d_R_callPair_20 : decode c_R_callPair 20 = .ok (.getfield 128, 3) := by decide +kernel
theorem d_R_callPair_23 : decode c_R_callPair 23 = .ok (.lload 5, 2) := by decide +kernel
theorem d_R_callPair_25 : decode c_R_callPair 25 = .ok (.land, 1) := by decide +kernel
theorem d_R_callPair_26 : decode c_R_callPair 26 = .ok (.lconst 0, 1) := by decide +kernel
theorem d_R_callPair_27 : decode c_R_callPair 27 = .ok (.lcmp, 1) := by decide +kernel
theorem d_R_callPair_28 : decode c_R_callPair 28 = .ok (.ifCond .eq 16, 3) := by decide +kernel
theorem d_R_callPair_31 : decode c_R_callPair 31 = .ok (.aload_n 0, 1) := by decide +kernel
theorem d_R_callPair_32 : decode c_R_callPair 32 = .ok (.getfield 48, 3) := by decide +kernel
theorem d_R_callPair_35 : decode c_R_callPair 35 = .ok (.iload_n 3, 1) := by decide +kernel
theorem d_R_callPair_36 : decode c_R_callPair 36 = .ok (.iaload, 1) := by decide +kernel
theorem d_R_callPair_37 : decode c_R_callPair 37 = .ok (.iload_n 1, 1) := by decide +kernel
theorem d_R_callPair_38 : decode c_R_callPair 38 = .ok (.ishr, 1) := by decide +kernel
theorem d_R_callPair_39 : decode c_R_callPair 39 = .ok (.iconst 1, 1) := by decide +kernel
theorem d_R_callPair_40 : decode c_R_callPair 40 = .ok (.iand, 1) := by decide +kernel
theorem d_R_callPair_41 : decode c_R_callPair 41 = .ok (.ifCond .ne 7, 3) := by decide +kernel
theorem d_R_callPair_44 : decode c_R_callPair 44 = .ok (.iconst 1, 1) := by decide +kernel
theorem d_R_callPair_45 : decode c_R_callPair 45 = .ok (.goto 4, 3) := by decide +kernel
theorem d_R_callPair_48 : decode c_R_callPair 48 = .ok (.iconst 0, 1) := by decide +kernel
theorem d_R_callPair_49 : decode c_R_callPair 49 = .ok (.putfield 114, 3) := by decide +kernel
theorem d_R_callPair_52 : decode c_R_callPair 52 = .ok (.aload_n 0, 1) := by decide +kernel
theorem d_R_callPair_53 : decode c_R_callPair 53 = .ok (.aload_n 0, 1) := by decide +kernel
theorem d_R_callPair_54 : decode c_R_callPair 54 = .ok (.getfield 128, 3) := by decide +kernel
theorem d_R_callPair_57 : decode c_R_callPair 57 = .ok (.lload 5, 2) := by decide +kernel
theorem d_R_callPair_59 : decode c_R_callPair 59 = .ok (.lor, 1) := by decide +kernel
theorem d_R_callPair_60 : decode c_R_callPair 60 = .ok (.putfield 128, 3) := by decide +kernel
theorem d_R_callPair_63 : decode c_R_callPair 63 = .ok (.aload_n 0, 1) := by decide +kernel
theorem d_R_callPair_64 : decode c_R_callPair 64 = .ok (.getfield 48, 3) := by decide +kernel
theorem d_R_callPair_67 : decode c_R_callPair 67 = .ok (.iload_n 3, 1) := by decide +kernel
theorem d_R_callPair_68 : decode c_R_callPair 68 = .ok (.aload_n 0, 1) := by decide +kernel
theorem d_R_callPair_69 : decode c_R_callPair 69 = .ok (.getfield 48, 3) := by decide +kernel
theorem d_R_callPair_72 : decode c_R_callPair 72 = .ok (.iload_n 3, 1) := by decide +kernel
theorem d_R_callPair_73 : decode c_R_callPair 73 = .ok (.iaload, 1) := by decide +kernel
theorem d_R_callPair_74 : decode c_R_callPair 74 = .ok (.iconst 1, 1) := by decide +kernel
theorem d_R_callPair_75 : decode c_R_callPair 75 = .ok (.iload_n 1, 1) := by decide +kernel
theorem d_R_callPair_76 : decode c_R_callPair 76 = .ok (.ishl, 1) := by decide +kernel
theorem d_R_callPair_77 : decode c_R_callPair 77 = .ok (.ior, 1) := by decide +kernel
theorem d_R_callPair_78 : decode c_R_callPair 78 = .ok (.iastore, 1) := by decide +kernel
theorem d_R_callPair_79 : decode c_R_callPair 79 = .ok (.aload_n 0, 1) := by decide +kernel
theorem d_R_callPair_80 : decode c_R_callPair 80 = .ok (.getfield 13, 3) := by decide +kernel
theorem d_R_callPair_83 : decode c_R_callPair 83 = .ok (.iload_n 1, 1) := by decide +kernel
theorem d_R_callPair_84 : decode c_R_callPair 84 = .ok (.iaload, 1) := by decide +kernel
theorem d_R_callPair_85 : decode c_R_callPair 85 = .ok (.istore 7, 2) := by decide +kernel
theorem d_R_callPair_87 : decode c_R_callPair 87 = .ok (.iload 7, 2) := by decide +kernel
theorem d_R_callPair_89 : decode c_R_callPair 89 = .ok (.ifCond .lt 75, 3) := by decide +kernel
theorem d_R_callPair_92 : decode c_R_callPair 92 = .ok (.iconst 0, 1) := by decide +kernel
theorem d_R_callPair_93 : decode c_R_callPair 93 = .ok (.istore 8, 2) := by decide +kernel
theorem d_R_callPair_95 : decode c_R_callPair 95 = .ok (.iload 8, 2) := by decide +kernel
theorem d_R_callPair_97 : decode c_R_callPair 97 = .ok (.aload_n 0, 1) := by decide +kernel
theorem d_R_callPair_98 : decode c_R_callPair 98 = .ok (.getfield 17, 3) := by decide +kernel
theorem d_R_callPair_101 : decode c_R_callPair 101 = .ok (.iload 7, 2) := by decide +kernel
theorem d_R_callPair_103 : decode c_R_callPair 103 = .ok (.iaload, 1) := by decide +kernel
theorem d_R_callPair_104 : decode c_R_callPair 104 = .ok (.if_icmp .ge 48, 3) := by decide +kernel
theorem d_R_callPair_107 : decode c_R_callPair 107 = .ok (.bipush 8, 2) := by decide +kernel
theorem d_R_callPair_109 : decode c_R_callPair 109 = .ok (.iconst 3, 1) := by decide +kernel
theorem d_R_callPair_110 : decode c_R_callPair 110 = .ok (.iload 7, 2) := by decide +kernel
theorem d_R_callPair_112 : decode c_R_callPair 112 = .ok (.imul, 1) := by decide +kernel
theorem d_R_callPair_113 : decode c_R_callPair 113 = .ok (.iload 8, 2) := by decide +kernel
theorem d_R_callPair_115 : decode c_R_callPair 115 = .ok (.iadd, 1) := by decide +kernel
theorem d_R_callPair_116 : decode c_R_callPair 116 = .ok (.imul, 1) := by decide +kernel
theorem d_R_callPair_117 : decode c_R_callPair 117 = .ok (.istore 9, 2) := by decide +kernel
theorem d_R_callPair_119 : decode c_R_callPair 119 = .ok (.aload_n 0, 1) := by decide +kernel
theorem d_R_callPair_120 : decode c_R_callPair 120 = .ok (.iload 9, 2) := by decide +kernel
theorem d_R_callPair_122 : decode c_R_callPair 122 = .ok (.iload 4, 2) := by decide +kernel
theorem d_R_callPair_124 : decode c_R_callPair 124 = .ok (.iadd, 1) := by decide +kernel
theorem d_R_callPair_125 : decode c_R_callPair 125 = .ok (.aload_n 0, 1) := by decide +kernel
theorem d_R_callPair_126 : decode c_R_callPair 126 = .ok (.getfield 41, 3) := by decide +kernel
theorem d_R_callPair_129 : decode c_R_callPair 129 = .ok (.iload 9, 2) := by decide +kernel
theorem d_R_callPair_131 : decode c_R_callPair 131 = .ok (.iload_n 2, 1) := by decide +kernel
theorem d_R_callPair_132 : decode c_R_callPair 132 = .ok (.iadd, 1) := by decide +kernel
theorem d_R_callPair_133 : decode c_R_callPair 133 = .ok (.iaload, 1) := by decide +kernel
theorem d_R_callPair_134 : decode c_R_callPair 134 = .ok (.aload_n 0, 1) := by decide +kernel
theorem d_R_callPair_135 : decode c_R_callPair 135 = .ok (.getfield 44, 3) := by decide +kernel
theorem d_R_callPair_138 : decode c_R_callPair 138 = .ok (.iload 9, 2) := by decide +kernel
theorem d_R_callPair_140 : decode c_R_callPair 140 = .ok (.iload_n 2, 1) := by decide +kernel
theorem d_R_callPair_141 : decode c_R_callPair 141 = .ok (.iadd, 1) := by decide +kernel
theorem d_R_callPair_142 : decode c_R_callPair 142 = .ok (.laload, 1) := by decide +kernel
theorem d_R_callPair_143 : decode c_R_callPair 143 = .ok (.invokevirtual 124, 3) := by decide +kernel
theorem d_R_callPair_146 : decode c_R_callPair 146 = .ok (.iinc 8 1, 3) := by decide +kernel
theorem d_R_callPair_149 : decode c_R_callPair 149 = .ok (.goto (-54), 3) := by decide +kernel
theorem d_R_callPair_152 : decode c_R_callPair 152 = .ok (.aload_n 0, 1) := by decide +kernel
theorem d_R_callPair_153 : decode c_R_callPair 153 = .ok (.getfield 13, 3) := by decide +kernel
theorem d_R_callPair_156 : decode c_R_callPair 156 = .ok (.iload 7, 2) := by decide +kernel
theorem d_R_callPair_158 : decode c_R_callPair 158 = .ok (.iaload, 1) := by decide +kernel
theorem d_R_callPair_159 : decode c_R_callPair 159 = .ok (.istore 7, 2) := by decide +kernel
theorem d_R_callPair_161 : decode c_R_callPair 161 = .ok (.goto (-74), 3) := by decide +kernel
theorem d_R_callPair_164 : decode c_R_callPair 164 = .ok (.return_, 1) := by decide +kernel
theorem d_R_grow_0 : decode c_R_grow 0 = .ok (.iload_n 2, 1) := by decide +kernel
theorem d_R_grow_1 : decode c_R_grow 1 = .ok (.aload_n 0, 1) := by decide +kernel
theorem d_R_grow_2 : decode c_R_grow 2 = .ok (.getfield 41, 3) := by decide +kernel
theorem d_R_grow_5 : decode c_R_grow 5 = .ok (.iload_n 1, 1) := by decide +kernel
theorem d_R_grow_6 : decode c_R_grow 6 = .ok (.iaload, 1) := by decide +kernel
theorem d_R_grow_7 : decode c_R_grow 7 = .ok (.iconst (-1), 1) := by decide +kernel
theorem d_R_grow_8 : decode c_R_grow 8 = .ok (.ixor, 1) := by decide +kernel
theorem d_R_grow_9 : decode c_R_grow 9 = .ok (.iand, 1) := by decide +kernel
theorem d_R_grow_10 : decode c_R_grow 10 = .ok (.ifCond .ne 20, 3) := by decide +kernel
theorem d_R_grow_13 : decode c_R_grow 13 = .ok (.lload_n 3, 1) := by decide +kernel
theorem d_R_grow_14 : decode c_R_grow 14 = .ok (.aload_n 0, 1) := by decide +kernel
theorem d_R_grow_15 : decode c_R_grow 15 = .ok (.getfield 44, 3) := by decide +kernel
theorem d_R_grow_18 : decode c_R_grow 18 = .ok (.iload_n 1, 1) := by decide +kernel
theorem d_R_grow_19 : decode c_R_grow 19 = .ok (.laload, 1) := by decide +kernel
theorem d_R_grow_20 : decode c_R_grow 20 = .ok (.ldc2_w 112, 3) := by decide +kernel
theorem d_R_grow_23 : decode c_R_grow 23 = .ok (.lxor, 1) := by decide +kernel
theorem d_R_grow_24 : decode c_R_grow 24 = .ok (.land, 1) := by decide +kernel
theorem d_R_grow_25 : decode c_R_grow 25 = .ok (.lconst 0, 1) := by decide +kernel
theorem d_R_grow_26 : decode c_R_grow 26 = .ok (.lcmp, 1) := by decide +kernel
theorem d_R_grow_27 : decode c_R_grow 27 = .ok (.ifCond .eq 36, 3) := by decide +kernel
theorem d_R_grow_30 : decode c_R_grow 30 = .ok (.aload_n 0, 1) := by decide +kernel
theorem d_R_grow_31 : decode c_R_grow 31 = .ok (.getfield 41, 3) := by decide +kernel
theorem d_R_grow_34 : decode c_R_grow 34 = .ok (.iload_n 1, 1) := by decide +kernel
theorem d_R_grow_35 : decode c_R_grow 35 = .ok (.aload_n 0, 1) := by decide +kernel
theorem d_R_grow_36 : decode c_R_grow 36 = .ok (.getfield 41, 3) := by decide +kernel
theorem d_R_grow_39 : decode c_R_grow 39 = .ok (.iload_n 1, 1) := by decide +kernel
theorem d_R_grow_40 : decode c_R_grow 40 = .ok (.iaload, 1) := by decide +kernel
theorem d_R_grow_41 : decode c_R_grow 41 = .ok (.iload_n 2, 1) := by decide +kernel
theorem d_R_grow_42 : decode c_R_grow 42 = .ok (.ior, 1) := by decide +kernel
theorem d_R_grow_43 : decode c_R_grow 43 = .ok (.iastore, 1) := by decide +kernel
theorem d_R_grow_44 : decode c_R_grow 44 = .ok (.aload_n 0, 1) := by decide +kernel
theorem d_R_grow_45 : decode c_R_grow 45 = .ok (.getfield 44, 3) := by decide +kernel
theorem d_R_grow_48 : decode c_R_grow 48 = .ok (.iload_n 1, 1) := by decide +kernel
theorem d_R_grow_49 : decode c_R_grow 49 = .ok (.aload_n 0, 1) := by decide +kernel
theorem d_R_grow_50 : decode c_R_grow 50 = .ok (.getfield 44, 3) := by decide +kernel
theorem d_R_grow_53 : decode c_R_grow 53 = .ok (.iload_n 1, 1) := by decide +kernel
theorem d_R_grow_54 : decode c_R_grow 54 = .ok (.laload, 1) := by decide +kernel
theorem d_R_grow_55 : decode c_R_grow 55 = .ok (.lload_n 3, 1) := by decide +kernel
theorem d_R_grow_56 : decode c_R_grow 56 = .ok (.lor, 1) := by decide +kernel
theorem d_R_grow_57 : decode c_R_grow 57 = .ok (.lastore, 1) := by decide +kernel
theorem d_R_grow_58 : decode c_R_grow 58 = .ok (.aload_n 0, 1) := by decide +kernel
theorem d_R_grow_59 : decode c_R_grow 59 = .ok (.iconst 1, 1) := by decide +kernel
theorem d_R_grow_60 : decode c_R_grow 60 = .ok (.putfield 114, 3) := by decide +kernel
theorem d_R_grow_63 : decode c_R_grow 63 = .ok (.return_, 1) := by decide +kernel
theorem d_R_answer_0 : decode c_R_answer 0 = .ok (.aload_n 0, 1) := by decide +kernel
theorem d_R_answer_1 : decode c_R_answer 1 = .ok (.getfield 51, 3) := by decide +kernel
theorem d_R_answer_4 : decode c_R_answer 4 = .ok (.iload_n 1, 1) := by decide +kernel
theorem d_R_answer_5 : decode c_R_answer 5 = .ok (.iaload, 1) := by decide +kernel
theorem d_R_answer_6 : decode c_R_answer 6 = .ok (.aload_n 0, 1) := by decide +kernel
theorem d_R_answer_7 : decode c_R_answer 7 = .ok (.getfield 54, 3) := by decide +kernel
theorem d_R_answer_10 : decode c_R_answer 10 = .ok (.iload_n 1, 1) := by decide +kernel
theorem d_R_answer_11 : decode c_R_answer 11 = .ok (.laload, 1) := by decide +kernel
theorem d_R_answer_12 : decode c_R_answer 12 = .ok (.lconst 0, 1) := by decide +kernel
theorem d_R_answer_13 : decode c_R_answer 13 = .ok (.lcmp, 1) := by decide +kernel
theorem d_R_answer_14 : decode c_R_answer 14 = .ok (.ifCond .eq 9, 3) := by decide +kernel
theorem d_R_answer_17 : decode c_R_answer 17 = .ok (.sipush 8192, 3) := by decide +kernel
theorem d_R_answer_20 : decode c_R_answer 20 = .ok (.goto 4, 3) := by decide +kernel
theorem d_R_answer_23 : decode c_R_answer 23 = .ok (.iconst 0, 1) := by decide +kernel
theorem d_R_answer_24 : decode c_R_answer 24 = .ok (.ior, 1) := by decide +kernel
theorem d_R_answer_25 : decode c_R_answer 25 = .ok (.istore_n 2, 1) := by decide +kernel
theorem d_R_answer_26 : decode c_R_answer 26 = .ok (.aload_n 0, 1) := by decide +kernel
theorem d_R_answer_27 : decode c_R_answer 27 = .ok (.aload_n 0, 1) := by decide +kernel
theorem d_R_answer_28 : decode c_R_answer 28 = .ok (.getfield 114, 3) := by decide +kernel
theorem d_R_answer_31 : decode c_R_answer 31 = .ok (.ifCond .ne 14, 3) := by decide +kernel
theorem d_R_answer_34 : decode c_R_answer 34 = .ok (.iload_n 2, 1) := by decide +kernel
theorem d_R_answer_35 : decode c_R_answer 35 = .ok (.aload_n 0, 1) := by decide +kernel
theorem d_R_answer_36 : decode c_R_answer 36 = .ok (.getfield 132, 3) := by decide +kernel
theorem d_R_answer_39 : decode c_R_answer 39 = .ok (.iconst (-1), 1) := by decide +kernel
theorem d_R_answer_40 : decode c_R_answer 40 = .ok (.ixor, 1) := by decide +kernel
theorem d_R_answer_41 : decode c_R_answer 41 = .ok (.iand, 1) := by decide +kernel
theorem d_R_answer_42 : decode c_R_answer 42 = .ok (.ifCond .eq 7, 3) := by decide +kernel
theorem d_R_answer_45 : decode c_R_answer 45 = .ok (.iconst 1, 1) := by decide +kernel
theorem d_R_answer_46 : decode c_R_answer 46 = .ok (.goto 4, 3) := by decide +kernel
theorem d_R_answer_49 : decode c_R_answer 49 = .ok (.iconst 0, 1) := by decide +kernel
theorem d_R_answer_50 : decode c_R_answer 50 = .ok (.putfield 114, 3) := by decide +kernel
theorem d_R_answer_53 : decode c_R_answer 53 = .ok (.aload_n 0, 1) := by decide +kernel
theorem d_R_answer_54 : decode c_R_answer 54 = .ok (.aload_n 0, 1) := by decide +kernel
theorem d_R_answer_55 : decode c_R_answer 55 = .ok (.getfield 132, 3) := by decide +kernel
theorem d_R_answer_58 : decode c_R_answer 58 = .ok (.iload_n 2, 1) := by decide +kernel
theorem d_R_answer_59 : decode c_R_answer 59 = .ok (.ior, 1) := by decide +kernel
theorem d_R_answer_60 : decode c_R_answer 60 = .ok (.putfield 132, 3) := by decide +kernel
theorem d_R_answer_63 : decode c_R_answer 63 = .ok (.return_, 1) := by decide +kernel
theorem d_R_sums_0 : decode c_R_sums 0 = .ok (.iconst 0, 1) := by decide +kernel
theorem d_R_sums_1 : decode c_R_sums 1 = .ok (.istore_n 2, 1) := by decide +kernel
theorem d_R_sums_2 : decode c_R_sums 2 = .ok (.iconst 0, 1) := by decide +kernel
theorem d_R_sums_3 : decode c_R_sums 3 = .ok (.istore_n 3, 1) := by decide +kernel
theorem d_R_sums_4 : decode c_R_sums 4 = .ok (.iload_n 3, 1) := by decide +kernel
theorem d_R_sums_5 : decode c_R_sums 5 = .ok (.bipush 10, 2) := by decide +kernel
theorem d_R_sums_7 : decode c_R_sums 7 = .ok (.if_icmp .ge 72, 3) := by decide +kernel
theorem d_R_sums_10 : decode c_R_sums 10 = .ok (.iconst 0, 1) := by decide +kernel
theorem d_R_sums_11 : decode c_R_sums 11 = .ok (.istore 4, 2) := by decide +kernel
theorem d_R_sums_13 : decode c_R_sums 13 = .ok (.iload 4, 2) := by decide +kernel
theorem d_R_sums_15 : decode c_R_sums 15 = .ok (.bipush 10, 2) := by decide +kernel
theorem d_R_sums_17 : decode c_R_sums 17 = .ok (.if_icmp .ge 56, 3) := by decide +kernel
theorem d_R_sums_20 : decode c_R_sums 20 = .ok (.iload_n 0, 1) := by decide +kernel
theorem d_R_sums_21 : decode c_R_sums 21 = .ok (.iload_n 3, 1) := by decide +kernel
theorem d_R_sums_22 : decode c_R_sums 22 = .ok (.ishr, 1) := by decide +kernel
theorem d_R_sums_23 : decode c_R_sums 23 = .ok (.iconst 1, 1) := by decide +kernel
theorem d_R_sums_24 : decode c_R_sums 24 = .ok (.iand, 1) := by decide +kernel
theorem d_R_sums_25 : decode c_R_sums 25 = .ok (.iconst 1, 1) := by decide +kernel
theorem d_R_sums_26 : decode c_R_sums 26 = .ok (.if_icmp .ne 17, 3) := by decide +kernel
theorem d_R_sums_29 : decode c_R_sums 29 = .ok (.iload_n 1, 1) := by decide +kernel
theorem d_R_sums_30 : decode c_R_sums 30 = .ok (.iload 4, 2) := by decide +kernel
theorem d_R_sums_32 : decode c_R_sums 32 = .ok (.ishr, 1) := by decide +kernel
theorem d_R_sums_33 : decode c_R_sums 33 = .ok (.iconst 1, 1) := by decide +kernel
theorem d_R_sums_34 : decode c_R_sums 34 = .ok (.iand, 1) := by decide +kernel
theorem d_R_sums_35 : decode c_R_sums 35 = .ok (.iconst 1, 1) := by decide +kernel
theorem d_R_sums_36 : decode c_R_sums 36 = .ok (.if_icmp .ne 7, 3) := by decide +kernel
theorem d_R_sums_39 : decode c_R_sums 39 = .ok (.iconst 1, 1) := by decide +kernel
theorem d_R_sums_40 : decode c_R_sums 40 = .ok (.goto 4, 3) := by decide +kernel
theorem d_R_sums_43 : decode c_R_sums 43 = .ok (.iconst 0, 1) := by decide +kernel
theorem d_R_sums_44 : decode c_R_sums 44 = .ok (.istore 5, 2) := by decide +kernel
theorem d_R_sums_46 : decode c_R_sums 46 = .ok (.iload 5, 2) := by decide +kernel
theorem d_R_sums_48 : decode c_R_sums 48 = .ok (.ifCond .eq 17, 3) := by decide +kernel
theorem d_R_sums_51 : decode c_R_sums 51 = .ok (.iload_n 2, 1) := by decide +kernel
theorem d_R_sums_52 : decode c_R_sums 52 = .ok (.iconst 1, 1) := by decide +kernel
theorem d_R_sums_53 : decode c_R_sums 53 = .ok (.iload_n 3, 1) := by decide +kernel
theorem d_R_sums_54 : decode c_R_sums 54 = .ok (.iload 4, 2) := by decide +kernel
theorem d_R_sums_56 : decode c_R_sums 56 = .ok (.iadd, 1) := by decide +kernel
theorem d_R_sums_57 : decode c_R_sums 57 = .ok (.bipush 10, 2) := by decide +kernel
theorem d_R_sums_59 : decode c_R_sums 59 = .ok (.irem, 1) := by decide +kernel
theorem d_R_sums_60 : decode c_R_sums 60 = .ok (.ishl, 1) := by decide +kernel
theorem d_R_sums_61 : decode c_R_sums 61 = .ok (.ior, 1) := by decide +kernel
theorem d_R_sums_62 : decode c_R_sums 62 = .ok (.goto 4, 3) := by decide +kernel
theorem d_R_sums_65 : decode c_R_sums 65 = .ok (.iload_n 2, 1) := by decide +kernel
theorem d_R_sums_66 : decode c_R_sums 66 = .ok (.istore_n 2, 1) := by decide +kernel
theorem d_R_sums_67 : decode c_R_sums 67 = .ok (.iinc 4 1, 3) := by decide +kernel
theorem d_R_sums_70 : decode c_R_sums 70 = .ok (.goto (-57), 3) := by decide +kernel
theorem d_R_sums_73 : decode c_R_sums 73 = .ok (.iinc 3 1, 3) := by decide +kernel
theorem d_R_sums_76 : decode c_R_sums 76 = .ok (.goto (-72), 3) := by decide +kernel
theorem d_R_sums_79 : decode c_R_sums 79 = .ok (.iload_n 2, 1) := by decide +kernel
theorem d_R_sums_80 : decode c_R_sums 80 = .ok (.ireturn, 1) := by decide +kernel
theorem d_R_flow_0 : decode c_R_flow 0 = .ok (.aload_n 0, 1) := by decide +kernel
theorem d_R_flow_1 : decode c_R_flow 1 = .ok (.getfield 60, 3) := by decide +kernel
theorem d_R_flow_4 : decode c_R_flow 4 = .ok (.ifCond .eq 11, 3) := by decide +kernel
theorem d_R_flow_7 : decode c_R_flow 7 = .ok (.aload_n 0, 1) := by decide +kernel
theorem d_R_flow_8 : decode c_R_flow 8 = .ok (.iload_n 1, 1) := by decide +kernel
theorem d_R_flow_9 : decode c_R_flow 9 = .ok (.invokevirtual 64, 3) := by decide +kernel
theorem d_R_flow_12 : decode c_R_flow 12 = .ok (.ifCond .ne 7, 3) := by decide +kernel
theorem d_R_flow_15 : decode c_R_flow 15 = .ok (.iconst (-1), 1) := by decide +kernel
theorem d_R_flow_16 : decode c_R_flow 16 = .ok (.goto 9, 3) := by decide +kernel
theorem d_R_flow_19 : decode c_R_flow 19 = .ok (.aload_n 0, 1) := by decide +kernel
theorem d_R_flow_20 : decode c_R_flow 20 = .ok (.getfield 48, 3) := by decide +kernel
theorem d_R_flow_23 : decode c_R_flow 23 = .ok (.iload_n 1, 1) := by decide +kernel
theorem d_R_flow_24 : decode c_R_flow 24 = .ok (.iaload, 1) := by decide +kernel
theorem d_R_flow_25 : decode c_R_flow 25 = .ok (.ireturn, 1) := by decide +kernel
theorem d_R_contours_0 : decode c_R_contours 0 = .ok (.aload_n 0, 1) := by decide +kernel
theorem d_R_contours_1 : decode c_R_contours 1 = .ok (.getfield 60, 3) := by decide +kernel
theorem d_R_contours_4 : decode c_R_contours 4 = .ok (.ifCond .eq 11, 3) := by decide +kernel
theorem d_R_contours_7 : decode c_R_contours 7 = .ok (.aload_n 0, 1) := by decide +kernel
theorem d_R_contours_8 : decode c_R_contours 8 = .ok (.iload_n 1, 1) := by decide +kernel
theorem d_R_contours_9 : decode c_R_contours 9 = .ok (.invokevirtual 64, 3) := by decide +kernel
theorem d_R_contours_12 : decode c_R_contours 12 = .ok (.ifCond .ne 7, 3) := by decide +kernel
theorem d_R_contours_15 : decode c_R_contours 15 = .ok (.iconst (-1), 1) := by decide +kernel
theorem d_R_contours_16 : decode c_R_contours 16 = .ok (.goto 17, 3) := by decide +kernel
theorem d_R_contours_19 : decode c_R_contours 19 = .ok (.aload_n 0, 1) := by decide +kernel
theorem d_R_contours_20 : decode c_R_contours 20 = .ok (.getfield 128, 3) := by decide +kernel
theorem d_R_contours_23 : decode c_R_contours 23 = .ok (.bipush 8, 2) := by decide +kernel
theorem d_R_contours_25 : decode c_R_contours 25 = .ok (.iload_n 1, 1) := by decide +kernel
theorem d_R_contours_26 : decode c_R_contours 26 = .ok (.imul, 1) := by decide +kernel
theorem d_R_contours_27 : decode c_R_contours 27 = .ok (.lushr, 1) := by decide +kernel
theorem d_R_contours_28 : decode c_R_contours 28 = .ok (.ldc2_w 153, 3) := by decide +kernel
theorem d_R_contours_31 : decode c_R_contours 31 = .ok (.land, 1) := by decide +kernel
theorem d_R_contours_32 : decode c_R_contours 32 = .ok (.l2i, 1) := by decide +kernel
theorem d_R_contours_33 : decode c_R_contours 33 = .ok (.ireturn, 1) := by decide +kernel
theorem d_R_constants_0 : decode c_R_constants 0 = .ok (.aload_n 0, 1) := by decide +kernel
theorem d_R_constants_1 : decode c_R_constants 1 = .ok (.iload_n 1, 1) := by decide +kernel
theorem d_R_constants_2 : decode c_R_constants 2 = .ok (.iload_n 2, 1) := by decide +kernel
theorem d_R_constants_3 : decode c_R_constants 3 = .ok (.invokevirtual 155, 3) := by decide +kernel
theorem d_R_constants_6 : decode c_R_constants 6 = .ok (.ifCond .ne 5, 3) := by decide +kernel
theorem d_R_constants_9 : decode c_R_constants 9 = .ok (.iconst (-1), 1) := by decide +kernel
theorem d_R_constants_10 : decode c_R_constants 10 = .ok (.ireturn, 1) := by decide +kernel
theorem d_R_constants_11 : decode c_R_constants 11 = .ok (.iconst 0, 1) := by decide +kernel
theorem d_R_constants_12 : decode c_R_constants 12 = .ok (.istore_n 3, 1) := by decide +kernel
theorem d_R_constants_13 : decode c_R_constants 13 = .ok (.iconst 0, 1) := by decide +kernel
theorem d_R_constants_14 : decode c_R_constants 14 = .ok (.istore 4, 2) := by decide +kernel
theorem d_R_constants_16 : decode c_R_constants 16 = .ok (.iload 4, 2) := by decide +kernel
theorem d_R_constants_18 : decode c_R_constants 18 = .ok (.bipush 8, 2) := by decide +kernel
theorem d_R_constants_20 : decode c_R_constants 20 = .ok (.if_icmp .ge 28, 3) := by decide +kernel
theorem d_R_constants_23 : decode c_R_constants 23 = .ok (.iload_n 3, 1) := by decide +kernel
theorem d_R_constants_24 : decode c_R_constants 24 = .ok (.aload_n 0, 1) := by decide +kernel
theorem d_R_constants_25 : decode c_R_constants 25 = .ok (.getfield 41, 3) := by decide +kernel
theorem d_R_constants_28 : decode c_R_constants 28 = .ok (.bipush 8, 2) := by decide +kernel
theorem d_R_constants_30 : decode c_R_constants 30 = .ok (.iconst 3, 1) := by decide +kernel
theorem d_R_constants_31 : decode c_R_constants 31 = .ok (.iload_n 1, 1) := by decide +kernel
theorem d_R_constants_32 : decode c_R_constants 32 = .ok (.imul, 1) := by decide +kernel
theorem d_R_constants_33 : decode c_R_constants 33 = .ok (.iload_n 2, 1) := by decide +kernel
theorem d_R_constants_34 : decode c_R_constants 34 = .ok (.iadd, 1) := by decide +kernel
theorem d_R_constants_35 : decode c_R_constants 35 = .ok (.imul, 1) := by decide +kernel
theorem d_R_constants_36 : decode c_R_constants 36 = .ok (.iload 4, 2) := by decide +kernel
theorem d_R_constants_38 : decode c_R_constants 38 = .ok (.iadd, 1) := by decide +kernel
theorem d_R_constants_39 : decode c_R_constants 39 = .ok (.iaload, 1) := by decide +kernel
theorem d_R_constants_40 : decode c_R_constants 40 = .ok (.ior, 1) := by decide +kernel
theorem d_R_constants_41 : decode c_R_constants 41 = .ok (.istore_n 3, 1) := by decide +kernel
theorem d_R_constants_42 : decode c_R_constants 42 = .ok (.iinc 4 1, 3) := by decide +kernel
theorem d_R_constants_45 : decode c_R_constants 45 = .ok (.goto (-29), 3) := by decide +kernel
theorem d_R_constants_48 : decode c_R_constants 48 = .ok (.iload_n 3, 1) := by decide +kernel
theorem d_R_constants_49 : decode c_R_constants 49 = .ok (.ireturn, 1) := by decide +kernel
theorem d_R_isParameter_0 : decode c_R_isParameter 0 = .ok (.aload_n 0, 1) := by decide +kernel
theorem d_R_isParameter_1 : decode c_R_isParameter 1 = .ok (.getfield 60, 3) := by decide +kernel
theorem d_R_isParameter_4 : decode c_R_isParameter 4 = .ok (.ifCond .eq 29, 3) := by decide +kernel
theorem d_R_isParameter_7 : decode c_R_isParameter 7 = .ok (.aload_n 0, 1) := by decide +kernel
theorem d_R_isParameter_8 : decode c_R_isParameter 8 = .ok (.iload_n 1, 1) := by decide +kernel
theorem d_R_isParameter_9 : decode c_R_isParameter 9 = .ok (.invokevirtual 64, 3) := by decide +kernel
theorem d_R_isParameter_12 : decode c_R_isParameter 12 = .ok (.ifCond .eq 21, 3) := by decide +kernel
theorem d_R_isParameter_15 : decode c_R_isParameter 15 = .ok (.iload_n 2, 1) := by decide +kernel
theorem d_R_isParameter_16 : decode c_R_isParameter 16 = .ok (.ifCond .lt 17, 3) := by decide +kernel
theorem d_R_isParameter_19 : decode c_R_isParameter 19 = .ok (.iload_n 2, 1) := by decide +kernel
theorem d_R_isParameter_20 : decode c_R_isParameter 20 = .ok (.aload_n 0, 1) := by decide +kernel
theorem d_R_isParameter_21 : decode c_R_isParameter 21 = .ok (.getfield 17, 3) := by decide +kernel
theorem d_R_isParameter_24 : decode c_R_isParameter 24 = .ok (.iload_n 1, 1) := by decide +kernel
theorem d_R_isParameter_25 : decode c_R_isParameter 25 = .ok (.iaload, 1) := by decide +kernel
theorem d_R_isParameter_26 : decode c_R_isParameter 26 = .ok (.if_icmp .ge 7, 3) := by decide +kernel
theorem d_R_isParameter_29 : decode c_R_isParameter 29 = .ok (.iconst 1, 1) := by decide +kernel
theorem d_R_isParameter_30 : decode c_R_isParameter 30 = .ok (.goto 4, 3) := by decide +kernel
theorem d_R_isParameter_33 : decode c_R_isParameter 33 = .ok (.iconst 0, 1) := by decide +kernel
theorem d_R_isParameter_34 : decode c_R_isParameter 34 = .ok (.ireturn, 1) := by decide +kernel
theorem d_R_closures_0 : decode c_R_closures 0 = .ok (.aload_n 0, 1) := by decide +kernel
theorem d_R_closures_1 : decode c_R_closures 1 = .ok (.iload_n 1, 1) := by decide +kernel
theorem d_R_closures_2 : decode c_R_closures 2 = .ok (.iload_n 2, 1) := by decide +kernel
theorem d_R_closures_3 : decode c_R_closures 3 = .ok (.invokevirtual 155, 3) := by decide +kernel
theorem d_R_closures_6 : decode c_R_closures 6 = .ok (.ifCond .ne 5, 3) := by decide +kernel
theorem d_R_closures_9 : decode c_R_closures 9 = .ok (.iconst (-1), 1) := by decide +kernel
theorem d_R_closures_10 : decode c_R_closures 10 = .ok (.ireturn, 1) := by decide +kernel
theorem d_R_closures_11 : decode c_R_closures 11 = .ok (.iconst 0, 1) := by decide +kernel
theorem d_R_closures_12 : decode c_R_closures 12 = .ok (.istore_n 3, 1) := by decide +kernel
theorem d_R_closures_13 : decode c_R_closures 13 = .ok (.iconst 0, 1) := by decide +kernel
theorem d_R_closures_14 : decode c_R_closures 14 = .ok (.istore 4, 2) := by decide +kernel
theorem d_R_closures_16 : decode c_R_closures 16 = .ok (.iload 4, 2) := by decide +kernel
theorem d_R_closures_18 : decode c_R_closures 18 = .ok (.bipush 8, 2) := by decide +kernel
theorem d_R_closures_20 : decode c_R_closures 20 = .ok (.if_icmp .ge 79, 3) := by decide +kernel
theorem d_R_closures_23 : decode c_R_closures 23 = .ok (.iconst 0, 1) := by decide +kernel
theorem d_R_closures_24 : decode c_R_closures 24 = .ok (.istore 5, 2) := by decide +kernel
theorem d_R_closures_26 : decode c_R_closures 26 = .ok (.iload 5, 2) := by decide +kernel
theorem d_R_closures_28 : decode c_R_closures 28 = .ok (.bipush 8, 2) := by decide +kernel
theorem d_R_closures_30 : decode c_R_closures 30 = .ok (.if_icmp .ge 63, 3) := by decide +kernel
theorem d_R_closures_33 : decode c_R_closures 33 = .ok (.aload_n 0, 1) := by decide +kernel
theorem d_R_closures_34 : decode c_R_closures 34 = .ok (.getfield 44, 3) := by decide +kernel
theorem d_R_closures_37 : decode c_R_closures 37 = .ok (.bipush 8, 2) := by decide +kernel
theorem d_R_closures_39 : decode c_R_closures 39 = .ok (.iconst 3, 1) := by decide +kernel
theorem d_R_closures_40 : decode c_R_closures 40 = .ok (.iload_n 1, 1) := by decide +kernel
theorem d_R_closures_41 : decode c_R_closures 41 = .ok (.imul, 1) := by decide +kernel
theorem d_R_closures_42 : decode c_R_closures 42 = .ok (.iload_n 2, 1) := by decide +kernel
theorem d_R_closures_43 : decode c_R_closures 43 = .ok (.iadd, 1) := by decide +kernel
theorem d_R_closures_44 : decode c_R_closures 44 = .ok (.imul, 1) := by decide +kernel
theorem d_R_closures_45 : decode c_R_closures 45 = .ok (.iload 4, 2) := by decide +kernel
theorem d_R_closures_47 : decode c_R_closures 47 = .ok (.iadd, 1) := by decide +kernel
theorem d_R_closures_48 : decode c_R_closures 48 = .ok (.laload, 1) := by decide +kernel
theorem d_R_closures_49 : decode c_R_closures 49 = .ok (.bipush 8, 2) := by decide +kernel
theorem d_R_closures_51 : decode c_R_closures 51 = .ok (.iload 5, 2) := by decide +kernel
theorem d_R_closures_53 : decode c_R_closures 53 = .ok (.imul, 1) := by decide +kernel
theorem d_R_closures_54 : decode c_R_closures 54 = .ok (.lushr, 1) := by decide +kernel
theorem d_R_closures_55 : decode c_R_closures 55 = .ok (.ldc2_w 153, 3) := by decide +kernel
theorem d_R_closures_58 : decode c_R_closures 58 = .ok (.land, 1) := by decide +kernel
theorem d_R_closures_59 : decode c_R_closures 59 = .ok (.lconst 0, 1) := by decide +kernel
theorem d_R_closures_60 : decode c_R_closures 60 = .ok (.lcmp, 1) := by decide +kernel
theorem d_R_closures_61 : decode c_R_closures 61 = .ok (.ifCond .eq 7, 3) := by decide +kernel
theorem d_R_closures_64 : decode c_R_closures 64 = .ok (.iconst 1, 1) := by decide +kernel
theorem d_R_closures_65 : decode c_R_closures 65 = .ok (.goto 4, 3) := by decide +kernel
theorem d_R_closures_68 : decode c_R_closures 68 = .ok (.iconst 0, 1) := by decide +kernel
theorem d_R_closures_69 : decode c_R_closures 69 = .ok (.istore 6, 2) := by decide +kernel
theorem d_R_closures_71 : decode c_R_closures 71 = .ok (.iload 6, 2) := by decide +kernel
theorem d_R_closures_73 : decode c_R_closures 73 = .ok (.ifCond .eq 12, 3) := by decide +kernel
theorem d_R_closures_76 : decode c_R_closures 76 = .ok (.iload_n 3, 1) := by decide +kernel
theorem d_R_closures_77 : decode c_R_closures 77 = .ok (.iconst 1, 1) := by decide +kernel
theorem d_R_closures_78 : decode c_R_closures 78 = .ok (.iload 5, 2) := by decide +kernel
theorem d_R_closures_80 : decode c_R_closures 80 = .ok (.ishl, 1) := by decide +kernel
theorem d_R_closures_81 : decode c_R_closures 81 = .ok (.ior, 1) := by decide +kernel
theorem d_R_closures_82 : decode c_R_closures 82 = .ok (.goto 4, 3) := by decide +kernel
theorem d_R_closures_85 : decode c_R_closures 85 = .ok (.iload_n 3, 1) := by decide +kernel
theorem d_R_closures_86 : decode c_R_closures 86 = .ok (.istore_n 3, 1) := by decide +kernel
theorem d_R_closures_87 : decode c_R_closures 87 = .ok (.iinc 5 1, 3) := by decide +kernel
theorem d_R_closures_90 : decode c_R_closures 90 = .ok (.goto (-64), 3) := by decide +kernel
theorem d_R_closures_93 : decode c_R_closures 93 = .ok (.iinc 4 1, 3) := by decide +kernel
theorem d_R_closures_96 : decode c_R_closures 96 = .ok (.goto (-80), 3) := by decide +kernel
theorem d_R_closures_99 : decode c_R_closures 99 = .ok (.iload_n 3, 1) := by decide +kernel
theorem d_R_closures_100 : decode c_R_closures 100 = .ok (.ireturn, 1) := by decide +kernel
theorem d_R_results_0 : decode c_R_results 0 = .ok (.aload_n 0, 1) := by decide +kernel
theorem d_R_results_1 : decode c_R_results 1 = .ok (.getfield 60, 3) := by decide +kernel
theorem d_R_results_4 : decode c_R_results 4 = .ok (.ifCond .eq 10, 3) := by decide +kernel
theorem d_R_results_7 : decode c_R_results 7 = .ok (.aload_n 0, 1) := by decide +kernel
theorem d_R_results_8 : decode c_R_results 8 = .ok (.getfield 132, 3) := by decide +kernel
theorem d_R_results_11 : decode c_R_results 11 = .ok (.goto 4, 3) := by decide +kernel
theorem d_R_results_14 : decode c_R_results 14 = .ok (.iconst (-1), 1) := by decide +kernel
theorem d_R_results_15 : decode c_R_results 15 = .ok (.ireturn, 1) := by decide +kernel
end
section
theorem d_L_law_0 : decode code 0 = .ok (.new 7, 3) := by decide +kernel
theorem d_L_law_3 : decode code 3 = .ok (.dup, 1) := by decide +kernel
theorem d_L_law_4 : decode code 4 = .ok (.invokespecial 9, 3) := by decide +kernel
theorem d_L_law_7 : decode code 7 = .ok (.astore_n 1, 1) := by decide +kernel
theorem d_L_law_8 : decode code 8 = .ok (.new 10, 3) := by decide +kernel
theorem d_L_law_11 : decode code 11 = .ok (.dup, 1) := by decide +kernel
theorem d_L_law_12 : decode code 12 = .ok (.invokespecial 12, 3) := by decide +kernel
theorem d_L_law_15 : decode code 15 = .ok (.astore_n 2, 1) := by decide +kernel
theorem d_L_law_16 : decode code 16 = .ok (.iconst 0, 1) := by decide +kernel
theorem d_L_law_17 : decode code 17 = .ok (.istore_n 3, 1) := by decide +kernel
theorem d_L_law_18 : decode code 18 = .ok (.iload_n 3, 1) := by decide +kernel
theorem d_L_law_19 : decode code 19 = .ok (.aload_n 0, 1) := by decide +kernel
theorem d_L_law_20 : decode code 20 = .ok (.arraylength, 1) := by decide +kernel
theorem d_L_law_21 : decode code 21 = .ok (.iconst 3, 1) := by decide +kernel
theorem d_L_law_22 : decode code 22 = .ok (.isub, 1) := by decide +kernel
theorem d_L_law_23 : decode code 23 = .ok (.if_icmp .gt 503, 3) := by decide +kernel
theorem d_L_law_26 : decode code 26 = .ok (.aload_n 0, 1) := by decide +kernel
theorem d_L_law_27 : decode code 27 = .ok (.iload_n 3, 1) := by decide +kernel
theorem d_L_law_28 : decode code 28 = .ok (.iaload, 1) := by decide +kernel
theorem d_L_law_29 : decode code 29 = .ok (.bipush 31, 2) := by decide +kernel
theorem d_L_law_31 : decode code 31 = .ok (.iand, 1) := by decide +kernel
theorem d_L_law_32 : decode code 32 = .ok (.tableswitch 488 0 17 #[88, 121, 154, 165, 178, 211, 222, 245, 258, 271, 304, 317, 340, 363, 386, 409, 442, 475], 88) := by decide +kernel
theorem d_L_law_120 : decode code 120 = .ok (.aload_n 1, 1) := by decide +kernel
theorem d_L_law_121 : decode code 121 = .ok (.aload_n 0, 1) := by decide +kernel
theorem d_L_law_122 : decode code 122 = .ok (.iload_n 3, 1) := by decide +kernel
theorem d_L_law_123 : decode code 123 = .ok (.iconst 1, 1) := by decide +kernel
theorem d_L_law_124 : decode code 124 = .ok (.iadd, 1) := by decide +kernel
theorem d_L_law_125 : decode code 125 = .ok (.iaload, 1) := by decide +kernel
theorem d_L_law_126 : decode code 126 = .ok (.aload_n 0, 1) := by decide +kernel
theorem d_L_law_127 : decode code 127 = .ok (.iload_n 3, 1) := by decide +kernel
theorem d_L_law_128 : decode code 128 = .ok (.iconst 2, 1) := by decide +kernel
theorem d_L_law_129 : decode code 129 = .ok (.iadd, 1) := by decide +kernel
theorem d_L_law_130 : decode code 130 = .ok (.iaload, 1) := by decide +kernel
theorem d_L_law_131 : decode code 131 = .ok (.invokevirtual 13, 3) := by decide +kernel
theorem d_L_law_134 : decode code 134 = .ok (.aload_n 2, 1) := by decide +kernel
theorem d_L_law_135 : decode code 135 = .ok (.aload_n 0, 1) := by decide +kernel
theorem d_L_law_136 : decode code 136 = .ok (.iload_n 3, 1) := by decide +kernel
theorem d_L_law_137 : decode code 137 = .ok (.iconst 1, 1) := by decide +kernel
theorem d_L_law_138 : decode code 138 = .ok (.iadd, 1) := by decide +kernel
theorem d_L_law_139 : decode code 139 = .ok (.iaload, 1) := by decide +kernel
theorem d_L_law_140 : decode code 140 = .ok (.aload_n 0, 1) := by decide +kernel
theorem d_L_law_141 : decode code 141 = .ok (.iload_n 3, 1) := by decide +kernel
theorem d_L_law_142 : decode code 142 = .ok (.iconst 2, 1) := by decide +kernel
theorem d_L_law_143 : decode code 143 = .ok (.iadd, 1) := by decide +kernel
theorem d_L_law_144 : decode code 144 = .ok (.iaload, 1) := by decide +kernel
theorem d_L_law_145 : decode code 145 = .ok (.invokevirtual 17, 3) := by decide +kernel
theorem d_L_law_148 : decode code 148 = .ok (.if_icmp .eq 372, 3) := by decide +kernel
theorem d_L_law_151 : decode code 151 = .ok (.iconst 0, 1) := by decide +kernel
theorem d_L_law_152 : decode code 152 = .ok (.ireturn, 1) := by decide +kernel
theorem d_L_law_153 : decode code 153 = .ok (.aload_n 1, 1) := by decide +kernel
theorem d_L_law_154 : decode code 154 = .ok (.aload_n 0, 1) := by decide +kernel
theorem d_L_law_155 : decode code 155 = .ok (.iload_n 3, 1) := by decide +kernel
theorem d_L_law_156 : decode code 156 = .ok (.iconst 1, 1) := by decide +kernel
theorem d_L_law_157 : decode code 157 = .ok (.iadd, 1) := by decide +kernel
theorem d_L_law_158 : decode code 158 = .ok (.iaload, 1) := by decide +kernel
theorem d_L_law_159 : decode code 159 = .ok (.aload_n 0, 1) := by decide +kernel
theorem d_L_law_160 : decode code 160 = .ok (.iload_n 3, 1) := by decide +kernel
theorem d_L_law_161 : decode code 161 = .ok (.iconst 2, 1) := by decide +kernel
theorem d_L_law_162 : decode code 162 = .ok (.iadd, 1) := by decide +kernel
theorem d_L_law_163 : decode code 163 = .ok (.iaload, 1) := by decide +kernel
theorem d_L_law_164 : decode code 164 = .ok (.invokevirtual 18, 3) := by decide +kernel
theorem d_L_law_167 : decode code 167 = .ok (.aload_n 2, 1) := by decide +kernel
theorem d_L_law_168 : decode code 168 = .ok (.aload_n 0, 1) := by decide +kernel
theorem d_L_law_169 : decode code 169 = .ok (.iload_n 3, 1) := by decide +kernel
theorem d_L_law_170 : decode code 170 = .ok (.iconst 1, 1) := by decide +kernel
theorem d_L_law_171 : decode code 171 = .ok (.iadd, 1) := by decide +kernel
theorem d_L_law_172 : decode code 172 = .ok (.iaload, 1) := by decide +kernel
theorem d_L_law_173 : decode code 173 = .ok (.aload_n 0, 1) := by decide +kernel
theorem d_L_law_174 : decode code 174 = .ok (.iload_n 3, 1) := by decide +kernel
theorem d_L_law_175 : decode code 175 = .ok (.iconst 2, 1) := by decide +kernel
theorem d_L_law_176 : decode code 176 = .ok (.iadd, 1) := by decide +kernel
theorem d_L_law_177 : decode code 177 = .ok (.iaload, 1) := by decide +kernel
theorem d_L_law_178 : decode code 178 = .ok (.invokevirtual 22, 3) := by decide +kernel
theorem d_L_law_181 : decode code 181 = .ok (.if_icmp .eq 339, 3) := by decide +kernel
theorem d_L_law_184 : decode code 184 = .ok (.iconst 0, 1) := by decide +kernel
theorem d_L_law_185 : decode code 185 = .ok (.ireturn, 1) := by decide +kernel
theorem d_L_law_186 : decode code 186 = .ok (.aload_n 1, 1) := by decide +kernel
theorem d_L_law_187 : decode code 187 = .ok (.invokevirtual 23, 3) := by decide +kernel
theorem d_L_law_190 : decode code 190 = .ok (.aload_n 2, 1) := by decide +kernel
theorem d_L_law_191 : decode code 191 = .ok (.invokevirtual 26, 3) := by decide +kernel
theorem d_L_law_194 : decode code 194 = .ok (.goto 326, 3) := by decide +kernel
theorem d_L_law_197 : decode code 197 = .ok (.aload_n 1, 1) := by decide +kernel
theorem d_L_law_198 : decode code 198 = .ok (.invokevirtual 27, 3) := by decide +kernel
theorem d_L_law_201 : decode code 201 = .ok (.aload_n 2, 1) := by decide +kernel
theorem d_L_law_202 : decode code 202 = .ok (.invokevirtual 31, 3) := by decide +kernel
theorem d_L_law_205 : decode code 205 = .ok (.if_icmp .eq 315, 3) := by decide +kernel
theorem d_L_law_208 : decode code 208 = .ok (.iconst 0, 1) := by decide +kernel
theorem d_L_law_209 : decode code 209 = .ok (.ireturn, 1) := by decide +kernel
theorem d_L_law_210 : decode code 210 = .ok (.aload_n 1, 1) := by decide +kernel
theorem d_L_law_211 : decode code 211 = .ok (.aload_n 0, 1) := by decide +kernel
theorem d_L_law_212 : decode code 212 = .ok (.iload_n 3, 1) := by decide +kernel
theorem d_L_law_213 : decode code 213 = .ok (.iconst 1, 1) := by decide +kernel
theorem d_L_law_214 : decode code 214 = .ok (.iadd, 1) := by decide +kernel
theorem d_L_law_215 : decode code 215 = .ok (.iaload, 1) := by decide +kernel
theorem d_L_law_216 : decode code 216 = .ok (.aload_n 0, 1) := by decide +kernel
theorem d_L_law_217 : decode code 217 = .ok (.iload_n 3, 1) := by decide +kernel
theorem d_L_law_218 : decode code 218 = .ok (.iconst 2, 1) := by decide +kernel
theorem d_L_law_219 : decode code 219 = .ok (.iadd, 1) := by decide +kernel
theorem d_L_law_220 : decode code 220 = .ok (.iaload, 1) := by decide +kernel
theorem d_L_law_221 : decode code 221 = .ok (.invokevirtual 32, 3) := by decide +kernel
theorem d_L_law_224 : decode code 224 = .ok (.aload_n 2, 1) := by decide +kernel
theorem d_L_law_225 : decode code 225 = .ok (.aload_n 0, 1) := by decide +kernel
theorem d_L_law_226 : decode code 226 = .ok (.iload_n 3, 1) := by decide +kernel
theorem d_L_law_227 : decode code 227 = .ok (.iconst 1, 1) := by decide +kernel
theorem d_L_law_228 : decode code 228 = .ok (.iadd, 1) := by decide +kernel
theorem d_L_law_229 : decode code 229 = .ok (.iaload, 1) := by decide +kernel
theorem d_L_law_230 : decode code 230 = .ok (.aload_n 0, 1) := by decide +kernel
theorem d_L_law_231 : decode code 231 = .ok (.iload_n 3, 1) := by decide +kernel
theorem d_L_law_232 : decode code 232 = .ok (.iconst 2, 1) := by decide +kernel
theorem d_L_law_233 : decode code 233 = .ok (.iadd, 1) := by decide +kernel
theorem d_L_law_234 : decode code 234 = .ok (.iaload, 1) := by decide +kernel
theorem d_L_law_235 : decode code 235 = .ok (.invokevirtual 35, 3) := by decide +kernel
theorem d_L_law_238 : decode code 238 = .ok (.if_icmp .eq 282, 3) := by decide +kernel
theorem d_L_law_241 : decode code 241 = .ok (.iconst 0, 1) := by decide +kernel
theorem d_L_law_242 : decode code 242 = .ok (.ireturn, 1) := by decide +kernel
theorem d_L_law_243 : decode code 243 = .ok (.aload_n 1, 1) := by decide +kernel
theorem d_L_law_244 : decode code 244 = .ok (.invokevirtual 36, 3) := by decide +kernel
theorem d_L_law_247 : decode code 247 = .ok (.aload_n 2, 1) := by decide +kernel
theorem d_L_law_248 : decode code 248 = .ok (.invokevirtual 39, 3) := by decide +kernel
theorem d_L_law_251 : decode code 251 = .ok (.goto 269, 3) := by decide +kernel
theorem d_L_law_254 : decode code 254 = .ok (.aload_n 1, 1) := by decide +kernel
theorem d_L_law_255 : decode code 255 = .ok (.aload_n 0, 1) := by decide +kernel
theorem d_L_law_256 : decode code 256 = .ok (.iload_n 3, 1) := by decide +kernel
theorem d_L_law_257 : decode code 257 = .ok (.iconst 1, 1) := by decide +kernel
theorem d_L_law_258 : decode code 258 = .ok (.iadd, 1) := by decide +kernel
theorem d_L_law_259 : decode code 259 = .ok (.iaload, 1) := by decide +kernel
theorem d_L_law_260 : decode code 260 = .ok (.invokevirtual 40, 3) := by decide +kernel
theorem d_L_law_263 : decode code 263 = .ok (.aload_n 2, 1) := by decide +kernel
theorem d_L_law_264 : decode code 264 = .ok (.aload_n 0, 1) := by decide +kernel
theorem d_L_law_265 : decode code 265 = .ok (.iload_n 3, 1) := by decide +kernel
theorem d_L_law_266 : decode code 266 = .ok (.iconst 1, 1) := by decide +kernel
theorem d_L_law_267 : decode code 267 = .ok (.iadd, 1) := by decide +kernel
theorem d_L_law_268 : decode code 268 = .ok (.iaload, 1) := by decide +kernel
theorem d_L_law_269 : decode code 269 = .ok (.invokevirtual 44, 3) := by decide +kernel
theorem d_L_law_272 : decode code 272 = .ok (.if_icmp .eq 248, 3) := by decide +kernel
theorem d_L_law_275 : decode code 275 = .ok (.iconst 0, 1) := by decide +kernel
theorem d_L_law_276 : decode code 276 = .ok (.ireturn, 1) := by decide +kernel
theorem d_L_law_277 : decode code 277 = .ok (.aload_n 1, 1) := by decide +kernel
theorem d_L_law_278 : decode code 278 = .ok (.invokevirtual 45, 3) := by decide +kernel
theorem d_L_law_281 : decode code 281 = .ok (.aload_n 2, 1) := by decide +kernel
theorem d_L_law_282 : decode code 282 = .ok (.invokevirtual 48, 3) := by decide +kernel
theorem d_L_law_285 : decode code 285 = .ok (.if_icmp .eq 235, 3) := by decide +kernel
theorem d_L_law_288 : decode code 288 = .ok (.iconst 0, 1) := by decide +kernel
theorem d_L_law_289 : decode code 289 = .ok (.ireturn, 1) := by decide +kernel
theorem d_L_law_290 : decode code 290 = .ok (.aload_n 1, 1) := by decide +kernel
theorem d_L_law_291 : decode code 291 = .ok (.invokevirtual 49, 3) := by decide +kernel
theorem d_L_law_294 : decode code 294 = .ok (.aload_n 2, 1) := by decide +kernel
theorem d_L_law_295 : decode code 295 = .ok (.invokevirtual 52, 3) := by decide +kernel
theorem d_L_law_298 : decode code 298 = .ok (.if_icmp .eq 222, 3) := by decide +kernel
theorem d_L_law_301 : decode code 301 = .ok (.iconst 0, 1) := by decide +kernel
theorem d_L_law_302 : decode code 302 = .ok (.ireturn, 1) := by decide +kernel
theorem d_L_law_303 : decode code 303 = .ok (.aload_n 1, 1) := by decide +kernel
theorem d_L_law_304 : decode code 304 = .ok (.aload_n 0, 1) := by decide +kernel
theorem d_L_law_305 : decode code 305 = .ok (.iload_n 3, 1) := by decide +kernel
theorem d_L_law_306 : decode code 306 = .ok (.iconst 1, 1) := by decide +kernel
theorem d_L_law_307 : decode code 307 = .ok (.iadd, 1) := by decide +kernel
theorem d_L_law_308 : decode code 308 = .ok (.iaload, 1) := by decide +kernel
theorem d_L_law_309 : decode code 309 = .ok (.aload_n 0, 1) := by decide +kernel
theorem d_L_law_310 : decode code 310 = .ok (.iload_n 3, 1) := by decide +kernel
theorem d_L_law_311 : decode code 311 = .ok (.iconst 2, 1) := by decide +kernel
theorem d_L_law_312 : decode code 312 = .ok (.iadd, 1) := by decide +kernel
theorem d_L_law_313 : decode code 313 = .ok (.iaload, 1) := by decide +kernel
theorem d_L_law_314 : decode code 314 = .ok (.invokevirtual 53, 3) := by decide +kernel
theorem d_L_law_317 : decode code 317 = .ok (.aload_n 2, 1) := by decide +kernel
theorem d_L_law_318 : decode code 318 = .ok (.aload_n 0, 1) := by decide +kernel
theorem d_L_law_319 : decode code 319 = .ok (.iload_n 3, 1) := by decide +kernel
theorem d_L_law_320 : decode code 320 = .ok (.iconst 1, 1) := by decide +kernel
theorem d_L_law_321 : decode code 321 = .ok (.iadd, 1) := by decide +kernel
theorem d_L_law_322 : decode code 322 = .ok (.iaload, 1) := by decide +kernel
theorem d_L_law_323 : decode code 323 = .ok (.aload_n 0, 1) := by decide +kernel
theorem d_L_law_324 : decode code 324 = .ok (.iload_n 3, 1) := by decide +kernel
theorem d_L_law_325 : decode code 325 = .ok (.iconst 2, 1) := by decide +kernel
theorem d_L_law_326 : decode code 326 = .ok (.iadd, 1) := by decide +kernel
theorem d_L_law_327 : decode code 327 = .ok (.iaload, 1) := by decide +kernel
theorem d_L_law_328 : decode code 328 = .ok (.invokevirtual 56, 3) := by decide +kernel
theorem d_L_law_331 : decode code 331 = .ok (.if_icmp .eq 189, 3) := by decide +kernel
theorem d_L_law_334 : decode code 334 = .ok (.iconst 0, 1) := by decide +kernel
theorem d_L_law_335 : decode code 335 = .ok (.ireturn, 1) := by decide +kernel
theorem d_L_law_336 : decode code 336 = .ok (.aload_n 1, 1) := by decide +kernel
theorem d_L_law_337 : decode code 337 = .ok (.invokevirtual 57, 3) := by decide +kernel
theorem d_L_law_340 : decode code 340 = .ok (.aload_n 2, 1) := by decide +kernel
theorem d_L_law_341 : decode code 341 = .ok (.invokevirtual 60, 3) := by decide +kernel
theorem d_L_law_344 : decode code 344 = .ok (.if_icmp .eq 176, 3) := by decide +kernel
theorem d_L_law_347 : decode code 347 = .ok (.iconst 0, 1) := by decide +kernel
theorem d_L_law_348 : decode code 348 = .ok (.ireturn, 1) := by decide +kernel
theorem d_L_law_349 : decode code 349 = .ok (.aload_n 1, 1) := by decide +kernel
theorem d_L_law_350 : decode code 350 = .ok (.aload_n 0, 1) := by decide +kernel
theorem d_L_law_351 : decode code 351 = .ok (.iload_n 3, 1) := by decide +kernel
theorem d_L_law_352 : decode code 352 = .ok (.iconst 1, 1) := by decide +kernel
theorem d_L_law_353 : decode code 353 = .ok (.iadd, 1) := by decide +kernel
theorem d_L_law_354 : decode code 354 = .ok (.iaload, 1) := by decide +kernel
theorem d_L_law_355 : decode code 355 = .ok (.invokevirtual 61, 3) := by decide +kernel
theorem d_L_law_358 : decode code 358 = .ok (.aload_n 2, 1) := by decide +kernel
theorem d_L_law_359 : decode code 359 = .ok (.aload_n 0, 1) := by decide +kernel
theorem d_L_law_360 : decode code 360 = .ok (.iload_n 3, 1) := by decide +kernel
theorem d_L_law_361 : decode code 361 = .ok (.iconst 1, 1) := by decide +kernel
theorem d_L_law_362 : decode code 362 = .ok (.iadd, 1) := by decide +kernel
theorem d_L_law_363 : decode code 363 = .ok (.iaload, 1) := by decide +kernel
theorem d_L_law_364 : decode code 364 = .ok (.invokevirtual 64, 3) := by decide +kernel
theorem d_L_law_367 : decode code 367 = .ok (.if_icmp .eq 153, 3) := by decide +kernel
theorem d_L_law_370 : decode code 370 = .ok (.iconst 0, 1) := by decide +kernel
theorem d_L_law_371 : decode code 371 = .ok (.ireturn, 1) := by decide +kernel
theorem d_L_law_372 : decode code 372 = .ok (.aload_n 1, 1) := by decide +kernel
theorem d_L_law_373 : decode code 373 = .ok (.aload_n 0, 1) := by decide +kernel
theorem d_L_law_374 : decode code 374 = .ok (.iload_n 3, 1) := by decide +kernel
theorem d_L_law_375 : decode code 375 = .ok (.iconst 1, 1) := by decide +kernel
theorem d_L_law_376 : decode code 376 = .ok (.iadd, 1) := by decide +kernel
theorem d_L_law_377 : decode code 377 = .ok (.iaload, 1) := by decide +kernel
theorem d_L_law_378 : decode code 378 = .ok (.invokevirtual 65, 3) := by decide +kernel
theorem d_L_law_381 : decode code 381 = .ok (.aload_n 2, 1) := by decide +kernel
theorem d_L_law_382 : decode code 382 = .ok (.aload_n 0, 1) := by decide +kernel
theorem d_L_law_383 : decode code 383 = .ok (.iload_n 3, 1) := by decide +kernel
theorem d_L_law_384 : decode code 384 = .ok (.iconst 1, 1) := by decide +kernel
theorem d_L_law_385 : decode code 385 = .ok (.iadd, 1) := by decide +kernel
theorem d_L_law_386 : decode code 386 = .ok (.iaload, 1) := by decide +kernel
theorem d_L_law_387 : decode code 387 = .ok (.invokevirtual 68, 3) := by decide +kernel
theorem d_L_law_390 : decode code 390 = .ok (.if_icmp .eq 130, 3) := by decide +kernel
theorem d_L_law_393 : decode code 393 = .ok (.iconst 0, 1) := by decide +kernel
theorem d_L_law_394 : decode code 394 = .ok (.ireturn, 1) := by decide +kernel
theorem d_L_law_395 : decode code 395 = .ok (.aload_n 1, 1) := by decide +kernel
theorem d_L_law_396 : decode code 396 = .ok (.aload_n 0, 1) := by decide +kernel
theorem d_L_law_397 : decode code 397 = .ok (.iload_n 3, 1) := by decide +kernel
theorem d_L_law_398 : decode code 398 = .ok (.iconst 1, 1) := by decide +kernel
theorem d_L_law_399 : decode code 399 = .ok (.iadd, 1) := by decide +kernel
theorem d_L_law_400 : decode code 400 = .ok (.iaload, 1) := by decide +kernel
theorem d_L_law_401 : decode code 401 = .ok (.invokevirtual 69, 3) := by decide +kernel
theorem d_L_law_404 : decode code 404 = .ok (.aload_n 2, 1) := by decide +kernel
theorem d_L_law_405 : decode code 405 = .ok (.aload_n 0, 1) := by decide +kernel
theorem d_L_law_406 : decode code 406 = .ok (.iload_n 3, 1) := by decide +kernel
theorem d_L_law_407 : decode code 407 = .ok (.iconst 1, 1) := by decide +kernel
theorem d_L_law_408 : decode code 408 = .ok (.iadd, 1) := by decide +kernel
theorem d_L_law_409 : decode code 409 = .ok (.iaload, 1) := by decide +kernel
theorem d_L_law_410 : decode code 410 = .ok (.invokevirtual 72, 3) := by decide +kernel
theorem d_L_law_413 : decode code 413 = .ok (.if_icmp .eq 107, 3) := by decide +kernel
theorem d_L_law_416 : decode code 416 = .ok (.iconst 0, 1) := by decide +kernel
theorem d_L_law_417 : decode code 417 = .ok (.ireturn, 1) := by decide +kernel
theorem d_L_law_418 : decode code 418 = .ok (.aload_n 1, 1) := by decide +kernel
theorem d_L_law_419 : decode code 419 = .ok (.aload_n 0, 1) := by decide +kernel
theorem d_L_law_420 : decode code 420 = .ok (.iload_n 3, 1) := by decide +kernel
theorem d_L_law_421 : decode code 421 = .ok (.iconst 1, 1) := by decide +kernel
theorem d_L_law_422 : decode code 422 = .ok (.iadd, 1) := by decide +kernel
theorem d_L_law_423 : decode code 423 = .ok (.iaload, 1) := by decide +kernel
theorem d_L_law_424 : decode code 424 = .ok (.invokevirtual 73, 3) := by decide +kernel
theorem d_L_law_427 : decode code 427 = .ok (.aload_n 2, 1) := by decide +kernel
theorem d_L_law_428 : decode code 428 = .ok (.aload_n 0, 1) := by decide +kernel
theorem d_L_law_429 : decode code 429 = .ok (.iload_n 3, 1) := by decide +kernel
theorem d_L_law_430 : decode code 430 = .ok (.iconst 1, 1) := by decide +kernel
theorem d_L_law_431 : decode code 431 = .ok (.iadd, 1) := by decide +kernel
theorem d_L_law_432 : decode code 432 = .ok (.iaload, 1) := by decide +kernel
theorem d_L_law_433 : decode code 433 = .ok (.invokevirtual 76, 3) := by decide +kernel
theorem d_L_law_436 : decode code 436 = .ok (.if_icmp .eq 84, 3) := by decide +kernel
theorem d_L_law_439 : decode code 439 = .ok (.iconst 0, 1) := by decide +kernel
theorem d_L_law_440 : decode code 440 = .ok (.ireturn, 1) := by decide +kernel
theorem d_L_law_441 : decode code 441 = .ok (.aload_n 1, 1) := by decide +kernel
theorem d_L_law_442 : decode code 442 = .ok (.aload_n 0, 1) := by decide +kernel
theorem d_L_law_443 : decode code 443 = .ok (.iload_n 3, 1) := by decide +kernel
theorem d_L_law_444 : decode code 444 = .ok (.iconst 1, 1) := by decide +kernel
theorem d_L_law_445 : decode code 445 = .ok (.iadd, 1) := by decide +kernel
theorem d_L_law_446 : decode code 446 = .ok (.iaload, 1) := by decide +kernel
theorem d_L_law_447 : decode code 447 = .ok (.aload_n 0, 1) := by decide +kernel
theorem d_L_law_448 : decode code 448 = .ok (.iload_n 3, 1) := by decide +kernel
theorem d_L_law_449 : decode code 449 = .ok (.iconst 2, 1) := by decide +kernel
theorem d_L_law_450 : decode code 450 = .ok (.iadd, 1) := by decide +kernel
theorem d_L_law_451 : decode code 451 = .ok (.iaload, 1) := by decide +kernel
theorem d_L_law_452 : decode code 452 = .ok (.invokevirtual 77, 3) := by decide +kernel
theorem d_L_law_455 : decode code 455 = .ok (.aload_n 2, 1) := by decide +kernel
theorem d_L_law_456 : decode code 456 = .ok (.aload_n 0, 1) := by decide +kernel
theorem d_L_law_457 : decode code 457 = .ok (.iload_n 3, 1) := by decide +kernel
theorem d_L_law_458 : decode code 458 = .ok (.iconst 1, 1) := by decide +kernel
theorem d_L_law_459 : decode code 459 = .ok (.iadd, 1) := by decide +kernel
theorem d_L_law_460 : decode code 460 = .ok (.iaload, 1) := by decide +kernel
theorem d_L_law_461 : decode code 461 = .ok (.aload_n 0, 1) := by decide +kernel
theorem d_L_law_462 : decode code 462 = .ok (.iload_n 3, 1) := by decide +kernel
theorem d_L_law_463 : decode code 463 = .ok (.iconst 2, 1) := by decide +kernel
theorem d_L_law_464 : decode code 464 = .ok (.iadd, 1) := by decide +kernel
theorem d_L_law_465 : decode code 465 = .ok (.iaload, 1) := by decide +kernel
theorem d_L_law_466 : decode code 466 = .ok (.invokevirtual 80, 3) := by decide +kernel
theorem d_L_law_469 : decode code 469 = .ok (.if_icmp .eq 51, 3) := by decide +kernel
theorem d_L_law_472 : decode code 472 = .ok (.iconst 0, 1) := by decide +kernel
theorem d_L_law_473 : decode code 473 = .ok (.ireturn, 1) := by decide +kernel
theorem d_L_law_474 : decode code 474 = .ok (.aload_n 1, 1) := by decide +kernel
theorem d_L_law_475 : decode code 475 = .ok (.aload_n 0, 1) := by decide +kernel
theorem d_L_law_476 : decode code 476 = .ok (.iload_n 3, 1) := by decide +kernel
theorem d_L_law_477 : decode code 477 = .ok (.iconst 1, 1) := by decide +kernel
theorem d_L_law_478 : decode code 478 = .ok (.iadd, 1) := by decide +kernel
theorem d_L_law_479 : decode code 479 = .ok (.iaload, 1) := by decide +kernel
theorem d_L_law_480 : decode code 480 = .ok (.aload_n 0, 1) := by decide +kernel
theorem d_L_law_481 : decode code 481 = .ok (.iload_n 3, 1) := by decide +kernel
theorem d_L_law_482 : decode code 482 = .ok (.iconst 2, 1) := by decide +kernel
theorem d_L_law_483 : decode code 483 = .ok (.iadd, 1) := by decide +kernel
theorem d_L_law_484 : decode code 484 = .ok (.iaload, 1) := by decide +kernel
theorem d_L_law_485 : decode code 485 = .ok (.invokevirtual 81, 3) := by decide +kernel
theorem d_L_law_488 : decode code 488 = .ok (.aload_n 2, 1) := by decide +kernel
theorem d_L_law_489 : decode code 489 = .ok (.aload_n 0, 1) := by decide +kernel
theorem d_L_law_490 : decode code 490 = .ok (.iload_n 3, 1) := by decide +kernel
theorem d_L_law_491 : decode code 491 = .ok (.iconst 1, 1) := by decide +kernel
theorem d_L_law_492 : decode code 492 = .ok (.iadd, 1) := by decide +kernel
theorem d_L_law_493 : decode code 493 = .ok (.iaload, 1) := by decide +kernel
theorem d_L_law_494 : decode code 494 = .ok (.aload_n 0, 1) := by decide +kernel
theorem d_L_law_495 : decode code 495 = .ok (.iload_n 3, 1) := by decide +kernel
theorem d_L_law_496 : decode code 496 = .ok (.iconst 2, 1) := by decide +kernel
theorem d_L_law_497 : decode code 497 = .ok (.iadd, 1) := by decide +kernel
theorem d_L_law_498 : decode code 498 = .ok (.iaload, 1) := by decide +kernel
theorem d_L_law_499 : decode code 499 = .ok (.invokevirtual 84, 3) := by decide +kernel
theorem d_L_law_502 : decode code 502 = .ok (.if_icmp .eq 18, 3) := by decide +kernel
theorem d_L_law_505 : decode code 505 = .ok (.iconst 0, 1) := by decide +kernel
theorem d_L_law_506 : decode code 506 = .ok (.ireturn, 1) := by decide +kernel
theorem d_L_law_507 : decode code 507 = .ok (.aload_n 1, 1) := by decide +kernel
theorem d_L_law_508 : decode code 508 = .ok (.invokevirtual 85, 3) := by decide +kernel
theorem d_L_law_511 : decode code 511 = .ok (.aload_n 2, 1) := by decide +kernel
theorem d_L_law_512 : decode code 512 = .ok (.invokevirtual 88, 3) := by decide +kernel
theorem d_L_law_515 : decode code 515 = .ok (.if_icmp .eq 5, 3) := by decide +kernel
theorem d_L_law_518 : decode code 518 = .ok (.iconst 0, 1) := by decide +kernel
theorem d_L_law_519 : decode code 519 = .ok (.ireturn, 1) := by decide +kernel
theorem d_L_law_520 : decode code 520 = .ok (.iinc 3 3, 3) := by decide +kernel
theorem d_L_law_523 : decode code 523 = .ok (.goto (-505), 3) := by decide +kernel
theorem d_L_law_526 : decode code 526 = .ok (.iconst 1, 1) := by decide +kernel
theorem d_L_law_527 : decode code 527 = .ok (.ireturn, 1) := by decide +kernel
end
section
/-! My own layer over the kit: xj, a judgement that carries world, locals and frame facts along; a row an instruction. -/
abbrev XE : Type := Program × Env × State × MethodId × Array Value × List Frame × Method × Code
abbrev XG : Type := va_G × List vw_C × List (ClassId × FieldType)
def tb (G : XG) (U : State) : Prop := va_K G.1 G.2.1 G.2.2 U
theorem tb.warm {G : XG} {s U : State} (h : tb G s) (hW : s.WarmedH U.vm) : tb G U := va_K.moved hW.alike h
theorem tb.same {G : XG} {u U : State} (h : tb G u) (hvm : u.vm = U.vm) : tb G U := va_K.moved (by rw [hvm]; exact Vm.Alike.refl _) h
theorem okb.pay {args a2 : Array Value} {s U : State} (hW : s.WarmedH U.vm) {w : Cond} (h : okb w = true) (hb : w.before args s = true) : w.before a2 U = true := by
  cases w <;> first | exact va_Nw.use rfl (va_Nw.warmM hW (va_Nw.of rfl hb)) | exact word_at hW (good_of_word h) hb
theorem tbl_ok : ∀ w ∈ big, okb w = true := fun _ h => (List.mem_filter.mp h).2
theorem tbl_pay {args : Array Value} {s : State} (hts : ∀ w ∈ big, w.before args s = true) {h : Cond} (hh : h ∈ big) : ∀ w ∈ h :: big, ∀ (a2 : Array Value) (U : State), s.WarmedH U.vm → w.before a2 U = true := by
  intro w hw a2 U hW
  have hm : w ∈ big := by
    rcases List.mem_cons.mp hw with e | e
    · exact e ▸ hh
    · exact e
  exact okb.pay hW (tbl_ok w hm) (hts w hm)
def Cx (E : XE) (cc : ByteArray) (nL : Nat) (ret : Option FieldType) (own : String) (G : XG) : Prop :=
  E.1.tables.exec = Jvm.exec ∧ E.2.2.2.2.2.2.2.code = cc ∧ E.2.2.2.2.2.2.2.maxLocals = nL ∧ E.2.2.2.2.2.2.1.sig.returnType = ret ∧ E.2.2.2.2.2.2.1.locks = false ∧ E.2.2.1.vm.findClass own = some E.2.2.2.1.cls ∧ (∀ w ∈ big, w.before E.2.2.2.2.1 E.2.2.1 = true) ∧ tb G E.2.2.1
/-- a contract's end -/
def xEnd (G : XG) (A : Nat → Prop) (post : Option Value → va_W → Prop) : Array Value → State → Outcome → State → Prop := fun _ st oc t =>
  (∃ (v : Option Value) (w' : va_W), oc = .returned v ∧ post v w' ∧ va_P G.1 G.2.1 w' t.heap ∧ va_D A w') ∧ va_F A st t
def xQ (E : XE) (G : XG) (A : Nat → Prop) (post : Option Value → va_W → Prop) (mc ms : Nat) : State → Prop := MQ E.2.2.2.2.2.1 (xEnd G A post) E.2.2.2.2.1 E.2.2.1 mc ms A
def xj (E : XE) (l : Launch) (R : Room) (cc : ByteArray) (nL : Nat) (ret : Option FieldType) (own : String) (G : XG) (A : Nat → Prop) (mc ms : Nat) (post : Option Value → va_W → Prop) (kc ks : Nat) (w : va_W) (pc : Nat) (lv : List (Nat × Value)) (st : List Value) : Prop :=
  Cx E cc nL ret own G → (∀ q, E.2.2.1.heap.size ≤ q → A q) → ∀ (H : Heap) (locs : List Loc) (ls : Array Slot), va_P G.1 G.2.1 w H → va_D A w → va_S A E.2.2.1.heap H locs → lv_has ls nL lv →
    W E.1 l E.2.1 R E.2.2.1 E.2.2.2.1 E.2.2.2.2.1 E.2.2.2.2.2.1 E.2.2.2.2.2.2.1 E.2.2.2.2.2.2.2 H locs kc ks (xQ E G A post mc ms) (F0 E.2.2.2.1 pc ls st)
/-- a contract: from the world w, on the arguments av, the method ends with post; nothing else changes -/
def CT (l : Launch) (y : MethodName) (cc : ByteArray) (nL : Nat) (ret : Option FieldType) (rm : Room) (G : XG) (av : List Value) (w : va_W) (post : Option Value → va_W → Prop) : Prop :=
  ∀ sz : Nat, Met l y (Cond.code y cc nL ret :: big) rm (va_Pc av (fun U => U.heap.size = sz ∧ va_P G.1 G.2.1 w U.heap ∧ va_D (fun _ => True) w ∧ tb G U)) (xEnd G (va_A w sz) post) rm.cells rm.slots (va_A w sz)
theorem CT.of {l : Launch} {y : MethodName} {cc : ByteArray} {nL : Nat} {ret : Option FieldType} {rm : Room} {G : XG} {av : List Value} {w : va_W} {post : Option Value → va_W → Prop} (own : String) (hy : plainName y.cls = true) (ho : y.cls = own) (hn : (lg_sl av).length ≤ nL)
    (body : ∀ (E : XE) (A : Nat → Prop), E.2.2.2.2.2.2.1.name = y.name → xj E l rm cc nL ret own G A rm.cells rm.slots post 0 0 w 0 (lv_args 0 av) []) : CT l y cc nL ret rm G av w post := by
  intro sz
  refine Met.ofW (cc := cc) (maxL := nL) (ret := ret) hy rfl ?_
  intro p e s m args below meth c s₁ B hml hv
  obtain ⟨rfl, hsz, hP, hD0, hT⟩ := hv
  subst hsz
  have hl := lv_entry av (n := nL) hn
  rw [lg_entry_eq]
  have hts := atoms_spec (ws := Cond.code y cc nL ret :: big) B.pre
  refine body (p, e, s, m, av.toArray, below, meth, c) (va_A w s.heap.size) (name_of_methodNamed B.named B.method).1 ⟨B.exec, B.bytes, hml, B.returns, B.notSynchronized, ?_, fun w hw => hts w (List.mem_cons_of_mem _ hw), hT⟩ (fun q h => Or.inr h) s.heap [] _ hP hD0.self va_S.rf hl
  rw [← ho]
  exact findClass_of_methodNamed B.named
theorem CT.mono {l : Launch} {y : MethodName} {cc : ByteArray} {nL : Nat} {ret : Option FieldType} {rm : Room} {G : XG} {av : List Value} {w : va_W} {post post' : Option Value → va_W → Prop} (h : CT l y cc nL ret rm G av w post) (hp : ∀ v w', post v w' → post' v w') : CT l y cc nL ret rm G av w post' := by
  intro sz
  refine MetFree.mono (h sz) (fun _ _ q => q) (fun _ _ _ _ _ q => q) (fun a s o t _ hq => ?_)
  obtain ⟨⟨⟨v, w', h1, h2, h3⟩, h4⟩, h5⟩ := hq
  exact ⟨⟨⟨v, w', h1, hp v w' h2, h3⟩, h4⟩, h5⟩
/-- the frame rule, once for all: cells of a larger world that the contract doesn't speak of stay -/
theorem CT.frame {l : Launch} {y : MethodName} {cc : ByteArray} {nL : Nat} {ret : Option FieldType} {rm : Room} {G : XG} {av : List Value} {w w0 : va_W} {post post' : Option Value → va_W → Prop} (h : CT l y cc nL ret rm G av w0 post) (hsub : ∀ q ∈ w0, q ∈ w) (hnd : ∀ B : Nat → Prop, va_D B w → va_D B w0)
    (hp : ∀ (v : Option Value) (w0' : va_W), post v w0' → ∃ (w' wr : va_W), post' v w' ∧ (∀ q ∈ w', q ∈ w0' ∨ q ∈ wr) ∧ (∀ q ∈ wr, q ∈ w ∧ q.1 ∉ w0.map (·.1)) ∧ (∀ B : Nat → Prop, va_D B w → va_D B wr) ∧ (∀ B : Nat → Prop, va_D B (wr ++ w0') → va_D B w')) : CT l y cc nL ret rm G av w post' := by
  intro sz
  refine MetFree.mono (h sz) (fun a s q => ?_) (fun _ _ _ _ _ q => q) (fun a s o t hP0 hq => ?_)
  · obtain ⟨e1, e2, hP, hD, hT⟩ := q
    refine ⟨e1, e2, fun k x hk => ?_, hnd _ hD, hT⟩
    obtain ⟨i, hi⟩ := List.getElem?_of_mem (hsub x (List.mem_of_getElem? hk))
    exact hP i x hi
  · obtain ⟨-, e2, hP, hD, -⟩ := hP0
    obtain ⟨⟨⟨v, w0', h1, h2, h3, h4⟩, h5⟩, L, h6, h7⟩ := hq
    obtain ⟨w', wr, g1, g2, g3, g4, g5⟩ := hp v w0' h2
    have hAA : ∀ q, va_A w0 sz q → va_A w sz q := by
      intro q hq
      rcases hq with ⟨k, e, hk⟩ | hq
      · obtain ⟨i, hi⟩ := List.getElem?_of_mem (hsub _ (List.mem_of_getElem? hk))
        exact Or.inl ⟨i, e, hi⟩
      · exact Or.inr hq
    have hout : ∀ q ∈ wr, q.1 < s.heap.size ∧ ¬ va_A w0 sz q.1 := by
      intro q hq
      obtain ⟨i, hi⟩ := List.getElem?_of_mem (g3 q hq).1
      have hlt := (hP i q hi).lt
      refine ⟨hlt, fun hA => ?_⟩
      rcases hA with ⟨k, e, hk⟩ | hA
      · exact (g3 q hq).2 (List.mem_map.mpr ⟨(q.1, e), List.mem_of_getElem? hk, rfl⟩)
      · omega
    have hPr : va_P G.1 G.2.1 wr t.heap := by
      intro k q hk
      have hq := List.mem_of_getElem? hk
      obtain ⟨i, hi⟩ := List.getElem?_of_mem (g3 q hq).1
      exact (hP i q hi).kept (h5.2 q.1 (hout q hq).1 (hout q hq).2)
    have hDr : va_D (va_A w sz) wr := (g4 _ (hD.self (sz := sz)))
    have hDa : va_D (va_A w sz) (wr ++ w0') := hDr.app (h4.weaken (fun _ _ _ hq => hAA _ hq)) (fun i j x y hx hy hxy => (hout x (List.mem_of_getElem? hx)).2 (by rw [hxy]; exact h4.2 j y hy))
    refine ⟨⟨⟨v, w', h1, g1, fun k q hk => ?_, g5 _ hDa⟩, h5.1, fun q hq1 hq2 => h5.2 q hq1 (fun z => hq2 (hAA q z))⟩, L, h6, fun q hq => hAA _ (h7 q hq)⟩
    rcases g2 q (List.mem_of_getElem? hk) with hq | hq
    · obtain ⟨i, hi⟩ := List.getElem?_of_mem hq
      exact h3 i q hi
    · obtain ⟨i, hi⟩ := List.getElem?_of_mem hq
      exact hPr i q hi
theorem va_D.left {B : Nat → Prop} {w1 w2 : va_W} (h : va_D B (w1 ++ w2)) : va_D B w1 := by
  refine ⟨fun i j x y hx hy hxy => ?_, fun k q hk => ?_⟩
  · have h1 := (List.getElem?_eq_some_iff.mp hx).1
    have h2 := (List.getElem?_eq_some_iff.mp hy).1
    exact h.1 i j x y (by rw [List.getElem?_append_left h1]; exact hx) (by rw [List.getElem?_append_left h2]; exact hy) hxy
  · have h1 := (List.getElem?_eq_some_iff.mp hk).1
    exact h.2 k q (by rw [List.getElem?_append_left h1]; exact hk)
theorem va_D.right {B : Nat → Prop} {w1 w2 : va_W} (h : va_D B (w1 ++ w2)) : va_D B w2 := by
  refine ⟨fun i j x y hx hy hxy => ?_, fun k q hk => ?_⟩
  · have e := h.1 (w1.length + i) (w1.length + j) x y (by rw [List.getElem?_append_right (by omega), Nat.add_sub_cancel_left]; exact hx) (by rw [List.getElem?_append_right (by omega), Nat.add_sub_cancel_left]; exact hy) hxy
    omega
  · exact h.2 (w1.length + k) q (by rw [List.getElem?_append_right (by omega), Nat.add_sub_cancel_left]; exact hk)
theorem va_D.flip {B : Nat → Prop} {w1 w2 : va_W} (h : va_D B (w1 ++ w2)) : va_D B (w2 ++ w1) := by
  refine va_D.app h.right h.left (fun i j x y hx hy hxy => ?_)
  have h1 := (List.getElem?_eq_some_iff.mp hy).1
  have e := h.1 (w1.length + i) j x y (by rw [List.getElem?_append_right (by omega), Nat.add_sub_cancel_left]; exact hx) (by rw [List.getElem?_append_left h1]; exact hy) hxy
  omega
theorem va_D.cross {B : Nat → Prop} {w1 w2 : va_W} (h : va_D B (w1 ++ w2)) : ∀ q ∈ w2, q.1 ∉ w1.map (·.1) := by
  intro q hq hm
  obtain ⟨x, hx, hxq⟩ := List.mem_map.mp hm
  obtain ⟨i, hi⟩ := List.getElem?_of_mem hq
  obtain ⟨j, hj⟩ := List.getElem?_of_mem hx
  have h1 := (List.getElem?_eq_some_iff.mp hj).1
  have e := h.1 (w1.length + i) j q x (by rw [List.getElem?_append_right (by omega), Nat.add_sub_cancel_left]; exact hi) (by rw [List.getElem?_append_left h1]; exact hj) hxq.symm
  omega
theorem va_D.cross' {B : Nat → Prop} {w1 w2 : va_W} (h : va_D B (w1 ++ w2)) : ∀ q ∈ w1, q.1 ∉ w2.map (·.1) := h.flip.cross
/-- the frame rule where the addresses' being apart is taken from the start itself -/
theorem CT.frameD {l : Launch} {y : MethodName} {cc : ByteArray} {nL : Nat} {ret : Option FieldType} {rm : Room} {G : XG} {av : List Value} {w : va_W} {post' : Option Value → va_W → Prop} (h : va_D (fun _ => True) w → CT l y cc nL ret rm G av w post') : CT l y cc nL ret rm G av w post' := by
  intro sz p e ha hc hk s m args below hf happ hP hK
  exact h hP.2.2.2.1 sz p e ha hc hk s m args below hf happ hP hK
theorem CT.left {l : Launch} {y : MethodName} {cc : ByteArray} {nL : Nat} {ret : Option FieldType} {rm : Room} {G : XG} {av : List Value} {w0 wr : va_W} {post : Option Value → va_W → Prop} (h : CT l y cc nL ret rm G av w0 post) : CT l y cc nL ret rm G av (w0 ++ wr) (fun v w' => ∃ w0', post v w0' ∧ w' = w0' ++ wr) := by
  refine CT.frameD (fun hD => CT.frame h (fun q hq => List.mem_append_left _ hq) (fun B hB => hB.left) (fun v w0' hp => ⟨w0' ++ wr, wr, ⟨w0', hp, rfl⟩, fun q hq => List.mem_append.mp hq, fun q hq => ⟨List.mem_append_right _ hq, hD.cross q hq⟩, fun B hB => hB.right, fun B hB => hB.flip⟩))
theorem CT.right {l : Launch} {y : MethodName} {cc : ByteArray} {nL : Nat} {ret : Option FieldType} {rm : Room} {G : XG} {av : List Value} {w0 wr : va_W} {post : Option Value → va_W → Prop} (h : CT l y cc nL ret rm G av w0 post) : CT l y cc nL ret rm G av (wr ++ w0) (fun v w' => ∃ w0', post v w0' ∧ w' = wr ++ w0') := by
  refine CT.frameD (fun hD => CT.frame h (fun q hq => List.mem_append_right _ hq) (fun B hB => hB.right) (fun v w0' hp => ⟨wr ++ w0', wr, ⟨w0', hp, rfl⟩, fun q hq => (List.mem_append.mp hq).symm, fun q hq => ⟨List.mem_append_left _ hq, hD.cross' q hq⟩, fun B hB => hB.left, fun B hB => hB⟩))
theorem va_D.mid {B : Nat → Prop} {u v : va_W} {x : Nat × va_E} (h : va_D B (u ++ x :: v)) : va_D B (u ++ v) := by
  refine va_D.app h.left (va_D.right (w1 := [x]) h.right) (fun i j p q hp hq hpq => ?_)
  exact h.cross' p (List.mem_of_getElem? hp) (List.mem_map.mpr ⟨q, List.mem_cons_of_mem _ (List.mem_of_getElem? hq), hpq.symm⟩)
theorem va_D.put {B : Nat → Prop} {u v : va_W} {x : Nat × va_E} (h : va_D B ((u ++ v) ++ [x])) : va_D B (u ++ x :: v) := by
  have hx := h.cross
  refine va_D.app h.left.left (va_D.app (w1 := [x]) h.right h.left.right (fun i j p q hp hq hpq => ?_)) (fun i j p q hp hq hpq => ?_)
  · have hp1 := List.mem_of_getElem? hp
    exact hx p hp1 (List.mem_map.mpr ⟨q, List.mem_append_right _ (List.mem_of_getElem? hq), hpq.symm⟩)
  · rcases List.mem_cons.mp (List.mem_of_getElem? hq) with h1 | h1
    · subst h1
      exact hx q (List.mem_singleton.mpr rfl) (List.mem_map.mpr ⟨p, List.mem_append_left _ (List.mem_of_getElem? hp), hpq⟩)
    · exact h.left.cross q h1 (List.mem_map.mpr ⟨p, List.mem_of_getElem? hp, hpq⟩)
/-- one cell of the world, at place i -/
theorem CT.one {l : Launch} {y : MethodName} {cc : ByteArray} {nL : Nat} {ret : Option FieldType} {rm : Room} {G : XG} {av : List Value} {w : va_W} {a : Nat} {e0 : va_E} {post : Option Value → va_E → Prop} (i : Nat) (hi : w[i]? = some (a, e0)) (h : CT l y cc nL ret rm G av [(a, e0)] (fun v w' => ∃ e1, post v e1 ∧ w' = [(a, e1)])) : CT l y cc nL ret rm G av w (fun v w' => ∃ e1, post v e1 ∧ w' = w.set i (a, e1)) := by
  have hl := (List.getElem?_eq_some_iff.mp hi).1
  have hg : w[i] = (a, e0) := (List.getElem?_eq_some_iff.mp hi).2
  have hw : ∃ u v : va_W, w = u ++ (a, e0) :: v ∧ u.length = i := ⟨w.take i, w.drop (i + 1), by rw [← hg, List.getElem_cons_drop, List.take_append_drop], by rw [List.length_take]; omega⟩
  clear hg hl
  obtain ⟨u, v, rfl, rfl⟩ := hw
  refine CT.frameD (fun hD => CT.frame h (fun q hq => ?_) (fun B hB => ?_) (fun z w0' hp => ?_))
  · rw [List.mem_singleton.mp hq]; exact List.mem_append_right _ List.mem_cons_self
  · exact va_D.left (w2 := v) (w1 := [(a, e0)]) hB.right
  · obtain ⟨e1, hp, rfl⟩ := hp
    have hset : (u ++ (a, e0) :: v).set u.length (a, e1) = u ++ (a, e1) :: v := by
      rw [List.set_append_right _ _ (Nat.le_refl _), Nat.sub_self, List.set_cons_zero]
    refine ⟨_, u ++ v, ⟨e1, hp, rfl⟩, fun q hq => ?_, fun q hq => ⟨?_, ?_⟩, fun B hB => hB.mid, fun B hB => ?_⟩
    · rw [hset] at hq
      rcases List.mem_append.mp hq with hq | hq
      · exact Or.inr (List.mem_append_left _ hq)
      · rcases List.mem_cons.mp hq with hq | hq
        · exact Or.inl (List.mem_singleton.mpr hq)
        · exact Or.inr (List.mem_append_right _ hq)
    · rcases List.mem_append.mp hq with hq | hq
      · exact List.mem_append_left _ hq
      · exact List.mem_append_right _ (List.mem_cons_of_mem _ hq)
    · intro hm
      obtain ⟨x, hx, hxq⟩ := List.mem_map.mp hm
      rw [List.mem_singleton.mp hx] at hxq
      rcases List.mem_append.mp hq with hq | hq
      · exact hD.cross' q hq (List.mem_map.mpr ⟨(a, e0), List.mem_cons_self, hxq⟩)
      · exact va_D.cross (w1 := [(a, e0)]) hD.right q hq (List.mem_map.mpr ⟨(a, e0), List.mem_singleton.mpr rfl, hxq⟩)
    · rw [hset]
      exact hB.put
theorem nI_mul (a b : Nat) : nI a * nI b = nI (a * b) := (Int32.ofNat_mul a b).symm
theorem nI_sub {a b : Nat} (h : b ≤ a) : nI a - nI b = nI (a - b) := by
  have e := nI_add (a - b) b
  rw [Nat.sub_add_cancel h] at e
  rw [← e]
  apply Int32.toBitVec_inj.mp
  simp
theorem nI_div {a b : Nat} (ha : a < 2147483648) (hb : b < 2147483648) : nI a / nI b = nI (a / b) := by
  apply Int32.toInt_inj.mp
  have h1 : a / b ≤ a := Nat.div_le_self a b
  have h3 : Int32.minValue.toInt = -2147483648 := by decide
  rw [Int32.toInt_div_of_ne_left, nI_toInt (by omega), nI_toInt (by omega), nI_toInt (by omega)]
  · rw [Int.tdiv_eq_ediv_of_nonneg (by omega)]
    omega
  · intro h
    have h2 := congrArg Int32.toInt h
    rw [nI_toInt (by omega)] at h2
    omega
theorem nI_rem {a b : Nat} (ha : a < 2147483648) (hb : b < 2147483648) : nI a - nI a / nI b * nI b = nI (a % b) := by
  rw [nI_div ha hb, nI_mul, nI_sub (Nat.div_mul_le_self a b)]
  congr 1
  have := Nat.div_add_mod a b
  rw [Nat.mul_comm] at this
  omega
theorem nI_eq0 {a : Nat} (ha : a < 2147483648) : nI a = 0 ↔ a = 0 := by rw [← nI_0]; exact nI_eq ha (by omega)
/-- a truth as an int -/
def bI (b : Bool) : Int32 := if b = true then 1 else 0
theorem bI_t : bI true = 1 := rfl
theorem bI_f : bI false = 0 := rfl
theorem bI_eq0 {b : Bool} : bI b = 0 ↔ b = false := by cases b <;> decide
theorem bI_ne0 {b : Bool} : ¬ bI b = 0 ↔ b = true := by cases b <;> decide
theorem bI_inj {a b : Bool} (h : bI a = bI b) : a = b := by cases a <;> cases b <;> first | rfl | exact absurd h (by decide)
theorem bI_narrow (b : Bool) : narrow .boolean (.int (bI b)) = .int (bI b) := by cases b <;> rfl
/-- posts of methods that answer a number and leave a known world -/
def pI (r : Int32) (w : va_W) : Option Value → va_W → Prop := fun v w' => v = some (.int r) ∧ w' = w
def pL (r : Int64) (w : va_W) : Option Value → va_W → Prop := fun v w' => v = some (.long r) ∧ w' = w
def pV (w : va_W) : Option Value → va_W → Prop := fun v w' => v = none ∧ w' = w
section XJ
variable {E : XE} {l : Launch} {R : Room} {cc : ByteArray} {nL : Nat} {ret : Option FieldType} {own : String} {G : XG} {A : Nat → Prop} {mc ms : Nat} {post : Option Value → va_W → Prop} {kc ks : Nat} {w : va_W} {pc : Nat} {lv : List (Nat × Value)} {st : List Value}
theorem x_iconst {n : Int} (v : Int32) (hd : decode cc pc = .ok (.iconst n, 1)) (hv : Int32.ofInt n = v) (k1 : xj E l R cc nL ret own G A mc ms post kc ks w (pc + 1) (lv) (.int v :: st)) : xj E l R cc nL ret own G A mc ms post kc ks w (pc) (lv) (st) :=
  fun cx hA H locs ls hP hD hS hl => lv_iconst cx.1 cx.2.1 hd hv (k1 cx hA H locs ls hP hD hS hl)
theorem x_bipush {n : Int} (v : Int32) (hd : decode cc pc = .ok (.bipush n, 2)) (hv : (Int8.ofInt n).toInt32 = v) (k1 : xj E l R cc nL ret own G A mc ms post kc ks w (pc + 2) (lv) (.int v :: st)) : xj E l R cc nL ret own G A mc ms post kc ks w (pc) (lv) (st) :=
  fun cx hA H locs ls hP hD hS hl => lv_bipush cx.1 cx.2.1 hd hv (k1 cx hA H locs ls hP hD hS hl)
theorem x_sipush {n : Int} (v : Int32) (hd : decode cc pc = .ok (.sipush n, 3)) (hv : (Int16.ofInt n).toInt32 = v) (k1 : xj E l R cc nL ret own G A mc ms post kc ks w (pc + 3) (lv) (.int v :: st)) : xj E l R cc nL ret own G A mc ms post kc ks w (pc) (lv) (st) :=
  fun cx hA H locs ls hP hD hS hl => lv_sipush cx.1 cx.2.1 hd hv (k1 cx hA H locs ls hP hD hS hl)
theorem x_lconst {n : Fin 2} (v : Int64) (hd : decode cc pc = .ok (.lconst n, 1)) (hv : Int64.ofNat (n : Nat) = v) (k1 : xj E l R cc nL ret own G A mc ms post kc ks w (pc + 1) (lv) (.long v :: st)) : xj E l R cc nL ret own G A mc ms post kc ks w (pc) (lv) (st) :=
  fun cx hA H locs ls hP hD hS hl => lv_lconst cx.1 cx.2.1 hd hv (k1 cx hA H locs ls hP hD hS hl)
theorem x_iload_n {k : Fin 4} {x : Int32} (hd : decode cc pc = .ok (.iload_n k, 1)) (j : Nat) (hj : lv[j]? = some (k.val, .int x)) (k1 : xj E l R cc nL ret own G A mc ms post kc ks w (pc + 1) (lv) (.int x :: st)) : xj E l R cc nL ret own G A mc ms post kc ks w (pc) (lv) (st) :=
  fun cx hA H locs ls hP hD hS hl => lv_iload_n cx.1 cx.2.1 hd rfl (lv_at hl j hj) (k1 cx hA H locs ls hP hD hS hl)
theorem x_iload {i : Nat} {x : Int32} (hd : decode cc pc = .ok (.iload i, 2)) (j : Nat) (hj : lv[j]? = some (i, .int x)) (k1 : xj E l R cc nL ret own G A mc ms post kc ks w (pc + 2) (lv) (.int x :: st)) : xj E l R cc nL ret own G A mc ms post kc ks w (pc) (lv) (st) :=
  fun cx hA H locs ls hP hD hS hl => lv_iload cx.1 cx.2.1 hd (lv_at hl j hj) (k1 cx hA H locs ls hP hD hS hl)
theorem x_istore_n {k : Fin 4} {x : Int32} (hd : decode cc pc = .ok (.istore_n k, 1)) {i : Nat} (hi : k.val = i) (hn : i < nL) (lw : List (Nat × Value)) (hw : (i, Value.int x) :: lv.filter (fun q => !(q.1 == i) && !(q.1 + 1 == i && q.2.category == 2)) = lw) (k1 : xj E l R cc nL ret own G A mc ms post kc ks w (pc + 1) (lw) (st)) : xj E l R cc nL ret own G A mc ms post kc ks w (pc) (lv) (.int x :: st) :=
  fun cx hA H locs ls hP hD hS hl => lv_istore_n cx.1 cx.2.1 hd hi hl hn hw (fun ls2 hls => k1 cx hA H locs ls2 hP hD hS hls)
theorem x_istore {x : Int32} {i : Nat} (hd : decode cc pc = .ok (.istore i, 2)) (hn : i < nL) (lw : List (Nat × Value)) (hw : (i, Value.int x) :: lv.filter (fun q => !(q.1 == i) && !(q.1 + 1 == i && q.2.category == 2)) = lw) (k1 : xj E l R cc nL ret own G A mc ms post kc ks w (pc + 2) (lw) (st)) : xj E l R cc nL ret own G A mc ms post kc ks w (pc) (lv) (.int x :: st) :=
  fun cx hA H locs ls hP hD hS hl => lv_istore cx.1 cx.2.1 hd hl hn hw (fun ls2 hls => k1 cx hA H locs ls2 hP hD hS hls)
theorem x_lload_n {k : Fin 4} {x : Int64} (hd : decode cc pc = .ok (.lload_n k, 1)) (j : Nat) (hj : lv[j]? = some (k.val, .long x)) (k1 : xj E l R cc nL ret own G A mc ms post kc ks w (pc + 1) (lv) (.long x :: st)) : xj E l R cc nL ret own G A mc ms post kc ks w (pc) (lv) (st) :=
  fun cx hA H locs ls hP hD hS hl => lv_lload_n cx.1 cx.2.1 hd rfl (lv_at hl j hj) (k1 cx hA H locs ls hP hD hS hl)
theorem x_lload {i : Nat} {x : Int64} (hd : decode cc pc = .ok (.lload i, 2)) (j : Nat) (hj : lv[j]? = some (i, .long x)) (k1 : xj E l R cc nL ret own G A mc ms post kc ks w (pc + 2) (lv) (.long x :: st)) : xj E l R cc nL ret own G A mc ms post kc ks w (pc) (lv) (st) :=
  fun cx hA H locs ls hP hD hS hl => lv_lload cx.1 cx.2.1 hd (lv_at hl j hj) (k1 cx hA H locs ls hP hD hS hl)
theorem x_lstore_n {k : Fin 4} {x : Int64} (hd : decode cc pc = .ok (.lstore_n k, 1)) {i : Nat} (hi : k.val = i) (hn : i + 1 < nL) (lw : List (Nat × Value)) (hw : (i, Value.long x) :: lv.filter (fun q => !(q.1 == i) && (!(q.1 == i + 1) && !(q.1 + 1 == i && q.2.category == 2))) = lw) (k1 : xj E l R cc nL ret own G A mc ms post kc ks w (pc + 1) (lw) (st)) : xj E l R cc nL ret own G A mc ms post kc ks w (pc) (lv) (.long x :: st) :=
  fun cx hA H locs ls hP hD hS hl => lv_lstore_n cx.1 cx.2.1 hd hi hl hn hw (fun ls2 hls => k1 cx hA H locs ls2 hP hD hS hls)
theorem x_lstore {x : Int64} {i : Nat} (hd : decode cc pc = .ok (.lstore i, 2)) (hn : i + 1 < nL) (lw : List (Nat × Value)) (hw : (i, Value.long x) :: lv.filter (fun q => !(q.1 == i) && (!(q.1 == i + 1) && !(q.1 + 1 == i && q.2.category == 2))) = lw) (k1 : xj E l R cc nL ret own G A mc ms post kc ks w (pc + 2) (lw) (st)) : xj E l R cc nL ret own G A mc ms post kc ks w (pc) (lv) (.long x :: st) :=
  fun cx hA H locs ls hP hD hS hl => lv_lstore cx.1 cx.2.1 hd hl hn hw (fun ls2 hls => k1 cx hA H locs ls2 hP hD hS hls)
theorem x_aload_n {k : Fin 4} {x : Nat} (hd : decode cc pc = .ok (.aload_n k, 1)) (j : Nat) (hj : lv[j]? = some (k.val, .ref x)) (k1 : xj E l R cc nL ret own G A mc ms post kc ks w (pc + 1) (lv) (.ref x :: st)) : xj E l R cc nL ret own G A mc ms post kc ks w (pc) (lv) (st) :=
  fun cx hA H locs ls hP hD hS hl => lv_aload_n cx.1 cx.2.1 hd rfl (lv_at hl j hj) (k1 cx hA H locs ls hP hD hS hl)
theorem x_aload {i : Nat} {x : Nat} (hd : decode cc pc = .ok (.aload i, 2)) (j : Nat) (hj : lv[j]? = some (i, .ref x)) (k1 : xj E l R cc nL ret own G A mc ms post kc ks w (pc + 2) (lv) (.ref x :: st)) : xj E l R cc nL ret own G A mc ms post kc ks w (pc) (lv) (st) :=
  fun cx hA H locs ls hP hD hS hl => lv_aload cx.1 cx.2.1 hd (lv_at hl j hj) (k1 cx hA H locs ls hP hD hS hl)
theorem x_astore_n {k : Fin 4} {x : Nat} (hd : decode cc pc = .ok (.astore_n k, 1)) {i : Nat} (hi : k.val = i) (hn : i < nL) (lw : List (Nat × Value)) (hw : (i, Value.ref x) :: lv.filter (fun q => !(q.1 == i) && !(q.1 + 1 == i && q.2.category == 2)) = lw) (k1 : xj E l R cc nL ret own G A mc ms post kc ks w (pc + 1) (lw) (st)) : xj E l R cc nL ret own G A mc ms post kc ks w (pc) (lv) (.ref x :: st) :=
  fun cx hA H locs ls hP hD hS hl => lv_astore_n cx.1 cx.2.1 hd hi hl hn hw (fun ls2 hls => k1 cx hA H locs ls2 hP hD hS hls)
theorem x_astore {x : Nat} {i : Nat} (hd : decode cc pc = .ok (.astore i, 2)) (hn : i < nL) (lw : List (Nat × Value)) (hw : (i, Value.ref x) :: lv.filter (fun q => !(q.1 == i) && !(q.1 + 1 == i && q.2.category == 2)) = lw) (k1 : xj E l R cc nL ret own G A mc ms post kc ks w (pc + 2) (lw) (st)) : xj E l R cc nL ret own G A mc ms post kc ks w (pc) (lv) (.ref x :: st) :=
  fun cx hA H locs ls hP hD hS hl => lv_astore cx.1 cx.2.1 hd hl hn hw (fun ls2 hls => k1 cx hA H locs ls2 hP hD hS hls)
theorem x_iinc {i : Nat} {n : Int} {x : Int32} (hd : decode cc pc = .ok (.iinc i n, 3)) (j : Nat) (hj : lv[j]? = some (i, .int x)) (v : Int32) (hv : x + Int32.ofInt n = v) (hn : i < nL) (lw : List (Nat × Value)) (hw : (i, Value.int v) :: lv.filter (fun q => !(q.1 == i) && !(q.1 + 1 == i && q.2.category == 2)) = lw) (k1 : xj E l R cc nL ret own G A mc ms post kc ks w (pc + 3) (lw) (st)) : xj E l R cc nL ret own G A mc ms post kc ks w (pc) (lv) (st) :=
  fun cx hA H locs ls hP hD hS hl => lv_iinc cx.1 cx.2.1 hd hl hj hv hn hw (fun ls2 hls => k1 cx hA H locs ls2 hP hD hS hls)
theorem x_iincN {i a : Nat} (hd : decode cc pc = .ok (.iinc i 1, 3)) (j : Nat) (hj : lv[j]? = some (i, .int (nI a))) (hn : i < nL) (lw : List (Nat × Value)) (hw : (i, Value.int (nI (a + 1))) :: lv.filter (fun q => !(q.1 == i) && !(q.1 + 1 == i && q.2.category == 2)) = lw) (k1 : xj E l R cc nL ret own G A mc ms post kc ks w (pc + 3) (lw) (st)) : xj E l R cc nL ret own G A mc ms post kc ks w (pc) (lv) (st) :=
  x_iinc hd j hj (nI (a + 1)) (nI_1 a) hn lw hw k1
theorem x_iadd {x y : Int32} (hd : decode cc pc = .ok (.iadd, 1))  (k1 : xj E l R cc nL ret own G A mc ms post kc ks w (pc + 1) (lv) (.int (x + y) :: st)) : xj E l R cc nL ret own G A mc ms post kc ks w (pc) (lv) (.int y :: .int x :: st) :=
  fun cx hA H locs ls hP hD hS hl => lv_iadd cx.1 cx.2.1 hd  (k1 cx hA H locs ls hP hD hS hl)
theorem x_isub {x y : Int32} (hd : decode cc pc = .ok (.isub, 1))  (k1 : xj E l R cc nL ret own G A mc ms post kc ks w (pc + 1) (lv) (.int (x - y) :: st)) : xj E l R cc nL ret own G A mc ms post kc ks w (pc) (lv) (.int y :: .int x :: st) :=
  fun cx hA H locs ls hP hD hS hl => lv_isub cx.1 cx.2.1 hd  (k1 cx hA H locs ls hP hD hS hl)
theorem x_imul {x y : Int32} (hd : decode cc pc = .ok (.imul, 1))  (k1 : xj E l R cc nL ret own G A mc ms post kc ks w (pc + 1) (lv) (.int (x * y) :: st)) : xj E l R cc nL ret own G A mc ms post kc ks w (pc) (lv) (.int y :: .int x :: st) :=
  fun cx hA H locs ls hP hD hS hl => lv_imul cx.1 cx.2.1 hd  (k1 cx hA H locs ls hP hD hS hl)
theorem x_iand {x y : Int32} (hd : decode cc pc = .ok (.iand, 1))  (k1 : xj E l R cc nL ret own G A mc ms post kc ks w (pc + 1) (lv) (.int (x &&& y) :: st)) : xj E l R cc nL ret own G A mc ms post kc ks w (pc) (lv) (.int y :: .int x :: st) :=
  fun cx hA H locs ls hP hD hS hl => lv_iand cx.1 cx.2.1 hd  (k1 cx hA H locs ls hP hD hS hl)
theorem x_ior {x y : Int32} (hd : decode cc pc = .ok (.ior, 1))  (k1 : xj E l R cc nL ret own G A mc ms post kc ks w (pc + 1) (lv) (.int (x ||| y) :: st)) : xj E l R cc nL ret own G A mc ms post kc ks w (pc) (lv) (.int y :: .int x :: st) :=
  fun cx hA H locs ls hP hD hS hl => lv_ior cx.1 cx.2.1 hd  (k1 cx hA H locs ls hP hD hS hl)
theorem x_ixor {x y : Int32} (hd : decode cc pc = .ok (.ixor, 1))  (k1 : xj E l R cc nL ret own G A mc ms post kc ks w (pc + 1) (lv) (.int (x ^^^ y) :: st)) : xj E l R cc nL ret own G A mc ms post kc ks w (pc) (lv) (.int y :: .int x :: st) :=
  fun cx hA H locs ls hP hD hS hl => lv_ixor cx.1 cx.2.1 hd  (k1 cx hA H locs ls hP hD hS hl)
theorem x_ishl {x y : Int32} (hd : decode cc pc = .ok (.ishl, 1))  (k1 : xj E l R cc nL ret own G A mc ms post kc ks w (pc + 1) (lv) (.int (x <<< (y &&& 31)) :: st)) : xj E l R cc nL ret own G A mc ms post kc ks w (pc) (lv) (.int y :: .int x :: st) :=
  fun cx hA H locs ls hP hD hS hl => lv_ishl cx.1 cx.2.1 hd  (k1 cx hA H locs ls hP hD hS hl)
theorem x_ishr {x y : Int32} (hd : decode cc pc = .ok (.ishr, 1))  (k1 : xj E l R cc nL ret own G A mc ms post kc ks w (pc + 1) (lv) (.int (x >>> (y &&& 31)) :: st)) : xj E l R cc nL ret own G A mc ms post kc ks w (pc) (lv) (.int y :: .int x :: st) :=
  fun cx hA H locs ls hP hD hS hl => lv_ishr cx.1 cx.2.1 hd  (k1 cx hA H locs ls hP hD hS hl)
theorem x_ladd {x y : Int64} (hd : decode cc pc = .ok (.ladd, 1))  (k1 : xj E l R cc nL ret own G A mc ms post kc ks w (pc + 1) (lv) (.long (x + y) :: st)) : xj E l R cc nL ret own G A mc ms post kc ks w (pc) (lv) (.long y :: .long x :: st) :=
  fun cx hA H locs ls hP hD hS hl => lv_ladd cx.1 cx.2.1 hd  (k1 cx hA H locs ls hP hD hS hl)
theorem x_lsub {x y : Int64} (hd : decode cc pc = .ok (.lsub, 1))  (k1 : xj E l R cc nL ret own G A mc ms post kc ks w (pc + 1) (lv) (.long (x - y) :: st)) : xj E l R cc nL ret own G A mc ms post kc ks w (pc) (lv) (.long y :: .long x :: st) :=
  fun cx hA H locs ls hP hD hS hl => lv_lsub cx.1 cx.2.1 hd  (k1 cx hA H locs ls hP hD hS hl)
theorem x_lmul {x y : Int64} (hd : decode cc pc = .ok (.lmul, 1))  (k1 : xj E l R cc nL ret own G A mc ms post kc ks w (pc + 1) (lv) (.long (x * y) :: st)) : xj E l R cc nL ret own G A mc ms post kc ks w (pc) (lv) (.long y :: .long x :: st) :=
  fun cx hA H locs ls hP hD hS hl => lv_lmul cx.1 cx.2.1 hd  (k1 cx hA H locs ls hP hD hS hl)
theorem x_land {x y : Int64} (hd : decode cc pc = .ok (.land, 1))  (k1 : xj E l R cc nL ret own G A mc ms post kc ks w (pc + 1) (lv) (.long (x &&& y) :: st)) : xj E l R cc nL ret own G A mc ms post kc ks w (pc) (lv) (.long y :: .long x :: st) :=
  fun cx hA H locs ls hP hD hS hl => lv_land cx.1 cx.2.1 hd  (k1 cx hA H locs ls hP hD hS hl)
theorem x_lor {x y : Int64} (hd : decode cc pc = .ok (.lor, 1))  (k1 : xj E l R cc nL ret own G A mc ms post kc ks w (pc + 1) (lv) (.long (x ||| y) :: st)) : xj E l R cc nL ret own G A mc ms post kc ks w (pc) (lv) (.long y :: .long x :: st) :=
  fun cx hA H locs ls hP hD hS hl => lv_lor cx.1 cx.2.1 hd  (k1 cx hA H locs ls hP hD hS hl)
theorem x_lxor {x y : Int64} (hd : decode cc pc = .ok (.lxor, 1))  (k1 : xj E l R cc nL ret own G A mc ms post kc ks w (pc + 1) (lv) (.long (x ^^^ y) :: st)) : xj E l R cc nL ret own G A mc ms post kc ks w (pc) (lv) (.long y :: .long x :: st) :=
  fun cx hA H locs ls hP hD hS hl => lv_lxor cx.1 cx.2.1 hd  (k1 cx hA H locs ls hP hD hS hl)
theorem x_idiv {x y : Int32} (hd : decode cc pc = .ok (.idiv, 1)) (hy : ¬ y = 0) (k1 : xj E l R cc nL ret own G A mc ms post kc ks w (pc + 1) (lv) (.int (x / y) :: st)) : xj E l R cc nL ret own G A mc ms post kc ks w (pc) (lv) (.int y :: .int x :: st) :=
  fun cx hA H locs ls hP hD hS hl => lv_idiv cx.1 cx.2.1 hd hy (k1 cx hA H locs ls hP hD hS hl)
theorem x_irem {x y : Int32} (hd : decode cc pc = .ok (.irem, 1)) (hy : ¬ y = 0) (k1 : xj E l R cc nL ret own G A mc ms post kc ks w (pc + 1) (lv) (.int (x - x / y * y) :: st)) : xj E l R cc nL ret own G A mc ms post kc ks w (pc) (lv) (.int y :: .int x :: st) :=
  fun cx hA H locs ls hP hD hS hl => lv_irem cx.1 cx.2.1 hd hy (k1 cx hA H locs ls hP hD hS hl)
theorem x_ineg {x : Int32} (hd : decode cc pc = .ok (.ineg, 1))  (k1 : xj E l R cc nL ret own G A mc ms post kc ks w (pc + 1) (lv) (.int (-x) :: st)) : xj E l R cc nL ret own G A mc ms post kc ks w (pc) (lv) (.int x :: st) :=
  fun cx hA H locs ls hP hD hS hl => lv_ineg cx.1 cx.2.1 hd  (k1 cx hA H locs ls hP hD hS hl)
theorem x_iushr {x y : Int32} (hd : decode cc pc = .ok (.iushr, 1))  (k1 : xj E l R cc nL ret own G A mc ms post kc ks w (pc + 1) (lv) (.int ((x.toUInt32 >>> (y.toUInt32 &&& Int32.toUInt32 31)).toInt32) :: st)) : xj E l R cc nL ret own G A mc ms post kc ks w (pc) (lv) (.int y :: .int x :: st) :=
  fun cx hA H locs ls hP hD hS hl => lv_iushr cx.1 cx.2.1 hd rfl (k1 cx hA H locs ls hP hD hS hl)
theorem x_lushr {x : Int64} {y : Int32} (hd : decode cc pc = .ok (.lushr, 1))  (k1 : xj E l R cc nL ret own G A mc ms post kc ks w (pc + 1) (lv) (.long ((x.toUInt64 >>> (y.toInt64.toUInt64 &&& Int64.toUInt64 63)).toInt64) :: st)) : xj E l R cc nL ret own G A mc ms post kc ks w (pc) (lv) (.int y :: .long x :: st) :=
  fun cx hA H locs ls hP hD hS hl => lv_lushr cx.1 cx.2.1 hd rfl (k1 cx hA H locs ls hP hD hS hl)
theorem x_lshl {x : Int64} {y : Int32} (hd : decode cc pc = .ok (.lshl, 1))  (k1 : xj E l R cc nL ret own G A mc ms post kc ks w (pc + 1) (lv) (.long (x <<< (y.toInt64 &&& 63)) :: st)) : xj E l R cc nL ret own G A mc ms post kc ks w (pc) (lv) (.int y :: .long x :: st) :=
  fun cx hA H locs ls hP hD hS hl => lv_lshl cx.1 cx.2.1 hd rfl (k1 cx hA H locs ls hP hD hS hl)
theorem x_lshr {x : Int64} {y : Int32} (hd : decode cc pc = .ok (.lshr, 1))  (k1 : xj E l R cc nL ret own G A mc ms post kc ks w (pc + 1) (lv) (.long (x >>> (y.toInt64 &&& 63)) :: st)) : xj E l R cc nL ret own G A mc ms post kc ks w (pc) (lv) (.int y :: .long x :: st) :=
  fun cx hA H locs ls hP hD hS hl => lv_lshr cx.1 cx.2.1 hd rfl (k1 cx hA H locs ls hP hD hS hl)
theorem x_i2l {x : Int32} (hd : decode cc pc = .ok (.i2l, 1))  (k1 : xj E l R cc nL ret own G A mc ms post kc ks w (pc + 1) (lv) (.long x.toInt64 :: st)) : xj E l R cc nL ret own G A mc ms post kc ks w (pc) (lv) (.int x :: st) :=
  fun cx hA H locs ls hP hD hS hl => lv_i2l cx.1 cx.2.1 hd rfl (k1 cx hA H locs ls hP hD hS hl)
theorem x_l2i {x : Int64} (hd : decode cc pc = .ok (.l2i, 1))  (k1 : xj E l R cc nL ret own G A mc ms post kc ks w (pc + 1) (lv) (.int x.toInt32 :: st)) : xj E l R cc nL ret own G A mc ms post kc ks w (pc) (lv) (.long x :: st) :=
  fun cx hA H locs ls hP hD hS hl => lv_l2i cx.1 cx.2.1 hd rfl (k1 cx hA H locs ls hP hD hS hl)
theorem x_lcmp {x y : Int64} (hd : decode cc pc = .ok (.lcmp, 1))  (k1 : xj E l R cc nL ret own G A mc ms post kc ks w (pc + 1) (lv) (.int (lg_cmp x y) :: st)) : xj E l R cc nL ret own G A mc ms post kc ks w (pc) (lv) (.long y :: .long x :: st) :=
  fun cx hA H locs ls hP hD hS hl => W.lcmp cx.1 cx.2.1 hd  (k1 cx hA H locs ls hP hD hS hl)
theorem x_dup {a : Value} (hd : decode cc pc = .ok (.dup, 1)) (ha : a.category = 1) (k1 : xj E l R cc nL ret own G A mc ms post kc ks w (pc + 1) (lv) (a :: a :: st)) : xj E l R cc nL ret own G A mc ms post kc ks w (pc) (lv) (a :: st) :=
  fun cx hA H locs ls hP hD hS hl => lv_dup cx.1 cx.2.1 hd ha (k1 cx hA H locs ls hP hD hS hl)
theorem x_pop {a : Value} (hd : decode cc pc = .ok (.pop, 1)) (ha : a.category = 1) (k1 : xj E l R cc nL ret own G A mc ms post kc ks w (pc + 1) (lv) (st)) : xj E l R cc nL ret own G A mc ms post kc ks w (pc) (lv) (a :: st) :=
  fun cx hA H locs ls hP hD hS hl => lv_pop cx.1 cx.2.1 hd ha (k1 cx hA H locs ls hP hD hS hl)
theorem x_dup_x1 {a b : Value} (hd : decode cc pc = .ok (.dup_x1, 1)) (ha : a.category = 1) (hb : b.category = 1) (k1 : xj E l R cc nL ret own G A mc ms post kc ks w (pc + 1) (lv) (a :: b :: a :: st)) : xj E l R cc nL ret own G A mc ms post kc ks w (pc) (lv) (a :: b :: st) :=
  fun cx hA H locs ls hP hD hS hl => lv_dup_x1 cx.1 cx.2.1 hd ha hb (k1 cx hA H locs ls hP hD hS hl)
theorem x_dup_x2 {a b d : Value} (hd : decode cc pc = .ok (.dup_x2, 1)) (ha : a.category = 1) (hb : b.category = 1) (hc : d.category = 1) (k1 : xj E l R cc nL ret own G A mc ms post kc ks w (pc + 1) (lv) (a :: b :: d :: a :: st)) : xj E l R cc nL ret own G A mc ms post kc ks w (pc) (lv) (a :: b :: d :: st) :=
  fun cx hA H locs ls hP hD hS hl => lv_dup_x2 cx.1 cx.2.1 hd ha hb hc (k1 cx hA H locs ls hP hD hS hl)
theorem x_dup2 {a b : Value} (hd : decode cc pc = .ok (.dup2, 1)) (ha : a.category = 1) (hb : b.category = 1) (k1 : xj E l R cc nL ret own G A mc ms post kc ks w (pc + 1) (lv) (a :: b :: a :: b :: st)) : xj E l R cc nL ret own G A mc ms post kc ks w (pc) (lv) (a :: b :: st) :=
  fun cx hA H locs ls hP hD hS hl => lv_dup2_11 cx.1 cx.2.1 hd ha hb (k1 cx hA H locs ls hP hD hS hl)
theorem x_dup2L {a : Value} (hd : decode cc pc = .ok (.dup2, 1)) (ha : a.category = 2) (k1 : xj E l R cc nL ret own G A mc ms post kc ks w (pc + 1) (lv) (a :: a :: st)) : xj E l R cc nL ret own G A mc ms post kc ks w (pc) (lv) (a :: st) :=
  fun cx hA H locs ls hP hD hS hl => lv_dup2_2 cx.1 cx.2.1 hd ha (k1 cx hA H locs ls hP hD hS hl)
theorem x_ldc {index : Nat} {v : Int32} (hd : decode cc pc = .ok (.ldc index, 2)) (hm : Cond.constant own index v ∈ big) (k1 : xj E l R cc nL ret own G A mc ms post kc ks w (pc + 2) (lv) (.int v :: st)) : xj E l R cc nL ret own G A mc ms post kc ks w (pc) (lv) (st) :=
  fun cx hA H locs ls hP hD hS hl => lv_ldc cx.1 cx.2.1 cx.2.2.2.2.2.1 (cx.2.2.2.2.2.2.1 _ hm) hd (k1 cx hA H locs ls hP hD hS hl)
theorem x_ldc2 {index : Nat} {v : Int64} (hd : decode cc pc = .ok (.ldc2_w index, 3)) (hm : Cond.constantLong own index v ∈ big) (k1 : xj E l R cc nL ret own G A mc ms post kc ks w (pc + 3) (lv) (.long v :: st)) : xj E l R cc nL ret own G A mc ms post kc ks w (pc) (lv) (st) :=
  fun cx hA H locs ls hP hD hS hl => lv_ldc2 cx.1 cx.2.1 cx.2.2.2.2.2.1 (cx.2.2.2.2.2.2.1 _ hm) hd (k1 cx hA H locs ls hP hD hS hl)
theorem x_icmp_eq {x y : Int32} {off : Int} {tgt : Nat} (hd : decode cc pc = .ok (.if_icmp .eq off, 3)) (ht : (pc : Int) + off = (tgt : Int))  (kt : x = y → xj E l R cc nL ret own G A mc ms post kc ks w (tgt) (lv) (st)) (kf : ¬ x = y → xj E l R cc nL ret own G A mc ms post kc ks w (pc + 3) (lv) (st)) : xj E l R cc nL ret own G A mc ms post kc ks w (pc) (lv) (.int y :: .int x :: st) :=
  fun cx hA H locs ls hP hD hS hl => lv_icmp_eq cx.1 cx.2.1 hd ht (fun q => kt q cx hA H locs ls hP hD hS hl) (fun q => kf q cx hA H locs ls hP hD hS hl)
theorem x_if_eq {x : Int32} {off : Int} {tgt : Nat} (hd : decode cc pc = .ok (.ifCond .eq off, 3)) (ht : (pc : Int) + off = (tgt : Int))  (kt : x = 0 → xj E l R cc nL ret own G A mc ms post kc ks w (tgt) (lv) (st)) (kf : ¬ x = 0 → xj E l R cc nL ret own G A mc ms post kc ks w (pc + 3) (lv) (st)) : xj E l R cc nL ret own G A mc ms post kc ks w (pc) (lv) (.int x :: st) :=
  fun cx hA H locs ls hP hD hS hl => lv_if_eq cx.1 cx.2.1 hd ht (fun q => kt q cx hA H locs ls hP hD hS hl) (fun q => kf q cx hA H locs ls hP hD hS hl)
theorem x_icmp_ne {x y : Int32} {off : Int} {tgt : Nat} (hd : decode cc pc = .ok (.if_icmp .ne off, 3)) (ht : (pc : Int) + off = (tgt : Int))  (kt : ¬ x = y → xj E l R cc nL ret own G A mc ms post kc ks w (tgt) (lv) (st)) (kf : x = y → xj E l R cc nL ret own G A mc ms post kc ks w (pc + 3) (lv) (st)) : xj E l R cc nL ret own G A mc ms post kc ks w (pc) (lv) (.int y :: .int x :: st) :=
  fun cx hA H locs ls hP hD hS hl => lv_icmp_ne cx.1 cx.2.1 hd ht (fun q => kt q cx hA H locs ls hP hD hS hl) (fun q => kf q cx hA H locs ls hP hD hS hl)
theorem x_if_ne {x : Int32} {off : Int} {tgt : Nat} (hd : decode cc pc = .ok (.ifCond .ne off, 3)) (ht : (pc : Int) + off = (tgt : Int))  (kt : ¬ x = 0 → xj E l R cc nL ret own G A mc ms post kc ks w (tgt) (lv) (st)) (kf : x = 0 → xj E l R cc nL ret own G A mc ms post kc ks w (pc + 3) (lv) (st)) : xj E l R cc nL ret own G A mc ms post kc ks w (pc) (lv) (.int x :: st) :=
  fun cx hA H locs ls hP hD hS hl => lv_if_ne cx.1 cx.2.1 hd ht (fun q => kt q cx hA H locs ls hP hD hS hl) (fun q => kf q cx hA H locs ls hP hD hS hl)
theorem x_icmp_lt {x y : Int32} {off : Int} {tgt : Nat} (hd : decode cc pc = .ok (.if_icmp .lt off, 3)) (ht : (pc : Int) + off = (tgt : Int))  (kt : x < y → xj E l R cc nL ret own G A mc ms post kc ks w (tgt) (lv) (st)) (kf : ¬ x < y → xj E l R cc nL ret own G A mc ms post kc ks w (pc + 3) (lv) (st)) : xj E l R cc nL ret own G A mc ms post kc ks w (pc) (lv) (.int y :: .int x :: st) :=
  fun cx hA H locs ls hP hD hS hl => lv_icmp_lt cx.1 cx.2.1 hd ht (fun q => kt q cx hA H locs ls hP hD hS hl) (fun q => kf q cx hA H locs ls hP hD hS hl)
theorem x_if_lt {x : Int32} {off : Int} {tgt : Nat} (hd : decode cc pc = .ok (.ifCond .lt off, 3)) (ht : (pc : Int) + off = (tgt : Int))  (kt : x < 0 → xj E l R cc nL ret own G A mc ms post kc ks w (tgt) (lv) (st)) (kf : ¬ x < 0 → xj E l R cc nL ret own G A mc ms post kc ks w (pc + 3) (lv) (st)) : xj E l R cc nL ret own G A mc ms post kc ks w (pc) (lv) (.int x :: st) :=
  fun cx hA H locs ls hP hD hS hl => lv_if_lt cx.1 cx.2.1 hd ht (fun q => kt q cx hA H locs ls hP hD hS hl) (fun q => kf q cx hA H locs ls hP hD hS hl)
theorem x_icmp_ge {x y : Int32} {off : Int} {tgt : Nat} (hd : decode cc pc = .ok (.if_icmp .ge off, 3)) (ht : (pc : Int) + off = (tgt : Int))  (kt : y ≤ x → xj E l R cc nL ret own G A mc ms post kc ks w (tgt) (lv) (st)) (kf : ¬ y ≤ x → xj E l R cc nL ret own G A mc ms post kc ks w (pc + 3) (lv) (st)) : xj E l R cc nL ret own G A mc ms post kc ks w (pc) (lv) (.int y :: .int x :: st) :=
  fun cx hA H locs ls hP hD hS hl => lv_icmp_ge cx.1 cx.2.1 hd ht (fun q => kt q cx hA H locs ls hP hD hS hl) (fun q => kf q cx hA H locs ls hP hD hS hl)
theorem x_if_ge {x : Int32} {off : Int} {tgt : Nat} (hd : decode cc pc = .ok (.ifCond .ge off, 3)) (ht : (pc : Int) + off = (tgt : Int))  (kt : 0 ≤ x → xj E l R cc nL ret own G A mc ms post kc ks w (tgt) (lv) (st)) (kf : ¬ 0 ≤ x → xj E l R cc nL ret own G A mc ms post kc ks w (pc + 3) (lv) (st)) : xj E l R cc nL ret own G A mc ms post kc ks w (pc) (lv) (.int x :: st) :=
  fun cx hA H locs ls hP hD hS hl => lv_if_ge cx.1 cx.2.1 hd ht (fun q => kt q cx hA H locs ls hP hD hS hl) (fun q => kf q cx hA H locs ls hP hD hS hl)
theorem x_icmp_gt {x y : Int32} {off : Int} {tgt : Nat} (hd : decode cc pc = .ok (.if_icmp .gt off, 3)) (ht : (pc : Int) + off = (tgt : Int))  (kt : y < x → xj E l R cc nL ret own G A mc ms post kc ks w (tgt) (lv) (st)) (kf : ¬ y < x → xj E l R cc nL ret own G A mc ms post kc ks w (pc + 3) (lv) (st)) : xj E l R cc nL ret own G A mc ms post kc ks w (pc) (lv) (.int y :: .int x :: st) :=
  fun cx hA H locs ls hP hD hS hl => lv_icmp_gt cx.1 cx.2.1 hd ht (fun q => kt q cx hA H locs ls hP hD hS hl) (fun q => kf q cx hA H locs ls hP hD hS hl)
theorem x_if_gt {x : Int32} {off : Int} {tgt : Nat} (hd : decode cc pc = .ok (.ifCond .gt off, 3)) (ht : (pc : Int) + off = (tgt : Int))  (kt : 0 < x → xj E l R cc nL ret own G A mc ms post kc ks w (tgt) (lv) (st)) (kf : ¬ 0 < x → xj E l R cc nL ret own G A mc ms post kc ks w (pc + 3) (lv) (st)) : xj E l R cc nL ret own G A mc ms post kc ks w (pc) (lv) (.int x :: st) :=
  fun cx hA H locs ls hP hD hS hl => lv_if_gt cx.1 cx.2.1 hd ht (fun q => kt q cx hA H locs ls hP hD hS hl) (fun q => kf q cx hA H locs ls hP hD hS hl)
theorem x_icmp_le {x y : Int32} {off : Int} {tgt : Nat} (hd : decode cc pc = .ok (.if_icmp .le off, 3)) (ht : (pc : Int) + off = (tgt : Int))  (kt : x ≤ y → xj E l R cc nL ret own G A mc ms post kc ks w (tgt) (lv) (st)) (kf : ¬ x ≤ y → xj E l R cc nL ret own G A mc ms post kc ks w (pc + 3) (lv) (st)) : xj E l R cc nL ret own G A mc ms post kc ks w (pc) (lv) (.int y :: .int x :: st) :=
  fun cx hA H locs ls hP hD hS hl => lv_icmp_le cx.1 cx.2.1 hd ht (fun q => kt q cx hA H locs ls hP hD hS hl) (fun q => kf q cx hA H locs ls hP hD hS hl)
theorem x_if_le {x : Int32} {off : Int} {tgt : Nat} (hd : decode cc pc = .ok (.ifCond .le off, 3)) (ht : (pc : Int) + off = (tgt : Int))  (kt : x ≤ 0 → xj E l R cc nL ret own G A mc ms post kc ks w (tgt) (lv) (st)) (kf : ¬ x ≤ 0 → xj E l R cc nL ret own G A mc ms post kc ks w (pc + 3) (lv) (st)) : xj E l R cc nL ret own G A mc ms post kc ks w (pc) (lv) (.int x :: st) :=
  fun cx hA H locs ls hP hD hS hl => lv_if_le cx.1 cx.2.1 hd ht (fun q => kt q cx hA H locs ls hP hD hS hl) (fun q => kf q cx hA H locs ls hP hD hS hl)
theorem x_goto {off : Int} {tgt : Nat} (hd : decode cc pc = .ok (.goto off, 3)) (ht : (pc : Int) + off = (tgt : Int)) (k1 : xj E l R cc nL ret own G A mc ms post kc ks w (tgt) (lv) (st)) : xj E l R cc nL ret own G A mc ms post kc ks w (pc) (lv) (st) :=
  fun cx hA H locs ls hP hD hS hl => lv_goto cx.1 cx.2.1 hd ht (k1 cx hA H locs ls hP hD hS hl)
theorem x_iaddN {a b : Nat} (hd : decode cc pc = .ok (.iadd, 1))  (k1 : xj E l R cc nL ret own G A mc ms post kc ks w (pc + 1) (lv) (.int (nI (a + b)) :: st)) : xj E l R cc nL ret own G A mc ms post kc ks w (pc) (lv) (.int (nI b) :: .int (nI a) :: st) :=
  x_iadd hd  (by rw [nI_add]; exact k1)
theorem x_imulN {a b : Nat} (hd : decode cc pc = .ok (.imul, 1))  (k1 : xj E l R cc nL ret own G A mc ms post kc ks w (pc + 1) (lv) (.int (nI (a * b)) :: st)) : xj E l R cc nL ret own G A mc ms post kc ks w (pc) (lv) (.int (nI b) :: .int (nI a) :: st) :=
  x_imul hd  (by rw [nI_mul]; exact k1)
theorem x_isubN {a b : Nat} (hd : decode cc pc = .ok (.isub, 1)) (h : b ≤ a) (k1 : xj E l R cc nL ret own G A mc ms post kc ks w (pc + 1) (lv) (.int (nI (a - b)) :: st)) : xj E l R cc nL ret own G A mc ms post kc ks w (pc) (lv) (.int (nI b) :: .int (nI a) :: st) :=
  x_isub hd  (by rw [nI_sub h]; exact k1)
theorem x_idivN {a b : Nat} (hd : decode cc pc = .ok (.idiv, 1)) (h : 0 < b) (ha : a < 2147483648) (hb : b < 2147483648) (k1 : xj E l R cc nL ret own G A mc ms post kc ks w (pc + 1) (lv) (.int (nI (a / b)) :: st)) : xj E l R cc nL ret own G A mc ms post kc ks w (pc) (lv) (.int (nI b) :: .int (nI a) :: st) :=
  x_idiv hd (nI_ne0 h hb) (by rw [nI_div ha hb]; exact k1)
theorem x_iremN {a b : Nat} (hd : decode cc pc = .ok (.irem, 1)) (h : 0 < b) (ha : a < 2147483648) (hb : b < 2147483648) (k1 : xj E l R cc nL ret own G A mc ms post kc ks w (pc + 1) (lv) (.int (nI (a % b)) :: st)) : xj E l R cc nL ret own G A mc ms post kc ks w (pc) (lv) (.int (nI b) :: .int (nI a) :: st) :=
  x_irem hd (nI_ne0 h hb) (by rw [nI_rem ha hb]; exact k1)
theorem x_icmp_eqN {a b : Nat} {off : Int} {tgt : Nat} (hd : decode cc pc = .ok (.if_icmp .eq off, 3)) (ht : (pc : Int) + off = (tgt : Int)) (ha : a < 2147483648) (hb : b < 2147483648) (kt : a = b → xj E l R cc nL ret own G A mc ms post kc ks w (tgt) (lv) (st)) (kf : ¬ a = b → xj E l R cc nL ret own G A mc ms post kc ks w (pc + 3) (lv) (st)) : xj E l R cc nL ret own G A mc ms post kc ks w (pc) (lv) (.int (nI b) :: .int (nI a) :: st) :=
  x_icmp_eq hd ht (fun q => kt ((nI_eq ha hb).mp q)) (fun q => kf (fun z => q ((nI_eq ha hb).mpr z)))
theorem x_icmp_neN {a b : Nat} {off : Int} {tgt : Nat} (hd : decode cc pc = .ok (.if_icmp .ne off, 3)) (ht : (pc : Int) + off = (tgt : Int)) (ha : a < 2147483648) (hb : b < 2147483648) (kt : ¬ a = b → xj E l R cc nL ret own G A mc ms post kc ks w (tgt) (lv) (st)) (kf : a = b → xj E l R cc nL ret own G A mc ms post kc ks w (pc + 3) (lv) (st)) : xj E l R cc nL ret own G A mc ms post kc ks w (pc) (lv) (.int (nI b) :: .int (nI a) :: st) :=
  x_icmp_ne hd ht (fun q => kt (fun z => q ((nI_eq ha hb).mpr z))) (fun q => kf ((nI_eq ha hb).mp q))
theorem x_icmp_ltN {a b : Nat} {off : Int} {tgt : Nat} (hd : decode cc pc = .ok (.if_icmp .lt off, 3)) (ht : (pc : Int) + off = (tgt : Int)) (ha : a < 2147483648) (hb : b < 2147483648) (kt : a < b → xj E l R cc nL ret own G A mc ms post kc ks w (tgt) (lv) (st)) (kf : ¬ a < b → xj E l R cc nL ret own G A mc ms post kc ks w (pc + 3) (lv) (st)) : xj E l R cc nL ret own G A mc ms post kc ks w (pc) (lv) (.int (nI b) :: .int (nI a) :: st) :=
  x_icmp_lt hd ht (fun q => kt ((nI_ltI ha hb).mp q)) (fun q => kf (fun z => q ((nI_ltI ha hb).mpr z)))
theorem x_icmp_geN {a b : Nat} {off : Int} {tgt : Nat} (hd : decode cc pc = .ok (.if_icmp .ge off, 3)) (ht : (pc : Int) + off = (tgt : Int)) (ha : a < 2147483648) (hb : b < 2147483648) (kt : b ≤ a → xj E l R cc nL ret own G A mc ms post kc ks w (tgt) (lv) (st)) (kf : ¬ b ≤ a → xj E l R cc nL ret own G A mc ms post kc ks w (pc + 3) (lv) (st)) : xj E l R cc nL ret own G A mc ms post kc ks w (pc) (lv) (.int (nI b) :: .int (nI a) :: st) :=
  x_icmp_ge hd ht (fun q => kt ((nI_leI hb ha).mp q)) (fun q => kf (fun z => q ((nI_leI hb ha).mpr z)))
theorem x_icmp_gtN {a b : Nat} {off : Int} {tgt : Nat} (hd : decode cc pc = .ok (.if_icmp .gt off, 3)) (ht : (pc : Int) + off = (tgt : Int)) (ha : a < 2147483648) (hb : b < 2147483648) (kt : b < a → xj E l R cc nL ret own G A mc ms post kc ks w (tgt) (lv) (st)) (kf : ¬ b < a → xj E l R cc nL ret own G A mc ms post kc ks w (pc + 3) (lv) (st)) : xj E l R cc nL ret own G A mc ms post kc ks w (pc) (lv) (.int (nI b) :: .int (nI a) :: st) :=
  x_icmp_gt hd ht (fun q => kt ((nI_ltI hb ha).mp q)) (fun q => kf (fun z => q ((nI_ltI hb ha).mpr z)))
theorem x_icmp_leN {a b : Nat} {off : Int} {tgt : Nat} (hd : decode cc pc = .ok (.if_icmp .le off, 3)) (ht : (pc : Int) + off = (tgt : Int)) (ha : a < 2147483648) (hb : b < 2147483648) (kt : a ≤ b → xj E l R cc nL ret own G A mc ms post kc ks w (tgt) (lv) (st)) (kf : ¬ a ≤ b → xj E l R cc nL ret own G A mc ms post kc ks w (pc + 3) (lv) (st)) : xj E l R cc nL ret own G A mc ms post kc ks w (pc) (lv) (.int (nI b) :: .int (nI a) :: st) :=
  x_icmp_le hd ht (fun q => kt ((nI_leI ha hb).mp q)) (fun q => kf (fun z => q ((nI_leI ha hb).mpr z)))
theorem x_if_eqN {a : Nat} {off : Int} {tgt : Nat} (hd : decode cc pc = .ok (.ifCond .eq off, 3)) (ht : (pc : Int) + off = (tgt : Int)) (ha : a < 2147483648) (kt : a = 0 → xj E l R cc nL ret own G A mc ms post kc ks w (tgt) (lv) (st)) (kf : ¬ a = 0 → xj E l R cc nL ret own G A mc ms post kc ks w (pc + 3) (lv) (st)) : xj E l R cc nL ret own G A mc ms post kc ks w (pc) (lv) (.int (nI a) :: st) :=
  x_if_eq hd ht (fun q => kt ((nI_eq0 ha).mp q)) (fun q => kf (fun z => q ((nI_eq0 ha).mpr z)))
theorem x_if_neN {a : Nat} {off : Int} {tgt : Nat} (hd : decode cc pc = .ok (.ifCond .ne off, 3)) (ht : (pc : Int) + off = (tgt : Int)) (ha : a < 2147483648) (kt : ¬ a = 0 → xj E l R cc nL ret own G A mc ms post kc ks w (tgt) (lv) (st)) (kf : a = 0 → xj E l R cc nL ret own G A mc ms post kc ks w (pc + 3) (lv) (st)) : xj E l R cc nL ret own G A mc ms post kc ks w (pc) (lv) (.int (nI a) :: st) :=
  x_if_ne hd ht (fun q => kt (fun z => q ((nI_eq0 ha).mpr z))) (fun q => kf ((nI_eq0 ha).mp q))
theorem x_if_gtN {a : Nat} {off : Int} {tgt : Nat} (hd : decode cc pc = .ok (.ifCond .gt off, 3)) (ht : (pc : Int) + off = (tgt : Int)) (ha : a < 2147483648) (kt : 0 < a → xj E l R cc nL ret own G A mc ms post kc ks w (tgt) (lv) (st)) (kf : a = 0 → xj E l R cc nL ret own G A mc ms post kc ks w (pc + 3) (lv) (st)) : xj E l R cc nL ret own G A mc ms post kc ks w (pc) (lv) (.int (nI a) :: st) :=
  x_if_gt hd ht (fun q => kt (Nat.pos_of_ne_zero (fun z => absurd q (by rw [z]; decide)))) (fun q => kf (Nat.eq_zero_of_not_pos (fun z => q (by rw [← nI_0]; exact nI_lt z ha))))
theorem x_if_leN {a : Nat} {off : Int} {tgt : Nat} (hd : decode cc pc = .ok (.ifCond .le off, 3)) (ht : (pc : Int) + off = (tgt : Int)) (ha : a < 2147483648) (kt : a = 0 → xj E l R cc nL ret own G A mc ms post kc ks w (tgt) (lv) (st)) (kf : 0 < a → xj E l R cc nL ret own G A mc ms post kc ks w (pc + 3) (lv) (st)) : xj E l R cc nL ret own G A mc ms post kc ks w (pc) (lv) (.int (nI a) :: st) :=
  x_if_le hd ht (fun q => kt (Nat.eq_zero_of_not_pos (fun z => absurd q (nI_nle z ha)))) (fun q => kf (Nat.pos_of_ne_zero (fun z => q (by rw [z]; decide))))
theorem x_if_ltN {a : Nat} {off : Int} {tgt : Nat} (hd : decode cc pc = .ok (.ifCond .lt off, 3)) (ht : (pc : Int) + off = (tgt : Int)) (ha : a < 2147483648)  (kf : True → xj E l R cc nL ret own G A mc ms post kc ks w (pc + 3) (lv) (st)) : xj E l R cc nL ret own G A mc ms post kc ks w (pc) (lv) (.int (nI a) :: st) :=
  x_if_lt hd ht (fun q => absurd q (nI_pos ha)) (fun _ => kf trivial)
theorem x_if_geN {a : Nat} {off : Int} {tgt : Nat} (hd : decode cc pc = .ok (.ifCond .ge off, 3)) (ht : (pc : Int) + off = (tgt : Int)) (ha : a < 2147483648) (kt : True → xj E l R cc nL ret own G A mc ms post kc ks w (tgt) (lv) (st))  : xj E l R cc nL ret own G A mc ms post kc ks w (pc) (lv) (.int (nI a) :: st) :=
  x_if_ge hd ht (fun _ => kt trivial) (fun q => absurd (nI_pos' ha) q)
theorem x_if_eqB {b : Bool} {off : Int} {tgt : Nat} (hd : decode cc pc = .ok (.ifCond .eq off, 3)) (ht : (pc : Int) + off = (tgt : Int))  (kt : b = false → xj E l R cc nL ret own G A mc ms post kc ks w (tgt) (lv) (st)) (kf : b = true → xj E l R cc nL ret own G A mc ms post kc ks w (pc + 3) (lv) (st)) : xj E l R cc nL ret own G A mc ms post kc ks w (pc) (lv) (.int (bI b) :: st) :=
  x_if_eq hd ht (fun q => kt (bI_eq0.mp q)) (fun q => kf (bI_ne0.mp q))
theorem x_if_neB {b : Bool} {off : Int} {tgt : Nat} (hd : decode cc pc = .ok (.ifCond .ne off, 3)) (ht : (pc : Int) + off = (tgt : Int))  (kt : b = true → xj E l R cc nL ret own G A mc ms post kc ks w (tgt) (lv) (st)) (kf : b = false → xj E l R cc nL ret own G A mc ms post kc ks w (pc + 3) (lv) (st)) : xj E l R cc nL ret own G A mc ms post kc ks w (pc) (lv) (.int (bI b) :: st) :=
  x_if_ne hd ht (fun q => kt (bI_ne0.mp q)) (fun q => kf (bI_eq0.mp q))
theorem x_if_eqL {x y : Int64} {off : Int} {tgt : Nat} (hd : decode cc pc = .ok (.ifCond .eq off, 3)) (ht : (pc : Int) + off = (tgt : Int))  (kt : x = y → xj E l R cc nL ret own G A mc ms post kc ks w (tgt) (lv) (st)) (kf : ¬ x = y → xj E l R cc nL ret own G A mc ms post kc ks w (pc + 3) (lv) (st)) : xj E l R cc nL ret own G A mc ms post kc ks w (pc) (lv) (.int (lg_cmp x y) :: st) :=
  x_if_eq hd ht (fun q => kt ((lg_cmp_eq x y).mp q)) (fun q => kf (fun z => q ((lg_cmp_eq x y).mpr z)))
theorem x_if_neL {x y : Int64} {off : Int} {tgt : Nat} (hd : decode cc pc = .ok (.ifCond .ne off, 3)) (ht : (pc : Int) + off = (tgt : Int))  (kt : ¬ x = y → xj E l R cc nL ret own G A mc ms post kc ks w (tgt) (lv) (st)) (kf : x = y → xj E l R cc nL ret own G A mc ms post kc ks w (pc + 3) (lv) (st)) : xj E l R cc nL ret own G A mc ms post kc ks w (pc) (lv) (.int (lg_cmp x y) :: st) :=
  x_if_ne hd ht (fun q => kt (fun z => q ((lg_cmp_eq x y).mpr z))) (fun q => kf ((lg_cmp_eq x y).mp q))
theorem x_get {C : String} {T : u_T} {N ci index : Nat} {fs : List Value} {a : Nat} {v : Value} (hd : decode cc pc = .ok (.getfield index, 3)) (hin : ∀ w ∈ u_ws C T N, w ∈ big) (hc : G.2.1[ci]? = some (C, T, N)) (j : Nat) (hj : j < N) (hlink : Cond.fieldLink own index (T j).1 (T j).2.1 (T j).2.2.1 ∈ big) (q0 : Nat) (he : w[q0]? = some (a, .inr (ci, fs))) (hv : fs[j]? = some v) (k1 : xj E l R cc nL ret own G A mc ms post kc ks w (pc + 3) (lv) (v :: st)) : xj E l R cc nL ret own G A mc ms post kc ks w (pc) (lv) (.ref a :: st) :=
  fun cx hA H locs ls hP hD hS hl => va_get cx.1 cx.2.1 cx.2.2.2.2.2.2.1 hin cx.2.2.2.2.2.1 cx.2.2.2.2.2.2.2 hP q0 he hc j hj (cx.2.2.2.2.2.2.1 _ hlink) (fun _ h => h) hv hd (k1 cx hA H locs ls hP hD hS hl)
theorem x_put {C : String} {T : u_T} {N ci index : Nat} {fs : List Value} {a : Nat} {v : Value} {ty : FieldType} (hd : decode cc pc = .ok (.putfield index, 3)) (hin : ∀ w ∈ u_ws C T N, w ∈ big) (ty0 : Nat → FieldType) (hty : ∀ k, k < N → parseFieldDescriptor (T k).2.2.1 = some (ty0 k)) (hnm : ∀ a, a < N → ∀ b, b < N → a ≠ b → (T a).2.1 ≠ (T b).2.1) (hc : G.2.1[ci]? = some (C, T, N)) (j : Nat) (hj : j < N) (hlink : Cond.fieldLink own index (T j).1 (T j).2.1 (T j).2.2.1 ∈ big) (hfin : (T j).2.2.2 = false)  (hpd : parseFieldDescriptor (T j).2.2.1 = some ty) (hn : narrow ty v = v) (hfit : fits ty v = true) (q0 : Nat) (he : w[q0]? = some (a, .inr (ci, fs))) (hlen : j < fs.length) (w2 : va_W) (hw : w.set q0 (a, .inr (ci, fs.set j v)) = w2) (k1 : xj E l R cc nL ret own G A mc ms post kc ks w2 (pc + 3) (lv) (st)) : xj E l R cc nL ret own G A mc ms post kc ks w (pc) (lv) (v :: .ref a :: st) := by
  subst hw
  exact fun cx hA H locs ls hP hD hS hl => va_put cx.1 cx.2.1 cx.2.2.2.2.2.2.1 hin ty0 hty hnm cx.2.2.2.2.2.1 cx.2.2.2.2.2.2.2 hP hD hS q0 he hc j hj (cx.2.2.2.2.2.2.1 _ hlink) (fun _ h => h) hfin  hpd hn hfit hlen hd (fun H1 locs1 hP hD hS => k1 cx hA H1 locs1 ls hP hD hS hl)
theorem x_putF {C : String} {T : u_T} {N ci index : Nat} {fs : List Value} {a : Nat} {v : Value} {ty : FieldType} (hd : decode cc pc = .ok (.putfield index, 3)) (hin : ∀ w ∈ u_ws C T N, w ∈ big) (ty0 : Nat → FieldType) (hty : ∀ k, k < N → parseFieldDescriptor (T k).2.2.1 = some (ty0 k)) (hnm : ∀ a, a < N → ∀ b, b < N → a ≠ b → (T a).2.1 ≠ (T b).2.1) (hc : G.2.1[ci]? = some (C, T, N)) (j : Nat) (hj : j < N) (hlink : Cond.fieldLink own index (T j).1 (T j).2.1 (T j).2.2.1 ∈ big) (hfin : (T j).2.2.2 = true) (hinit : E.2.2.2.2.2.2.1.name = "<init>") (hdecl : (T j).1 = own) (hpd : parseFieldDescriptor (T j).2.2.1 = some ty) (hn : narrow ty v = v) (hfit : fits ty v = true) (q0 : Nat) (he : w[q0]? = some (a, .inr (ci, fs))) (hlen : j < fs.length) (w2 : va_W) (hw : w.set q0 (a, .inr (ci, fs.set j v)) = w2) (k1 : xj E l R cc nL ret own G A mc ms post kc ks w2 (pc + 3) (lv) (st)) : xj E l R cc nL ret own G A mc ms post kc ks w (pc) (lv) (v :: .ref a :: st) := by
  subst hw
  exact fun cx hA H locs ls hP hD hS hl => va_putF cx.1 cx.2.1 cx.2.2.2.2.2.2.1 hin ty0 hty hnm cx.2.2.2.2.2.1 cx.2.2.2.2.2.2.2 hP hD hS q0 he hc j hj (cx.2.2.2.2.2.2.1 _ hlink) (fun _ h => h) hfin hinit hdecl hpd hn hfit hlen hd (fun H1 locs1 hP hD hS => k1 cx hA H1 locs1 ls hP hD hS hl)
theorem x_iald {cA : ClassId} {n a : Nat} {f : Nat → Int32} {i : Int32} (hd : decode cc pc = .ok (.iaload, 1)) (q0 t0 : Nat) (ha : w[q0]? = some (a, .inl (cA, n, .inl f))) (ht : G.2.2[t0]? = some (cA, .int)) (hi : vp_in i n) (k1 : xj E l R cc nL ret own G A mc ms post kc ks w (pc + 1) (lv) (.int (f i.toNatClampNeg) :: st)) : xj E l R cc nL ret own G A mc ms post kc ks w (pc) (lv) (.int i :: .ref a :: st) :=
  fun cx hA H locs ls hP hD hS hl => va_iald cx.1 cx.2.1 cx.2.2.2.2.2.2.2 hP q0 t0 ha ht hi hd (k1 cx hA H locs ls hP hD hS hl)
theorem x_ialdN {cA : ClassId} {n a : Nat} {f : Nat → Int32} {i : Nat} (hd : decode cc pc = .ok (.iaload, 1)) (q0 t0 : Nat) (ha : w[q0]? = some (a, .inl (cA, n, .inl f))) (ht : G.2.2[t0]? = some (cA, .int)) (hn : n < 2147483648) (hi : i < n) (k1 : xj E l R cc nL ret own G A mc ms post kc ks w (pc + 1) (lv) (.int (f i) :: st)) : xj E l R cc nL ret own G A mc ms post kc ks w (pc) (lv) (.int (nI i) :: .ref a :: st) :=
  x_iald hd q0 t0 ha ht (nI_in hi hn) (by rw [nI_clamp (Nat.lt_trans hi hn)]; exact k1)
theorem x_iast {cA : ClassId} {n a : Nat} {f : Nat → Int32} {i : Int32} {x : Int32} (hd : decode cc pc = .ok (.iastore, 1)) (q0 t0 : Nat) (ha : w[q0]? = some (a, .inl (cA, n, .inl f))) (ht : G.2.2[t0]? = some (cA, .int)) (hi : vp_in i n) (w2 : va_W) (hw : w.set q0 (a, .inl (cA, n, .inl (upd f i.toNatClampNeg x))) = w2) (k1 : xj E l R cc nL ret own G A mc ms post kc ks w2 (pc + 1) (lv) (st)) : xj E l R cc nL ret own G A mc ms post kc ks w (pc) (lv) (.int x :: .int i :: .ref a :: st) := by
  subst hw
  exact fun cx hA H locs ls hP hD hS hl => va_iast cx.1 cx.2.1 cx.2.2.2.2.2.2.2 hP hD hS q0 t0 ha ht hi hd (fun H1 locs1 hP hD hS => k1 cx hA H1 locs1 ls hP hD hS hl)
theorem x_iastN {cA : ClassId} {n a : Nat} {f : Nat → Int32} {i : Nat} {x : Int32} (hd : decode cc pc = .ok (.iastore, 1)) (q0 t0 : Nat) (ha : w[q0]? = some (a, .inl (cA, n, .inl f))) (ht : G.2.2[t0]? = some (cA, .int)) (hn : n < 2147483648) (hi : i < n) (w2 : va_W) (hw : w.set q0 (a, .inl (cA, n, .inl (upd f i x))) = w2) (k1 : xj E l R cc nL ret own G A mc ms post kc ks w2 (pc + 1) (lv) (st)) : xj E l R cc nL ret own G A mc ms post kc ks w (pc) (lv) (.int x :: .int (nI i) :: .ref a :: st) :=
  x_iast hd q0 t0 ha ht (nI_in hi hn) w2 (by rw [nI_clamp (Nat.lt_trans hi hn)]; exact hw) k1
theorem x_lald {cA : ClassId} {n a : Nat} {f : Nat → Int64} {i : Int32} (hd : decode cc pc = .ok (.laload, 1)) (q0 t0 : Nat) (ha : w[q0]? = some (a, .inl (cA, n, .inr (.inl f)))) (ht : G.2.2[t0]? = some (cA, .long)) (hi : vp_in i n) (k1 : xj E l R cc nL ret own G A mc ms post kc ks w (pc + 1) (lv) (.long (f i.toNatClampNeg) :: st)) : xj E l R cc nL ret own G A mc ms post kc ks w (pc) (lv) (.int i :: .ref a :: st) :=
  fun cx hA H locs ls hP hD hS hl => va_lald cx.1 cx.2.1 cx.2.2.2.2.2.2.2 hP q0 t0 ha ht hi hd (k1 cx hA H locs ls hP hD hS hl)
theorem x_laldN {cA : ClassId} {n a : Nat} {f : Nat → Int64} {i : Nat} (hd : decode cc pc = .ok (.laload, 1)) (q0 t0 : Nat) (ha : w[q0]? = some (a, .inl (cA, n, .inr (.inl f)))) (ht : G.2.2[t0]? = some (cA, .long)) (hn : n < 2147483648) (hi : i < n) (k1 : xj E l R cc nL ret own G A mc ms post kc ks w (pc + 1) (lv) (.long (f i) :: st)) : xj E l R cc nL ret own G A mc ms post kc ks w (pc) (lv) (.int (nI i) :: .ref a :: st) :=
  x_lald hd q0 t0 ha ht (nI_in hi hn) (by rw [nI_clamp (Nat.lt_trans hi hn)]; exact k1)
theorem x_last {cA : ClassId} {n a : Nat} {f : Nat → Int64} {i : Int32} {x : Int64} (hd : decode cc pc = .ok (.lastore, 1)) (q0 t0 : Nat) (ha : w[q0]? = some (a, .inl (cA, n, .inr (.inl f)))) (ht : G.2.2[t0]? = some (cA, .long)) (hi : vp_in i n) (w2 : va_W) (hw : w.set q0 (a, .inl (cA, n, .inr (.inl (vp_updL f i.toNatClampNeg x)))) = w2) (k1 : xj E l R cc nL ret own G A mc ms post kc ks w2 (pc + 1) (lv) (st)) : xj E l R cc nL ret own G A mc ms post kc ks w (pc) (lv) (.long x :: .int i :: .ref a :: st) := by
  subst hw
  exact fun cx hA H locs ls hP hD hS hl => va_last cx.1 cx.2.1 cx.2.2.2.2.2.2.2 hP hD hS q0 t0 ha ht hi hd (fun H1 locs1 hP hD hS => k1 cx hA H1 locs1 ls hP hD hS hl)
theorem x_lastN {cA : ClassId} {n a : Nat} {f : Nat → Int64} {i : Nat} {x : Int64} (hd : decode cc pc = .ok (.lastore, 1)) (q0 t0 : Nat) (ha : w[q0]? = some (a, .inl (cA, n, .inr (.inl f)))) (ht : G.2.2[t0]? = some (cA, .long)) (hn : n < 2147483648) (hi : i < n) (w2 : va_W) (hw : w.set q0 (a, .inl (cA, n, .inr (.inl (vp_updL f i x)))) = w2) (k1 : xj E l R cc nL ret own G A mc ms post kc ks w2 (pc + 1) (lv) (st)) : xj E l R cc nL ret own G A mc ms post kc ks w (pc) (lv) (.long x :: .int (nI i) :: .ref a :: st) :=
  x_last hd q0 t0 ha ht (nI_in hi hn) w2 (by rw [nI_clamp (Nat.lt_trans hi hn)]; exact hw) k1
theorem x_alen {cA : ClassId} {a : Nat} {x : vp_A} {ty : FieldType} (hd : decode cc pc = .ok (.arraylength, 1)) (q0 t0 : Nat) (ha : w[q0]? = some (a, .inl (cA, x))) (ht : G.2.2[t0]? = some (cA, ty)) (k1 : xj E l R cc nL ret own G A mc ms post kc ks w (pc + 1) (lv) (.int (nI x.1) :: st)) : xj E l R cc nL ret own G A mc ms post kc ks w (pc) (lv) (.ref a :: st) :=
  fun cx hA H locs ls hP hD hS hl => va_alen cx.1 cx.2.1 cx.2.2.2.2.2.2.2 hP q0 t0 ha ht rfl hd (k1 cx hA H locs ls hP hD hS hl)
theorem x_iret {v : Int32} (hd : decode cc pc = .ok (.ireturn, 1)) (hr : ret = some .int) (h : post (some (.int v)) w) : xj E l R cc nL ret own G A kc ks post kc ks w pc lv [.int v] :=
  fun cx hA H locs ls hP hD hS hl => W.iret cx.1 cx.2.1 (cx.2.2.2.1.trans hr) (fun t ht hW => ⟨⟨some (.int v), w, rfl, h, by rw [ht]; exact hP, hD⟩, hS.F ht⟩) hS.2.2 hd cx.2.2.2.2.1
theorem x_zret {v : Int32} (hd : decode cc pc = .ok (.ireturn, 1)) (hr : ret = some .boolean) (hn : narrow .boolean (.int v) = .int v) (h : post (some (.int v)) w) : xj E l R cc nL ret own G A kc ks post kc ks w pc lv [.int v] :=
  fun cx hA H locs ls hP hD hS hl => W.zret cx.1 cx.2.1 (cx.2.2.2.1.trans hr) hn (fun t ht hW => ⟨⟨some (.int v), w, rfl, h, by rw [ht]; exact hP, hD⟩, hS.F ht⟩) hS.2.2 hd cx.2.2.2.2.1
theorem x_lret {v : Int64} (hd : decode cc pc = .ok (.lreturn, 1)) (hr : ret = some .long) (h : post (some (.long v)) w) : xj E l R cc nL ret own G A kc ks post kc ks w pc lv [.long v] :=
  fun cx hA H locs ls hP hD hS hl => W.lret cx.1 cx.2.1 (cx.2.2.2.1.trans hr) (fun t ht hW => ⟨⟨some (.long v), w, rfl, h, by rw [ht]; exact hP, hD⟩, hS.F ht⟩) hS.2.2 hd cx.2.2.2.2.1
theorem x_vret (hd : decode cc pc = .ok (.return_, 1)) (hr : ret = none) (h : post (none) w) : xj E l R cc nL ret own G A kc ks post kc ks w pc lv [] :=
  fun cx hA H locs ls hP hD hS hl => W.vret cx.1 cx.2.1 (cx.2.2.2.1.trans hr) (fun t ht hW => ⟨⟨none, w, rfl, h, by rw [ht]; exact hP, hD⟩, hS.F ht⟩) hS.2.2 hd cx.2.2.2.2.1
theorem x_sub (is : List Nat) (lw : List (Nat × Value)) (h : lv_pick lv is = lw) (k1 : xj E l R cc nL ret own G A mc ms post kc ks w (pc) (lw) (st)) : xj E l R cc nL ret own G A mc ms post kc ks w (pc) (lv) (st) :=
  fun cx hA H locs ls hP hD hS hl => k1 cx hA H locs ls hP hD hS (lv_sub hl is h)
theorem x_w {w2 : va_W} (h : w = w2) (k1 : xj E l R cc nL ret own G A mc ms post kc ks w2 (pc) (lv) (st)) : xj E l R cc nL ret own G A mc ms post kc ks w (pc) (lv) (st) := h ▸ k1
theorem x_ti {x y : Int32} (h : x = y) (k1 : xj E l R cc nL ret own G A mc ms post kc ks w (pc) (lv) (.int y :: st)) : xj E l R cc nL ret own G A mc ms post kc ks w (pc) (lv) (.int x :: st) := h ▸ k1
theorem x_tl {x y : Int64} (h : x = y) (k1 : xj E l R cc nL ret own G A mc ms post kc ks w (pc) (lv) (.long y :: st)) : xj E l R cc nL ret own G A mc ms post kc ks w (pc) (lv) (.long x :: st) := h ▸ k1
theorem x_loop {σ : Type} (μ : σ → Nat) (Inv : σ → Prop) (wf : σ → va_W) (lf : σ → List (Nat × Value)) (step : ∀ a, Inv a → (∀ b, Inv b → μ b < μ a → xj E l R cc nL ret own G A mc ms post kc ks (wf b) (pc) (lf b) ([])) → xj E l R cc nL ret own G A mc ms post kc ks (wf a) (pc) (lf a) ([])) : ∀ a, Inv a → xj E l R cc nL ret own G A mc ms post kc ks (wf a) (pc) (lf a) ([]) := by
  have key : ∀ (n : Nat) (a : σ), μ a < n → Inv a → xj E l R cc nL ret own G A mc ms post kc ks (wf a) (pc) (lf a) ([]) := by
    intro n
    induction n with
    | zero => intro a h; exact absurd h (Nat.not_lt_zero _)
    | succ n ih => exact fun a h hi => step a hi (fun b hb hlt => ih b (by omega) hb)
  exact fun a hi => key (μ a + 1) a (by omega) hi
theorem xe_call {H : Heap} {locs : List Loc} {ls : Array Slot} {mc2 ms2 : Nat} {post2 : Option Value → va_W → Prop} {a : Array Value} {rest st0 : List Value} (hr : va_Run E.1 l E.2.1 R E.2.2.1 E.2.2.2.1 E.2.2.2.2.1 E.2.2.2.2.2.1 E.2.2.2.2.2.2.1 E.2.2.2.2.2.2.2 H locs kc ks mc2 ms2 (F0 E.2.2.2.1 pc ls st0) rest (xEnd G (va_A w H.size) post2 a) (va_A w H.size))
    (cx : Cx E cc nL ret own G) (hA : ∀ q, E.2.2.1.heap.size ≤ q → A q) (hD : va_D A w) (hS : va_S A E.2.2.1.heap H locs) (hl : lv_has ls nL lv) (kk : ∀ (v : Option Value) (w2 : va_W), post2 v w2 → xj E l R cc nL ret own G A mc ms post (kc + mc2) (ks + ms2) w2 (pc + 3) lv (v.toList ++ rest)) :
    W E.1 l E.2.1 R E.2.2.1 E.2.2.2.1 E.2.2.2.2.1 E.2.2.2.2.2.1 E.2.2.2.2.2.2.1 E.2.2.2.2.2.2.2 H locs kc ks (xQ E G A post mc ms) (F0 E.2.2.2.1 pc ls st0) := by
  intro T hT X
  obtain ⟨v, st₀, t, T', L, h0, X', hL, e1, e2, ⟨⟨v', w', hv, hp, hP', hD'⟩, hz, hk⟩, st⟩ := hr T hT X
  cases hv
  rw [h0] at hz hk
  have hF : ∀ q, va_A w H.size q → A q := by
    intro q h
    rcases h with ⟨k, e, h⟩ | h
    · exact hD.2 k _ h
    · exact hA q (Nat.le_trans hS.1 h)
  obtain ⟨t2, a1, b1⟩ := kk v w' hp cx hA T'.heap (locs ++ L) ls (by rw [e1]; exact hP') (hD'.weaken (fun _ _ _ h => hF _ h))
    ⟨Nat.le_trans hS.1 (by rw [e1]; exact hz), fun q h1 h2 => by rw [e1, hk q (Nat.lt_of_lt_of_le h1 hS.1) (fun z => h2 (hF q z))]; exact hS.2.1 q h1 h2, fun q hq => by
      rcases List.mem_append.mp hq with h | h
      · exact hS.2.2 q h
      · exact hF _ (hL q h)⟩ hl T' rfl X'
  exact ⟨t2, st t2 a1, b1⟩
theorem ct_pre {s : State} {H : Heap} {av : List Value} (hT : tb G s) (hP : va_P G.1 G.2.1 w H) (hD : va_D A w) : PreS s H (va_Pc av (fun U => U.heap.size = H.size ∧ va_P G.1 G.2.1 w U.heap ∧ va_D (fun _ => True) w ∧ tb G U)) av :=
  ⟨fun a U g mk q => ⟨q.1, q.2.1, q.2.2.1, q.2.2.2.1, q.2.2.2.2.same rfl⟩, fun U hU hW => ⟨rfl, by rw [hU], by rw [hU]; exact hP, hD.weaken (fun _ _ _ _ => trivial), hT.warm hW⟩⟩
theorem x_callV {y : MethodName} {bytes : ByteArray} {maxL index na : Nat} {rt : Option FieldType} {rm2 : Room} {post2 : Option Value → va_W → Prop} {C : String} {b : Nat} {T : u_T} {N ci : Nat} {fs : List Value} {As rest : List Value} (hd : decode cc pc = .ok (.invokevirtual index, 3)) (hlk : Cond.methodLink own index y ∈ big) (hinm : Cond.instanceMethod y ∈ big) (hsel : Cond.selects C y y ∈ big) (hcode : Cond.code y bytes maxL rt ∈ big) (hini : Cond.initialized y.cls ∈ big) (hy : y.cls ≠ "java/lang/invoke/MethodHandle" ∧ y.cls ≠ "java/lang/invoke/VarHandle" ∧ (parseMethodDescriptor y.desc).map (fun d => d.parameters.length) = some na) (hR : rm2.frames + 1 ≤ R.frames ∧ 8 + (maxL + 11) + rm2.locals ≤ R.locals) (hcs : kc + rm2.cells ≤ R.cells ∧ ks + rm2.slots ≤ R.slots) (q0 : Nat) (he : w[q0]? = some (b, .inr (ci, fs))) (hc : G.2.1[ci]? = some (C, T, N)) (hM : CT l y bytes maxL rt rm2 G (.ref b :: As) w (post2)) (hn : As.length = na) (hst : st = As.reverse ++ .ref b :: rest) (hrm : (rest.map fun v => v.category).sum ≤ 8) (kk : ∀ (v : Option Value) (w2 : va_W), post2 v w2 → xj E l R cc nL ret own G A mc ms post (kc + rm2.cells) (ks + rm2.slots) w2 (pc + 3) (lv) (v.toList ++ rest)) : xj E l R cc nL ret own G A mc ms post kc ks w (pc) (lv) (st) := by
  intro cx hA H locs ls hP hD hS hl
  subst hst
  have hts := cx.2.2.2.2.2.2.1
  have hlen : ∀ sig, parseMethodDescriptor y.desc = some sig → na = sig.parameters.length := by
    intro sig h
    have h2 := hy.2.2
    rw [h] at h2
    exact (Option.some.inj h2).symm
  have hpre := ct_pre (av := .ref b :: As) cx.2.2.2.2.2.2.2 hP hD
  exact xe_call (va_runV (As := As) (rest := rest) ⟨cx.1, cx.2.1, cx.2.2.1, cx.2.2.2.2.2.1, cx.2.2.2.2.2.2.1⟩ (hM H.size) ⟨⟨rfl, rfl, hR.1, hR.2, tbl_pay hts hcode, List.mem_cons_self, hts _ hcode, hts _ hini, ⟨hy.1, hy.2.1⟩, hlen, hts _ hlk⟩, hts _ hinm, hts _ hsel⟩ ⟨hpre.1, va_recv cx.2.2.2.2.2.2.2 hP hc he, hpre.2⟩ rfl hn hl.1 rfl (lv_room hrm) hd hcs) cx hA hD hS hl kk
theorem x_callV_I {y : MethodName} {bytes : ByteArray} {maxL index na : Nat} {rt : Option FieldType} {rm2 : Room} {rv : Int32} {w3 : va_W} {C : String} {b : Nat} {T : u_T} {N ci : Nat} {fs : List Value} {As rest : List Value} (hd : decode cc pc = .ok (.invokevirtual index, 3)) (hlk : Cond.methodLink own index y ∈ big) (hinm : Cond.instanceMethod y ∈ big) (hsel : Cond.selects C y y ∈ big) (hcode : Cond.code y bytes maxL rt ∈ big) (hini : Cond.initialized y.cls ∈ big) (hy : y.cls ≠ "java/lang/invoke/MethodHandle" ∧ y.cls ≠ "java/lang/invoke/VarHandle" ∧ (parseMethodDescriptor y.desc).map (fun d => d.parameters.length) = some na) (hR : rm2.frames + 1 ≤ R.frames ∧ 8 + (maxL + 11) + rm2.locals ≤ R.locals) (hz : rm2.cells = 0 ∧ rm2.slots = 0) (hcr : kc ≤ R.cells ∧ ks ≤ R.slots) (q0 : Nat) (he : w[q0]? = some (b, .inr (ci, fs))) (hc : G.2.1[ci]? = some (C, T, N)) (hM : CT l y bytes maxL rt rm2 G (.ref b :: As) w (pI rv w3)) (hn : As.length = na) (hst : st = As.reverse ++ .ref b :: rest) (hrm : (rest.map fun v => v.category).sum ≤ 8) (k1 : xj E l R cc nL ret own G A mc ms post kc ks w3 (pc + 3) (lv) (.int rv :: rest)) : xj E l R cc nL ret own G A mc ms post kc ks w (pc) (lv) (st) := by
  have hcs : kc + rm2.cells ≤ R.cells ∧ ks + rm2.slots ≤ R.slots := by rw [hz.1, hz.2]; exact hcr
  refine x_callV hd hlk hinm hsel hcode hini hy hR hcs q0 he hc hM hn hst hrm (fun v w2 hp => ?_)
  obtain ⟨rfl, rfl⟩ := hp
  rw [hz.1, hz.2]
  exact k1
theorem x_callV_L {y : MethodName} {bytes : ByteArray} {maxL index na : Nat} {rt : Option FieldType} {rm2 : Room} {rv : Int64} {w3 : va_W} {C : String} {b : Nat} {T : u_T} {N ci : Nat} {fs : List Value} {As rest : List Value} (hd : decode cc pc = .ok (.invokevirtual index, 3)) (hlk : Cond.methodLink own index y ∈ big) (hinm : Cond.instanceMethod y ∈ big) (hsel : Cond.selects C y y ∈ big) (hcode : Cond.code y bytes maxL rt ∈ big) (hini : Cond.initialized y.cls ∈ big) (hy : y.cls ≠ "java/lang/invoke/MethodHandle" ∧ y.cls ≠ "java/lang/invoke/VarHandle" ∧ (parseMethodDescriptor y.desc).map (fun d => d.parameters.length) = some na) (hR : rm2.frames + 1 ≤ R.frames ∧ 8 + (maxL + 11) + rm2.locals ≤ R.locals) (hz : rm2.cells = 0 ∧ rm2.slots = 0) (hcr : kc ≤ R.cells ∧ ks ≤ R.slots) (q0 : Nat) (he : w[q0]? = some (b, .inr (ci, fs))) (hc : G.2.1[ci]? = some (C, T, N)) (hM : CT l y bytes maxL rt rm2 G (.ref b :: As) w (pL rv w3)) (hn : As.length = na) (hst : st = As.reverse ++ .ref b :: rest) (hrm : (rest.map fun v => v.category).sum ≤ 8) (k1 : xj E l R cc nL ret own G A mc ms post kc ks w3 (pc + 3) (lv) (.long rv :: rest)) : xj E l R cc nL ret own G A mc ms post kc ks w (pc) (lv) (st) := by
  have hcs : kc + rm2.cells ≤ R.cells ∧ ks + rm2.slots ≤ R.slots := by rw [hz.1, hz.2]; exact hcr
  refine x_callV hd hlk hinm hsel hcode hini hy hR hcs q0 he hc hM hn hst hrm (fun v w2 hp => ?_)
  obtain ⟨rfl, rfl⟩ := hp
  rw [hz.1, hz.2]
  exact k1
theorem x_callV_Z {y : MethodName} {bytes : ByteArray} {maxL index na : Nat} {rt : Option FieldType} {rm2 : Room}  {w3 : va_W} {C : String} {b : Nat} {T : u_T} {N ci : Nat} {fs : List Value} {As rest : List Value} (hd : decode cc pc = .ok (.invokevirtual index, 3)) (hlk : Cond.methodLink own index y ∈ big) (hinm : Cond.instanceMethod y ∈ big) (hsel : Cond.selects C y y ∈ big) (hcode : Cond.code y bytes maxL rt ∈ big) (hini : Cond.initialized y.cls ∈ big) (hy : y.cls ≠ "java/lang/invoke/MethodHandle" ∧ y.cls ≠ "java/lang/invoke/VarHandle" ∧ (parseMethodDescriptor y.desc).map (fun d => d.parameters.length) = some na) (hR : rm2.frames + 1 ≤ R.frames ∧ 8 + (maxL + 11) + rm2.locals ≤ R.locals) (hz : rm2.cells = 0 ∧ rm2.slots = 0) (hcr : kc ≤ R.cells ∧ ks ≤ R.slots) (q0 : Nat) (he : w[q0]? = some (b, .inr (ci, fs))) (hc : G.2.1[ci]? = some (C, T, N)) (hM : CT l y bytes maxL rt rm2 G (.ref b :: As) w (pV w3)) (hn : As.length = na) (hst : st = As.reverse ++ .ref b :: rest) (hrm : (rest.map fun v => v.category).sum ≤ 8) (k1 : xj E l R cc nL ret own G A mc ms post kc ks w3 (pc + 3) (lv) (rest)) : xj E l R cc nL ret own G A mc ms post kc ks w (pc) (lv) (st) := by
  have hcs : kc + rm2.cells ≤ R.cells ∧ ks + rm2.slots ≤ R.slots := by rw [hz.1, hz.2]; exact hcr
  refine x_callV hd hlk hinm hsel hcode hini hy hR hcs q0 he hc hM hn hst hrm (fun v w2 hp => ?_)
  obtain ⟨rfl, rfl⟩ := hp
  rw [hz.1, hz.2]
  exact k1
theorem x_callV_X {y : MethodName} {bytes : ByteArray} {maxL index na : Nat} {rt : Option FieldType} {rm2 : Room} {post2 : Option Value → va_W → Prop} {C : String} {b : Nat} {T : u_T} {N ci : Nat} {fs : List Value} {As rest : List Value} (hd : decode cc pc = .ok (.invokevirtual index, 3)) (hlk : Cond.methodLink own index y ∈ big) (hinm : Cond.instanceMethod y ∈ big) (hsel : Cond.selects C y y ∈ big) (hcode : Cond.code y bytes maxL rt ∈ big) (hini : Cond.initialized y.cls ∈ big) (hy : y.cls ≠ "java/lang/invoke/MethodHandle" ∧ y.cls ≠ "java/lang/invoke/VarHandle" ∧ (parseMethodDescriptor y.desc).map (fun d => d.parameters.length) = some na) (hR : rm2.frames + 1 ≤ R.frames ∧ 8 + (maxL + 11) + rm2.locals ≤ R.locals) (hz : rm2.cells = 0 ∧ rm2.slots = 0) (hcr : kc ≤ R.cells ∧ ks ≤ R.slots) (q0 : Nat) (he : w[q0]? = some (b, .inr (ci, fs))) (hc : G.2.1[ci]? = some (C, T, N)) (hM : CT l y bytes maxL rt rm2 G (.ref b :: As) w (post2)) (hn : As.length = na) (hst : st = As.reverse ++ .ref b :: rest) (hrm : (rest.map fun v => v.category).sum ≤ 8) (k1 : ∀ (v : Option Value) (w2 : va_W), post2 v w2 → xj E l R cc nL ret own G A mc ms post kc ks w2 (pc + 3) (lv) (v.toList ++ rest)) : xj E l R cc nL ret own G A mc ms post kc ks w (pc) (lv) (st) := by
  have hcs : kc + rm2.cells ≤ R.cells ∧ ks + rm2.slots ≤ R.slots := by rw [hz.1, hz.2]; exact hcr
  refine x_callV hd hlk hinm hsel hcode hini hy hR hcs q0 he hc hM hn hst hrm (fun v w2 hp => ?_)
  rw [hz.1, hz.2]
  exact k1 v w2 hp
theorem x_callS {y : MethodName} {bytes : ByteArray} {maxL index na : Nat} {rt : Option FieldType} {rm2 : Room} {post2 : Option Value → va_W → Prop}  {As rest : List Value} (hd : decode cc pc = .ok (.invokestatic index, 3)) (hlk : Cond.methodLink own index y ∈ big) (hstt : Cond.static y ∈ big) (hcode : Cond.code y bytes maxL rt ∈ big) (hini : Cond.initialized y.cls ∈ big) (hy : y.cls ≠ "java/lang/invoke/MethodHandle" ∧ y.cls ≠ "java/lang/invoke/VarHandle" ∧ (parseMethodDescriptor y.desc).map (fun d => d.parameters.length) = some na) (hR : rm2.frames + 1 ≤ R.frames ∧ 8 + (maxL + 11) + rm2.locals ≤ R.locals) (hcs : kc + rm2.cells ≤ R.cells ∧ ks + rm2.slots ≤ R.slots) (hM : CT l y bytes maxL rt rm2 G As w (post2)) (hn : As.length = na) (hst : st = As.reverse ++ rest) (hrm : (rest.map fun v => v.category).sum ≤ 8) (kk : ∀ (v : Option Value) (w2 : va_W), post2 v w2 → xj E l R cc nL ret own G A mc ms post (kc + rm2.cells) (ks + rm2.slots) w2 (pc + 3) (lv) (v.toList ++ rest)) : xj E l R cc nL ret own G A mc ms post kc ks w (pc) (lv) (st) := by
  intro cx hA H locs ls hP hD hS hl
  subst hst
  have hts := cx.2.2.2.2.2.2.1
  have hlen : ∀ sig, parseMethodDescriptor y.desc = some sig → na = sig.parameters.length := by
    intro sig h
    have h2 := hy.2.2
    rw [h] at h2
    exact (Option.some.inj h2).symm
  have hpre := ct_pre (av := As) cx.2.2.2.2.2.2.2 hP hD
  exact xe_call (va_runS (As := As) (rest := rest) ⟨cx.1, cx.2.1, cx.2.2.1, cx.2.2.2.2.2.1, cx.2.2.2.2.2.2.1⟩ (hM H.size) ⟨⟨rfl, rfl, hR.1, hR.2, tbl_pay hts hcode, List.mem_cons_self, hts _ hcode, hts _ hini, ⟨hy.1, hy.2.1⟩, hlen, hts _ hlk⟩, hts _ hstt⟩ hpre rfl hn hl.1 rfl (lv_room hrm) hd hcs) cx hA hD hS hl kk
theorem x_callS_I {y : MethodName} {bytes : ByteArray} {maxL index na : Nat} {rt : Option FieldType} {rm2 : Room} {rv : Int32} {w3 : va_W}  {As rest : List Value} (hd : decode cc pc = .ok (.invokestatic index, 3)) (hlk : Cond.methodLink own index y ∈ big) (hstt : Cond.static y ∈ big) (hcode : Cond.code y bytes maxL rt ∈ big) (hini : Cond.initialized y.cls ∈ big) (hy : y.cls ≠ "java/lang/invoke/MethodHandle" ∧ y.cls ≠ "java/lang/invoke/VarHandle" ∧ (parseMethodDescriptor y.desc).map (fun d => d.parameters.length) = some na) (hR : rm2.frames + 1 ≤ R.frames ∧ 8 + (maxL + 11) + rm2.locals ≤ R.locals) (hz : rm2.cells = 0 ∧ rm2.slots = 0) (hcr : kc ≤ R.cells ∧ ks ≤ R.slots) (hM : CT l y bytes maxL rt rm2 G As w (pI rv w3)) (hn : As.length = na) (hst : st = As.reverse ++ rest) (hrm : (rest.map fun v => v.category).sum ≤ 8) (k1 : xj E l R cc nL ret own G A mc ms post kc ks w3 (pc + 3) (lv) (.int rv :: rest)) : xj E l R cc nL ret own G A mc ms post kc ks w (pc) (lv) (st) := by
  have hcs : kc + rm2.cells ≤ R.cells ∧ ks + rm2.slots ≤ R.slots := by rw [hz.1, hz.2]; exact hcr
  refine x_callS hd hlk hstt hcode hini hy hR hcs hM hn hst hrm (fun v w2 hp => ?_)
  obtain ⟨rfl, rfl⟩ := hp
  rw [hz.1, hz.2]
  exact k1
theorem x_callS_L {y : MethodName} {bytes : ByteArray} {maxL index na : Nat} {rt : Option FieldType} {rm2 : Room} {rv : Int64} {w3 : va_W}  {As rest : List Value} (hd : decode cc pc = .ok (.invokestatic index, 3)) (hlk : Cond.methodLink own index y ∈ big) (hstt : Cond.static y ∈ big) (hcode : Cond.code y bytes maxL rt ∈ big) (hini : Cond.initialized y.cls ∈ big) (hy : y.cls ≠ "java/lang/invoke/MethodHandle" ∧ y.cls ≠ "java/lang/invoke/VarHandle" ∧ (parseMethodDescriptor y.desc).map (fun d => d.parameters.length) = some na) (hR : rm2.frames + 1 ≤ R.frames ∧ 8 + (maxL + 11) + rm2.locals ≤ R.locals) (hz : rm2.cells = 0 ∧ rm2.slots = 0) (hcr : kc ≤ R.cells ∧ ks ≤ R.slots) (hM : CT l y bytes maxL rt rm2 G As w (pL rv w3)) (hn : As.length = na) (hst : st = As.reverse ++ rest) (hrm : (rest.map fun v => v.category).sum ≤ 8) (k1 : xj E l R cc nL ret own G A mc ms post kc ks w3 (pc + 3) (lv) (.long rv :: rest)) : xj E l R cc nL ret own G A mc ms post kc ks w (pc) (lv) (st) := by
  have hcs : kc + rm2.cells ≤ R.cells ∧ ks + rm2.slots ≤ R.slots := by rw [hz.1, hz.2]; exact hcr
  refine x_callS hd hlk hstt hcode hini hy hR hcs hM hn hst hrm (fun v w2 hp => ?_)
  obtain ⟨rfl, rfl⟩ := hp
  rw [hz.1, hz.2]
  exact k1
theorem x_callS_Z {y : MethodName} {bytes : ByteArray} {maxL index na : Nat} {rt : Option FieldType} {rm2 : Room}  {w3 : va_W}  {As rest : List Value} (hd : decode cc pc = .ok (.invokestatic index, 3)) (hlk : Cond.methodLink own index y ∈ big) (hstt : Cond.static y ∈ big) (hcode : Cond.code y bytes maxL rt ∈ big) (hini : Cond.initialized y.cls ∈ big) (hy : y.cls ≠ "java/lang/invoke/MethodHandle" ∧ y.cls ≠ "java/lang/invoke/VarHandle" ∧ (parseMethodDescriptor y.desc).map (fun d => d.parameters.length) = some na) (hR : rm2.frames + 1 ≤ R.frames ∧ 8 + (maxL + 11) + rm2.locals ≤ R.locals) (hz : rm2.cells = 0 ∧ rm2.slots = 0) (hcr : kc ≤ R.cells ∧ ks ≤ R.slots) (hM : CT l y bytes maxL rt rm2 G As w (pV w3)) (hn : As.length = na) (hst : st = As.reverse ++ rest) (hrm : (rest.map fun v => v.category).sum ≤ 8) (k1 : xj E l R cc nL ret own G A mc ms post kc ks w3 (pc + 3) (lv) (rest)) : xj E l R cc nL ret own G A mc ms post kc ks w (pc) (lv) (st) := by
  have hcs : kc + rm2.cells ≤ R.cells ∧ ks + rm2.slots ≤ R.slots := by rw [hz.1, hz.2]; exact hcr
  refine x_callS hd hlk hstt hcode hini hy hR hcs hM hn hst hrm (fun v w2 hp => ?_)
  obtain ⟨rfl, rfl⟩ := hp
  rw [hz.1, hz.2]
  exact k1
theorem x_callS_X {y : MethodName} {bytes : ByteArray} {maxL index na : Nat} {rt : Option FieldType} {rm2 : Room} {post2 : Option Value → va_W → Prop}  {As rest : List Value} (hd : decode cc pc = .ok (.invokestatic index, 3)) (hlk : Cond.methodLink own index y ∈ big) (hstt : Cond.static y ∈ big) (hcode : Cond.code y bytes maxL rt ∈ big) (hini : Cond.initialized y.cls ∈ big) (hy : y.cls ≠ "java/lang/invoke/MethodHandle" ∧ y.cls ≠ "java/lang/invoke/VarHandle" ∧ (parseMethodDescriptor y.desc).map (fun d => d.parameters.length) = some na) (hR : rm2.frames + 1 ≤ R.frames ∧ 8 + (maxL + 11) + rm2.locals ≤ R.locals) (hz : rm2.cells = 0 ∧ rm2.slots = 0) (hcr : kc ≤ R.cells ∧ ks ≤ R.slots) (hM : CT l y bytes maxL rt rm2 G As w (post2)) (hn : As.length = na) (hst : st = As.reverse ++ rest) (hrm : (rest.map fun v => v.category).sum ≤ 8) (k1 : ∀ (v : Option Value) (w2 : va_W), post2 v w2 → xj E l R cc nL ret own G A mc ms post kc ks w2 (pc + 3) (lv) (v.toList ++ rest)) : xj E l R cc nL ret own G A mc ms post kc ks w (pc) (lv) (st) := by
  have hcs : kc + rm2.cells ≤ R.cells ∧ ks + rm2.slots ≤ R.slots := by rw [hz.1, hz.2]; exact hcr
  refine x_callS hd hlk hstt hcode hini hy hR hcs hM hn hst hrm (fun v w2 hp => ?_)
  rw [hz.1, hz.2]
  exact k1 v w2 hp
theorem x_callSN {y : MethodName} {bytes : ByteArray} {maxL index na : Nat} {rt : Option FieldType} {rm2 : Room} {post2 : Option Value → va_W → Prop} {host : String} {As rest : List Value} (hd : decode cc pc = .ok (.invokestatic index, 3)) (hlk : Cond.methodLinkNest own index y host ∈ big) (hstt : Cond.static y ∈ big) (hcode : Cond.code y bytes maxL rt ∈ big) (hini : Cond.initialized y.cls ∈ big) (hy : y.cls ≠ "java/lang/invoke/MethodHandle" ∧ y.cls ≠ "java/lang/invoke/VarHandle" ∧ (parseMethodDescriptor y.desc).map (fun d => d.parameters.length) = some na) (hR : rm2.frames + 1 ≤ R.frames ∧ 8 + (maxL + 11) + rm2.locals ≤ R.locals) (hcs : kc + rm2.cells ≤ R.cells ∧ ks + rm2.slots ≤ R.slots) (hM : CT l y bytes maxL rt rm2 G As w (post2)) (hn : As.length = na) (hst : st = As.reverse ++ rest) (hrm : (rest.map fun v => v.category).sum ≤ 8) (kk : ∀ (v : Option Value) (w2 : va_W), post2 v w2 → xj E l R cc nL ret own G A mc ms post (kc + rm2.cells) (ks + rm2.slots) w2 (pc + 3) (lv) (v.toList ++ rest)) : xj E l R cc nL ret own G A mc ms post kc ks w (pc) (lv) (st) := by
  intro cx hA H locs ls hP hD hS hl
  subst hst
  have hts := cx.2.2.2.2.2.2.1
  have hlen : ∀ sig, parseMethodDescriptor y.desc = some sig → na = sig.parameters.length := by
    intro sig h
    have h2 := hy.2.2
    rw [h] at h2
    exact (Option.some.inj h2).symm
  have hpre := ct_pre (av := As) cx.2.2.2.2.2.2.2 hP hD
  exact xe_call (va_runSN (As := As) (rest := rest) ⟨cx.1, cx.2.1, cx.2.2.1, cx.2.2.2.2.2.1, cx.2.2.2.2.2.2.1⟩ (hM H.size) ⟨⟨⟨rfl, rfl, hR.1, hR.2, tbl_pay hts hcode, List.mem_cons_self⟩, hts _ hcode, hts _ hini, ⟨hy.1, hy.2.1⟩, hlen, hts _ hlk⟩, hts _ hstt, trivial⟩ hpre rfl hn hl.1 rfl (lv_room hrm) hd hcs) cx hA hD hS hl kk
theorem x_callSN_I {y : MethodName} {bytes : ByteArray} {maxL index na : Nat} {rt : Option FieldType} {rm2 : Room} {rv : Int32} {w3 : va_W} {host : String} {As rest : List Value} (hd : decode cc pc = .ok (.invokestatic index, 3)) (hlk : Cond.methodLinkNest own index y host ∈ big) (hstt : Cond.static y ∈ big) (hcode : Cond.code y bytes maxL rt ∈ big) (hini : Cond.initialized y.cls ∈ big) (hy : y.cls ≠ "java/lang/invoke/MethodHandle" ∧ y.cls ≠ "java/lang/invoke/VarHandle" ∧ (parseMethodDescriptor y.desc).map (fun d => d.parameters.length) = some na) (hR : rm2.frames + 1 ≤ R.frames ∧ 8 + (maxL + 11) + rm2.locals ≤ R.locals) (hz : rm2.cells = 0 ∧ rm2.slots = 0) (hcr : kc ≤ R.cells ∧ ks ≤ R.slots) (hM : CT l y bytes maxL rt rm2 G As w (pI rv w3)) (hn : As.length = na) (hst : st = As.reverse ++ rest) (hrm : (rest.map fun v => v.category).sum ≤ 8) (k1 : xj E l R cc nL ret own G A mc ms post kc ks w3 (pc + 3) (lv) (.int rv :: rest)) : xj E l R cc nL ret own G A mc ms post kc ks w (pc) (lv) (st) := by
  have hcs : kc + rm2.cells ≤ R.cells ∧ ks + rm2.slots ≤ R.slots := by rw [hz.1, hz.2]; exact hcr
  refine x_callSN hd hlk hstt hcode hini hy hR hcs hM hn hst hrm (fun v w2 hp => ?_)
  obtain ⟨rfl, rfl⟩ := hp
  rw [hz.1, hz.2]
  exact k1
theorem x_callSN_L {y : MethodName} {bytes : ByteArray} {maxL index na : Nat} {rt : Option FieldType} {rm2 : Room} {rv : Int64} {w3 : va_W} {host : String} {As rest : List Value} (hd : decode cc pc = .ok (.invokestatic index, 3)) (hlk : Cond.methodLinkNest own index y host ∈ big) (hstt : Cond.static y ∈ big) (hcode : Cond.code y bytes maxL rt ∈ big) (hini : Cond.initialized y.cls ∈ big) (hy : y.cls ≠ "java/lang/invoke/MethodHandle" ∧ y.cls ≠ "java/lang/invoke/VarHandle" ∧ (parseMethodDescriptor y.desc).map (fun d => d.parameters.length) = some na) (hR : rm2.frames + 1 ≤ R.frames ∧ 8 + (maxL + 11) + rm2.locals ≤ R.locals) (hz : rm2.cells = 0 ∧ rm2.slots = 0) (hcr : kc ≤ R.cells ∧ ks ≤ R.slots) (hM : CT l y bytes maxL rt rm2 G As w (pL rv w3)) (hn : As.length = na) (hst : st = As.reverse ++ rest) (hrm : (rest.map fun v => v.category).sum ≤ 8) (k1 : xj E l R cc nL ret own G A mc ms post kc ks w3 (pc + 3) (lv) (.long rv :: rest)) : xj E l R cc nL ret own G A mc ms post kc ks w (pc) (lv) (st) := by
  have hcs : kc + rm2.cells ≤ R.cells ∧ ks + rm2.slots ≤ R.slots := by rw [hz.1, hz.2]; exact hcr
  refine x_callSN hd hlk hstt hcode hini hy hR hcs hM hn hst hrm (fun v w2 hp => ?_)
  obtain ⟨rfl, rfl⟩ := hp
  rw [hz.1, hz.2]
  exact k1
theorem x_callSN_Z {y : MethodName} {bytes : ByteArray} {maxL index na : Nat} {rt : Option FieldType} {rm2 : Room}  {w3 : va_W} {host : String} {As rest : List Value} (hd : decode cc pc = .ok (.invokestatic index, 3)) (hlk : Cond.methodLinkNest own index y host ∈ big) (hstt : Cond.static y ∈ big) (hcode : Cond.code y bytes maxL rt ∈ big) (hini : Cond.initialized y.cls ∈ big) (hy : y.cls ≠ "java/lang/invoke/MethodHandle" ∧ y.cls ≠ "java/lang/invoke/VarHandle" ∧ (parseMethodDescriptor y.desc).map (fun d => d.parameters.length) = some na) (hR : rm2.frames + 1 ≤ R.frames ∧ 8 + (maxL + 11) + rm2.locals ≤ R.locals) (hz : rm2.cells = 0 ∧ rm2.slots = 0) (hcr : kc ≤ R.cells ∧ ks ≤ R.slots) (hM : CT l y bytes maxL rt rm2 G As w (pV w3)) (hn : As.length = na) (hst : st = As.reverse ++ rest) (hrm : (rest.map fun v => v.category).sum ≤ 8) (k1 : xj E l R cc nL ret own G A mc ms post kc ks w3 (pc + 3) (lv) (rest)) : xj E l R cc nL ret own G A mc ms post kc ks w (pc) (lv) (st) := by
  have hcs : kc + rm2.cells ≤ R.cells ∧ ks + rm2.slots ≤ R.slots := by rw [hz.1, hz.2]; exact hcr
  refine x_callSN hd hlk hstt hcode hini hy hR hcs hM hn hst hrm (fun v w2 hp => ?_)
  obtain ⟨rfl, rfl⟩ := hp
  rw [hz.1, hz.2]
  exact k1
theorem x_callSN_X {y : MethodName} {bytes : ByteArray} {maxL index na : Nat} {rt : Option FieldType} {rm2 : Room} {post2 : Option Value → va_W → Prop} {host : String} {As rest : List Value} (hd : decode cc pc = .ok (.invokestatic index, 3)) (hlk : Cond.methodLinkNest own index y host ∈ big) (hstt : Cond.static y ∈ big) (hcode : Cond.code y bytes maxL rt ∈ big) (hini : Cond.initialized y.cls ∈ big) (hy : y.cls ≠ "java/lang/invoke/MethodHandle" ∧ y.cls ≠ "java/lang/invoke/VarHandle" ∧ (parseMethodDescriptor y.desc).map (fun d => d.parameters.length) = some na) (hR : rm2.frames + 1 ≤ R.frames ∧ 8 + (maxL + 11) + rm2.locals ≤ R.locals) (hz : rm2.cells = 0 ∧ rm2.slots = 0) (hcr : kc ≤ R.cells ∧ ks ≤ R.slots) (hM : CT l y bytes maxL rt rm2 G As w (post2)) (hn : As.length = na) (hst : st = As.reverse ++ rest) (hrm : (rest.map fun v => v.category).sum ≤ 8) (k1 : ∀ (v : Option Value) (w2 : va_W), post2 v w2 → xj E l R cc nL ret own G A mc ms post kc ks w2 (pc + 3) (lv) (v.toList ++ rest)) : xj E l R cc nL ret own G A mc ms post kc ks w (pc) (lv) (st) := by
  have hcs : kc + rm2.cells ≤ R.cells ∧ ks + rm2.slots ≤ R.slots := by rw [hz.1, hz.2]; exact hcr
  refine x_callSN hd hlk hstt hcode hini hy hR hcs hM hn hst hrm (fun v w2 hp => ?_)
  rw [hz.1, hz.2]
  exact k1 v w2 hp
theorem x_callI {y : MethodName} {bytes : ByteArray} {maxL index na : Nat} {rm2 : Room} {post2 : Option Value → va_W → Prop} {b : Nat} {As rest : List Value} (hd : decode cc pc = .ok (.invokespecial index, 3)) (hlk : Cond.methodLink own index y ∈ big) (hinm : Cond.instanceMethod y ∈ big) (hy1 : y.name = "<init>") (hcode : Cond.code y bytes maxL none ∈ big) (hini : Cond.initialized y.cls ∈ big) (hy : y.cls ≠ "java/lang/invoke/MethodHandle" ∧ y.cls ≠ "java/lang/invoke/VarHandle" ∧ (parseMethodDescriptor y.desc).map (fun d => d.parameters.length) = some na) (hR : rm2.frames + 1 ≤ R.frames ∧ 8 + (maxL + 11) + rm2.locals ≤ R.locals) (hcs : kc + rm2.cells ≤ R.cells ∧ ks + rm2.slots ≤ R.slots) (hM : CT l y bytes maxL none rm2 G (.ref b :: As) w (post2)) (hn : As.length = na) (hst : st = As.reverse ++ .ref b :: rest) (hrm : (rest.map fun v => v.category).sum ≤ 8) (kk : ∀ (v : Option Value) (w2 : va_W), post2 v w2 → xj E l R cc nL ret own G A mc ms post (kc + rm2.cells) (ks + rm2.slots) w2 (pc + 3) (lv) (v.toList ++ rest)) : xj E l R cc nL ret own G A mc ms post kc ks w (pc) (lv) (st) := by
  intro cx hA H locs ls hP hD hS hl
  subst hst
  have hts := cx.2.2.2.2.2.2.1
  have hlen : ∀ sig, parseMethodDescriptor y.desc = some sig → na = sig.parameters.length := by
    intro sig h
    have h2 := hy.2.2
    rw [h] at h2
    exact (Option.some.inj h2).symm
  have hpre := ct_pre (av := .ref b :: As) cx.2.2.2.2.2.2.2 hP hD
  exact xe_call (va_runI (As := As) (rest := rest) ⟨cx.1, cx.2.1, cx.2.2.1, cx.2.2.2.2.2.1, cx.2.2.2.2.2.2.1⟩ (hM H.size) ⟨⟨rfl, rfl, hR.1, hR.2, tbl_pay hts hcode, List.mem_cons_self, hts _ hcode, hts _ hini, ⟨hy.1, hy.2.1⟩, hlen, hts _ hlk⟩, hy1, hts _ hinm⟩ hpre rfl hn hl.1 rfl (lv_room hrm) hd hcs) cx hA hD hS hl kk
theorem x_objInit {index a : Nat} (hd : decode cc pc = .ok (.invokespecial index, 3)) (hlk : Cond.methodLink own index objectInit ∈ big) (hin : Cond.instanceMethod objectInit ∈ big) (hcd : Cond.code objectInit ⟨#[0xb1]⟩ 1 none ∈ big) (hf : 1 ≤ R.frames) (hlc : (st.map fun v => v.category).sum + 12 ≤ R.locals) (k1 : xj E l R cc nL ret own G A mc ms post kc ks w (pc + 3) (lv) (st)) : xj E l R cc nL ret own G A mc ms post kc ks w (pc) (lv) (.ref a :: st) :=
  fun cx hA H locs ls hP hD hS hl => W.objInit cx.1 cx.2.1 cx.2.2.2.2.2.1 (cx.2.2.2.2.2.2.1 _ hlk) (cx.2.2.2.2.2.2.1 _ hin) (cx.2.2.2.2.2.2.1 _ hcd) rfl (hl.1.trans cx.2.2.1.symm) rfl hd hf (by show 2 * 0 + _ + 12 ≤ _; omega) (k1 cx hA H locs ls hP hD hS hl)
theorem x_newa {atype : ArrayType} {ty : FieldType} {N2 : Nat} {nn : Int32} {a0 : vp_A} (hd : decode cc pc = .ok (.newarray atype, 2)) (harr : Cond.arrayClass (newarray.typeOf atype) ∈ big) (hty : newarray.typeOf atype = ty) (ha : ∀ cA : ClassId, vp_cell cA a0 = arrV cA N2 (fun _ => defaultValue ty)) (hn : ¬ nn < 0) (hN : nn.toNatClampNeg = N2) (hbytes : N2 * componentBytes ty ≤ 536870912) (hcells : kc + 1 ≤ R.cells) (hslots : ks + N2 ≤ R.slots) (cA : ClassId) (hfc : ∀ s : State, tb G s → s.vm.findClass ("[" ++ ty.toString) = some cA)
    (k1 : ∀ q : Nat, xj E l R cc nL ret own G A mc ms post (kc + 1) (ks + N2) (w ++ [(q, .inl (cA, a0))]) (pc + 2) (lv) (.ref q :: st)) : xj E l R cc nL ret own G A mc ms post kc ks w (pc) (lv) (.int nn :: st) := by
  intro cx hA H locs ls hP hD hS hl
  subst hty
  refine va_newaK cx.1 cx.2.1 (cx.2.2.2.2.2.2.1 _ harr) rfl hd rfl hn hN hbytes hcells hslots rfl fun H1 cA1 e1 z1 o1 hAr hNm => ?_
  have hcc : cA1 = cA := Option.some.inj (hNm.symm.trans (hfc _ cx.2.2.2.2.2.2.2))
  subst hcc
  have hk : ∀ (k : Nat) (x : Nat × va_E), w[k]? = some x → H1[x.1]? = H[x.1]? := fun k x hx => o1 x.1 ((hP k x hx).lt)
  refine k1 H.size cx hA H1 locs ls ((hP.kept hk).app (fun k x hx => ?_)) (hD.push hP rfl (hA _ hS.1)) ⟨Nat.le_trans hS.1 (by omega), fun x h1 h2 => (o1 x (Nat.lt_of_lt_of_le h1 hS.1)).trans (hS.2.1 x h1 h2), hS.2.2⟩ hl
  have hz : k < 1 := (List.getElem?_eq_some_iff.mp hx).1
  rw [show k = 0 by omega] at hx
  cases hx
  show H1[H.size]? = some (vp_cell _ _)
  rw [ha]
  exact e1
theorem x_new {C : String} {T : u_T} {N ci index : Nat} {fs : List Value} (hd : decode cc pc = .ok (.new index, 3)) (hin : ∀ w ∈ u_ws C T N, w ∈ big) (ty : Nat → FieldType) (hty : ∀ k, k < N → parseFieldDescriptor (T k).2.2.1 = some (ty k)) (hlk : Cond.classLink own index C ∈ big) (hinst : Cond.instantiable C N ∈ big) (hini : Cond.initialized C ∈ big) (hc : G.2.1[ci]? = some (C, T, N)) (hfs : ∀ j, j < N → defaultValue (ty j) = vp_V fs j) (hcells : kc + 1 ≤ R.cells) (hslots : ks + N ≤ R.slots)
    (k1 : ∀ q : Nat, xj E l R cc nL ret own G A mc ms post (kc + 1) (ks + N) (w ++ [(q, .inr (ci, fs))]) (pc + 3) (lv) (.ref q :: st)) : xj E l R cc nL ret own G A mc ms post kc ks w (pc) (lv) (st) := by
  intro cx hA H locs ls hP hD hS hl
  have hts := cx.2.2.2.2.2.2.1
  exact va_new cx.1 cx.2.1 hts hin ty hty cx.2.2.2.2.2.1 (hts _ hlk) (hts _ hinst) (hts _ hini) cx.2.2.2.2.2.2.2 hP hD hS hA hc hfs hcells hslots hd (fun q H1 hP hD hS => k1 q cx hA H1 locs ls hP hD hS hl)
end XJ
end
section
/-! The analysis as sets of facts: values in variables (numbers and primitives; pairs), states, flows, results -/
abbrev AX : Type := (Nat → Nat → Prop) × (Nat → Nat → Prop) × (Nat → Prop) × (Nat → Nat → Prop) × (Nat → Prop)
def ale (X Y : AX) : Prop := (∀ s b, X.1 s b → Y.1 s b) ∧ (∀ s b, X.2.1 s b → Y.2.1 s b) ∧ (∀ b, X.2.2.1 b → Y.2.2.1 b) ∧ (∀ s b, X.2.2.2.1 s b → Y.2.2.2.1 s b) ∧ (∀ b, X.2.2.2.2 b → Y.2.2.2.2 b)
theorem ale.rf (X : AX) : ale X X := ⟨fun _ _ h => h, fun _ _ h => h, fun _ h => h, fun _ _ h => h, fun _ h => h⟩
theorem ale.tr {X Y Z : AX} (h : ale X Y) (g : ale Y Z) : ale X Z := ⟨fun s b q => g.1 s b (h.1 s b q), fun s b q => g.2.1 s b (h.2.1 s b q), fun b q => g.2.2.1 b (h.2.2.1 b q), fun s b q => g.2.2.2.1 s b (h.2.2.2.1 s b q), fun b q => g.2.2.2.2 b (h.2.2.2.2 b q)⟩
theorem ale.as {X Y : AX} (h : ale X Y) (g : ale Y X) : X = Y := by
  obtain ⟨a1, a2, a3, a4, a5⟩ := X
  obtain ⟨b1, b2, b3, b4, b5⟩ := Y
  obtain ⟨h1, h2, h3, h4, h5⟩ := h
  obtain ⟨g1, g2, g3, g4, g5⟩ := g
  have e1 : a1 = b1 := funext fun s => funext fun b => propext ⟨h1 s b, g1 s b⟩
  have e2 : a2 = b2 := funext fun s => funext fun b => propext ⟨h2 s b, g2 s b⟩
  have e3 : a3 = b3 := funext fun b => propext ⟨h3 b, g3 b⟩
  have e4 : a4 = b4 := funext fun s => funext fun b => propext ⟨h4 s b, g4 s b⟩
  have e5 : a5 = b5 := funext fun b => propext ⟨h5 b, g5 b⟩
  rw [e1, e2, e3, e4, e5]
/-- the sets that the sign of growth speaks of -/
def asame (X Y : AX) : Prop := X.1 = Y.1 ∧ X.2.1 = Y.2.1 ∧ X.2.2.1 = Y.2.2.1
def afl (g : Bool) (X : AX) (g' : Bool) (Y : AX) : Prop := (g' = true → g = true ∨ ¬ ale Y X) ∧ (g' = false → g = false ∧ asame X Y)
theorem afl.rf (g : Bool) (X : AX) : afl g X g X := ⟨fun h => Or.inl h, fun h => ⟨h, rfl, rfl, rfl⟩⟩
theorem afl.tr {g g1 g2 : Bool} {X Y Z : AX} (hXY : ale X Y) (hYZ : ale Y Z) (h : afl g X g1 Y) (k : afl g1 Y g2 Z) : afl g X g2 Z := by
  refine ⟨fun e => ?_, fun e => ?_⟩
  · rcases k.1 e with e1 | n
    · rcases h.1 e1 with e2 | n
      · exact Or.inl e2
      · exact Or.inr (fun q => n (hYZ.tr q))
    · exact Or.inr (fun q => n (q.tr hXY))
  · obtain ⟨e1, s1⟩ := k.2 e
    obtain ⟨e2, s2⟩ := h.2 e1
    exact ⟨e2, s2.1.trans s1.1, s2.2.1.trans s1.2.1, s2.2.2.trans s1.2.2⟩
/-- a piece of the work: from X to Y; what is added is wanted by N; N is reached -/
def apc (N : AX → AX → Prop) (g : Bool) (X : AX) (g' : Bool) (Y : AX) : Prop := ale X Y ∧ (∀ Z, ale X Z → N Z Z → ale Y Z) ∧ N X Y ∧ afl g X g' Y
def amon (N : AX → AX → Prop) : Prop := ∀ X0 X Y Z, ale X0 X → ale Y Z → N X Y → N X0 Z
theorem apc.skip (g : Bool) (X : AX) : apc (fun _ _ => True) g X g X := ⟨ale.rf X, fun _ h _ => h, trivial, afl.rf g X⟩
theorem apc.seq {N1 N2 : AX → AX → Prop} {g g1 g2 : Bool} {X Y Z : AX} (hN1 : amon N1) (hN2 : amon N2) (h : apc N1 g X g1 Y) (k : apc N2 g1 Y g2 Z) : apc (fun X Y => N1 X Y ∧ N2 X Y) g X g2 Z :=
  ⟨h.1.tr k.1, fun V hV hN => k.2.1 V (h.2.1 V hV hN.1) hN.2, ⟨hN1 X X Y Z (ale.rf X) k.1 h.2.2.1, hN2 X Y Z Z h.1 (ale.rf Z) k.2.2.1⟩, afl.tr h.1 k.1 h.2.2.2 k.2.2.2⟩
theorem apc.conv {N M : AX → AX → Prop} {g g' : Bool} {X Y : AX} (h : apc N g X g' Y) (h1 : ∀ Z, ale X Z → M Z Z → N Z Z) (h2 : N X Y → M X Y) : apc M g X g' Y := ⟨h.1, fun Z hZ hM => h.2.1 Z hZ (h1 Z hZ hM), h2 h.2.2.1, h.2.2.2⟩
theorem amon.tt : amon (fun _ _ => True) := fun _ _ _ _ _ _ _ => trivial
theorem amon.and {N M : AX → AX → Prop} (h : amon N) (k : amon M) : amon (fun X Y => N X Y ∧ M X Y) := fun X0 X Y Z a b q => ⟨h X0 X Y Z a b q.1, k X0 X Y Z a b q.2⟩
theorem amon.imp {p : Prop} {N : AX → AX → Prop} (h : amon N) : amon (fun X Y => p → N X Y) := fun X0 X Y Z a b q hp => h X0 X Y Z a b (q hp)
theorem amon.impX {p : AX → Prop} {N : AX → AX → Prop} (hp : ∀ X Y, ale X Y → p X → p Y) (h : amon N) : amon (fun X Y => p X → N X Y) := fun X0 X Y Z a b q hp0 => h X0 X Y Z a b (q (hp X0 X a hp0))
theorem amon.all {α : Type} {N : α → AX → AX → Prop} (h : ∀ i, amon (N i)) : amon (fun X Y => ∀ i, N i X Y) := fun X0 X Y Z a b q i => h i X0 X Y Z a b (q i)
/-- a loop's pieces one behind another -/
theorem apc.next {N : Nat → AX → AX → Prop} (hN : ∀ i, amon (N i)) {g g1 g2 : Bool} {X Y Z : AX} {i : Nat} (h : apc (fun X Y => ∀ j, j < i → N j X Y) g X g1 Y) (k : apc (N i) g1 Y g2 Z) : apc (fun X Y => ∀ j, j < i + 1 → N j X Y) g X g2 Z := by
  refine apc.conv (apc.seq (amon.all (fun j => (hN j).imp)) (hN i) h k) (fun Z _ hz => ⟨fun j hj => hz j (by omega), hz i (by omega)⟩) (fun hz j hj => ?_)
  rcases Nat.lt_succ_iff_lt_or_eq.mp hj with h1 | rfl
  · exact hz.1 j h1
  · exact hz.2
theorem apc.zero {N : Nat → AX → AX → Prop} (g : Bool) (X : AX) : apc (fun X Y => ∀ j, j < 0 → N j X Y) g X g X := ⟨ale.rf X, fun _ h _ => h, fun j hj => absurd hj (Nat.not_lt_zero j), afl.rf g X⟩
/-- the place of parameter i of lambda m in contour c -/
def sl (m i c : Nat) : Nat := (m * 3 + i) * 8 + c
/-- numbers and primitives, and pairs, that atom i of lambda l means in contour c -/
def an_c (atm : Nat → Nat) (X : AX) (l c i b : Nat) : Prop := (atm (4 * l + i) < 10 ∧ b = atm (4 * l + i)) ∨ (300 ≤ atm (4 * l + i) ∧ b = atm (4 * l + i) - 290) ∨ (100 ≤ atm (4 * l + i) ∧ atm (4 * l + i) < 200 ∧ X.1 (sl ((atm (4 * l + i) - 100) / 10) ((atm (4 * l + i) - 100) % 10) c) b)
def an_p (atm : Nat → Nat) (X : AX) (l c i b : Nat) : Prop := (200 ≤ atm (4 * l + i) ∧ atm (4 * l + i) < 300 ∧ b = 8 * (atm (4 * l + i) - 200) + c) ∨ (100 ≤ atm (4 * l + i) ∧ atm (4 * l + i) < 200 ∧ X.2.1 (sl ((atm (4 * l + i) - 100) / 10) ((atm (4 * l + i) - 100) % 10) c) b)
theorem an_c.mono {atm : Nat → Nat} {l c i b : Nat} {X Y : AX} (h : ale X Y) (q : an_c atm X l c i b) : an_c atm Y l c i b := by
  rcases q with q | q | ⟨q1, q2, q3⟩
  · exact Or.inl q
  · exact Or.inr (Or.inl q)
  · exact Or.inr (Or.inr ⟨q1, q2, h.1 _ _ q3⟩)
theorem an_p.mono {atm : Nat → Nat} {l c i b : Nat} {X Y : AX} (h : ale X Y) (q : an_p atm X l c i b) : an_p atm Y l c i b := by
  rcases q with q | ⟨q1, q2, q3⟩
  · exact Or.inl q
  · exact Or.inr ⟨q1, q2, h.2.1 _ _ q3⟩
/-- the sums of the first two arguments -/
def asum (C D : Nat → Prop) (b : Nat) : Prop := ∃ x y, x < 10 ∧ y < 10 ∧ C x ∧ D y ∧ b = (x + y) % 10
theorem asum.mono {C C' D D' : Nat → Prop} {b : Nat} (h : ∀ b, C b → C' b) (k : ∀ b, D b → D' b) (q : asum C D b) : asum C' D' b := by
  obtain ⟨x, y, h1, h2, h3, h4, h5⟩ := q
  exact ⟨x, y, h1, h2, h x h3, k y h4, h5⟩
/-- lambda l, in whose call it is, calls the pair (m, e): arguments C (numbers and primitives), B (pairs) -/
def acall (anc : Nat → Nat → Prop) (prm : Nat → Nat) (l m e to : Nat) (C B : Nat → Nat → Prop) (X Y : AX) : Prop :=
  Y.2.2.2.1 l m ∧ Y.2.2.1 (8 * m + to) ∧ (∀ i, i < prm m → (∀ b, C i b → Y.1 (sl m i to) b) ∧ ∀ b, B i b → Y.2.1 (sl m i to) b) ∧ ∀ a, anc a m → ∀ i, i < prm a → (∀ b, X.1 (sl a i e) b → Y.1 (sl a i to) b) ∧ ∀ b, X.2.1 (sl a i e) b → Y.2.1 (sl a i to) b
theorem acall.amon (anc : Nat → Nat → Prop) (prm : Nat → Nat) (l m e to : Nat) (C B : Nat → Nat → Prop) : amon (acall anc prm l m e to C B) := fun X0 X Y Z a b q =>
  ⟨b.2.2.2.1 _ _ q.1, b.2.2.1 _ q.2.1, fun i hi => ⟨fun x hx => b.1 _ _ ((q.2.2.1 i hi).1 x hx), fun x hx => b.2.1 _ _ ((q.2.2.1 i hi).2 x hx)⟩, fun v hv i hi => ⟨fun x hx => b.1 _ _ ((q.2.2.2 v hv i hi).1 x (a.1 _ _ hx)), fun x hx => b.2.1 _ _ ((q.2.2.2 v hv i hi).2 x (a.2.1 _ _ hx))⟩⟩
theorem acall.less {anc : Nat → Nat → Prop} {prm : Nat → Nat} {l m e to : Nat} {C B C' B' : Nat → Nat → Prop} {X Y : AX} (h : acall anc prm l m e to C B X Y) (hC : ∀ i b, i < prm m → C' i b → C i b) (hB : ∀ i b, i < prm m → B' i b → B i b) : acall anc prm l m e to C' B' X Y :=
  ⟨h.1, h.2.1, fun i hi => ⟨fun b hb => (h.2.2.1 i hi).1 b (hC i b hi hb), fun b hb => (h.2.2.1 i hi).2 b (hB i b hi hb)⟩, h.2.2.2⟩
def acalls (cnt : Nat) (anc : Nat → Nat → Prop) (prm : Nat → Nat) (l to n : Nat) (O : Nat → Prop) (C B : Nat → Nat → Prop) (X Y : AX) : Prop := ∀ m e, m < cnt → e < 8 → O (8 * m + e) → prm m = n → acall anc prm l m e to C B X Y
theorem acalls.amon (cnt : Nat) (anc : Nat → Nat → Prop) (prm : Nat → Nat) (l to n : Nat) (O : Nat → Prop) (C B : Nat → Nat → Prop) : amon (acalls cnt anc prm l to n O C B) := fun X0 X Y Z a b q m e h1 h2 h3 h4 => acall.amon anc prm l m e to C B X0 X Y Z a b (q m e h1 h2 h3 h4)
theorem acalls.less {cnt : Nat} {anc : Nat → Nat → Prop} {prm : Nat → Nat} {l to n : Nat} {O O' : Nat → Prop} {C B C' B' : Nat → Nat → Prop} {X Y : AX} (h : acalls cnt anc prm l to n O C B X Y) (hO : ∀ b, O' b → O b) (hC : ∀ i b, i < n → C' i b → C i b) (hB : ∀ i b, i < n → B' i b → B i b) : acalls cnt anc prm l to n O' C' B' X Y := by
  intro m e h1 h2 h3 h4
  subst h4
  exact (h m e h1 h2 (hO _ h3) rfl).less hC hB
def ares (C B : Nat → Prop) (Y : AX) : Prop := (∀ b, C b → Y.2.2.2.2 b) ∧ ((∃ b, B b) → Y.2.2.2.2 13)
theorem ares.amon (C B : Nat → Prop) : amon (fun _ Y => ares C B Y) := fun _ _ _ _ _ b q => ⟨fun x hx => b.2.2.2.2 _ (q.1 x hx), fun hx => b.2.2.2.2 _ (q.2 hx)⟩
theorem ares.less {C B C' B' : Nat → Prop} {Y : AX} (h : ares C B Y) (hC : ∀ b, C' b → C b) (hB : ∀ b, B' b → B b) : ares C' B' Y := ⟨fun b hb => h.1 b (hC b hb), fun ⟨b, hb⟩ => h.2 ⟨b, hB b hb⟩⟩
def ano (_ _ : Nat) : Prop := False
/-- what the document asks for the state (l, c), the sets of atoms given: C i, B i of atom i -/
def avisS (cnt : Nat) (anc : Nat → Nat → Prop) (prm : Nat → Nat) (n to l : Nat) (C B : Nat → Nat → Prop) (X Y : AX) : Prop :=
  acalls cnt anc prm l to (n - 1) (B 0) (fun i => C (1 + i)) (fun i => B (1 + i)) X Y ∧
  (n = 2 → C 0 10 → ares (C 1) (B 1) Y) ∧
  (n = 4 → C 0 11 → (∃ b, asum (C 1) (C 2) b) → acalls cnt anc prm l to 1 (B 3) (fun _ => asum (C 1) (C 2)) ano X Y ∧ (C 3 10 → ares (asum (C 1) (C 2)) (fun _ => False) Y)) ∧
  (n = 4 → C 0 12 → C 1 0 → acalls cnt anc prm l to 0 (B 2) ano ano X Y) ∧
  (n = 4 → C 0 12 → (∃ b, 1 ≤ b ∧ b < 10 ∧ C 1 b) → acalls cnt anc prm l to 0 (B 3) ano ano X Y)
theorem avisS.amon (cnt : Nat) (anc : Nat → Nat → Prop) (prm : Nat → Nat) (n to l : Nat) (C B : Nat → Nat → Prop) : amon (avisS cnt anc prm n to l C B) := fun X0 X Y Z a b q =>
  ⟨acalls.amon _ _ _ _ _ _ _ _ _ X0 X Y Z a b q.1, fun e h => ares.amon _ _ X0 X Y Z a b (q.2.1 e h), fun e h s => ⟨acalls.amon _ _ _ _ _ _ _ _ _ X0 X Y Z a b (q.2.2.1 e h s).1, fun r => ares.amon _ _ X0 X Y Z a b ((q.2.2.1 e h s).2 r)⟩, fun e h r => acalls.amon _ _ _ _ _ _ _ _ _ X0 X Y Z a b (q.2.2.2.1 e h r), fun e h r => acalls.amon _ _ _ _ _ _ _ _ _ X0 X Y Z a b (q.2.2.2.2 e h r)⟩
theorem avisS.less {cnt : Nat} {anc : Nat → Nat → Prop} {prm : Nat → Nat} {n to l : Nat} {C B C' B' : Nat → Nat → Prop} {X Y : AX} (h : avisS cnt anc prm n to l C B X Y) (hC : ∀ i b, i ≤ n - 1 → C' i b → C i b) (hB : ∀ i b, i ≤ n - 1 → B' i b → B i b) : avisS cnt anc prm n to l C' B' X Y := by
  obtain ⟨h1, h2, h3, h4, h5⟩ := h
  refine ⟨h1.less (fun b => hB 0 b (Nat.zero_le _)) (fun i b hi => hC _ b (by omega)) (fun i b hi => hB _ b (by omega)), fun e q => ?_, fun e q s => ?_, fun e q r => ?_, fun e q s => ?_⟩
  · subst e
    exact (h2 rfl (hC _ _ (by omega) q)).less (fun b => hC 1 b (by omega)) (fun b => hB 1 b (by omega))
  · subst e
    obtain ⟨b, s⟩ := s
    have m1 : ∀ b, asum (C' 1) (C' 2) b → asum (C 1) (C 2) b := fun b s => s.mono (fun b => hC 1 b (by omega)) (fun b => hC 2 b (by omega))
    obtain ⟨g1, g2⟩ := h3 rfl (hC _ _ (by omega) q) ⟨b, m1 b s⟩
    exact ⟨g1.less (fun b => hB 3 b (by omega)) (fun _ b _ q => m1 b q) (fun _ _ _ q => q), fun r => (g2 (hC _ _ (by omega) r)).less m1 (fun _ q => q)⟩
  · subst e
    exact (h4 rfl (hC _ _ (by omega) q) (hC _ _ (by omega) r)).less (fun b => hB 2 b (by omega)) (fun _ _ _ q => q) (fun _ _ _ q => q)
  · subst e
    obtain ⟨b, b1, b2, s⟩ := s
    exact (h5 rfl (hC _ _ (by omega) q) ⟨b, b1, b2, hC _ _ (by omega) s⟩).less (fun b => hB 3 b (by omega)) (fun _ _ _ q => q) (fun _ _ _ q => q)
def avis (cnt : Nat) (anc : Nat → Nat → Prop) (prm siz atm : Nat → Nat) (k l c : Nat) (X Y : AX) : Prop :=
  avisS cnt anc prm (siz l) (if k = 1 then l else 0) l (an_c atm X l c) (an_p atm X l c) X Y
theorem avis.amon (cnt : Nat) (anc : Nat → Nat → Prop) (prm siz atm : Nat → Nat) (k l c : Nat) : amon (avis cnt anc prm siz atm k l c) := fun X0 X Y Z a b q =>
  (avisS.amon cnt anc prm (siz l) (if k = 1 then l else 0) l (an_c atm X l c) (an_p atm X l c) X0 X Y Z a b q).less (fun _ _ _ h => h.mono a) (fun _ _ _ h => h.mono a)
/-- the sets loaded at the state's begin serve -/
theorem avis.of {cnt : Nat} {anc : Nat → Nat → Prop} {prm siz atm : Nat → Nat} {k l c : Nat} {g g' : Bool} {X Y : AX} {C B : Nat → Nat → Prop} (hC : ∀ i b, i ≤ siz l - 1 → (C i b ↔ an_c atm X l c i b)) (hB : ∀ i b, i ≤ siz l - 1 → (B i b ↔ an_p atm X l c i b))
    (h : apc (avisS cnt anc prm (siz l) (if k = 1 then l else 0) l C B) g X g' Y) : apc (avis cnt anc prm siz atm k l c) g X g' Y :=
  h.conv (fun Z hZ hM => avisS.less hM (fun i b hi q => ((hC i b hi).mp q).mono hZ) (fun i b hi q => ((hB i b hi).mp q).mono hZ)) (fun hN => avisS.less hN (fun i b hi q => (hC i b hi).mpr q) (fun i b hi q => (hB i b hi).mpr q))
def aclosed (cnt : Nat) (anc : Nat → Nat → Prop) (prm siz atm : Nat → Nat) (k : Nat) (X : AX) : Prop := X.2.2.1 0 ∧ ∀ l c, l < cnt → c < 8 → X.2.2.1 (8 * l + c) → 0 < siz l → avis cnt anc prm siz atm k l c X X
def aleast (cnt : Nat) (anc : Nat → Nat → Prop) (prm siz atm : Nat → Nat) (k : Nat) (X : AX) : Prop := aclosed cnt anc prm siz atm k X ∧ ∀ Y, aclosed cnt anc prm siz atm k Y → ale X Y
theorem aleast.eq {cnt : Nat} {anc : Nat → Nat → Prop} {prm siz atm : Nat → Nat} {k : Nat} {X Y : AX} (h : aleast cnt anc prm siz atm k X) (g : aleast cnt anc prm siz atm k Y) : X = Y := ale.as (h.2 Y g.1) (g.2 X h.1)
/-- everything: the largest sets -/
def afull (cnt : Nat) : AX := (fun _ _ => True, fun _ b => b < 8 * cnt, fun b => b < 8 * cnt, fun _ _ => True, fun _ => True)
/-- atoms that are lambdas name lambdas that are there -/
def awf (cnt : Nat) (siz atm : Nat → Nat) : Prop := ∀ l i, l < cnt → i < siz l → 200 ≤ atm (4 * l + i) → atm (4 * l + i) < 300 → atm (4 * l + i) - 200 < cnt
theorem afull.calls {cnt : Nat} {anc : Nat → Nat → Prop} {prm : Nat → Nat} {l to n : Nat} {O : Nat → Prop} {C B : Nat → Nat → Prop} (ht : to < 8) (hB : ∀ i b, i < n → B i b → b < 8 * cnt) : acalls cnt anc prm l to n O C B (afull cnt) (afull cnt) := by
  intro m e hm _ _ hn
  subst hn
  exact ⟨trivial, show 8 * m + to < 8 * cnt by omega, fun i hi => ⟨fun _ _ => trivial, fun b hb => hB i b hi hb⟩, fun _ _ _ _ => ⟨fun _ _ => trivial, fun _ hb => hb⟩⟩
theorem afull.closed {cnt : Nat} {anc : Nat → Nat → Prop} {prm siz atm : Nat → Nat} {k : Nat} (h0 : 0 < cnt) (h8 : cnt ≤ 8) (hw : awf cnt siz atm) : aclosed cnt anc prm siz atm k (afull cnt) := by
  refine ⟨show 0 < 8 * cnt by omega, fun l c hl hc _ hz => ?_⟩
  have ht : (if k = 1 then l else 0) < 8 := by split <;> omega
  have hp : ∀ i b, i < siz l → an_p atm (afull cnt) l c i b → b < 8 * cnt := by
    intro i b hi q
    rcases q with ⟨q1, q2, q3⟩ | ⟨_, _, q3⟩
    · have := hw l i hl hi q1 q2
      omega
    · exact q3
  refine ⟨afull.calls ht (fun i b hi q => hp _ b (by omega) q), fun _ _ => ⟨fun _ _ => trivial, fun _ => trivial⟩, fun _ _ _ => ⟨afull.calls ht (fun _ _ _ q => q.elim), fun _ => ⟨fun _ _ => trivial, fun _ => trivial⟩⟩, fun _ _ _ => afull.calls ht (fun _ _ _ q => q.elim), fun _ _ _ => afull.calls ht (fun _ _ _ q => q.elim)⟩
theorem avisS.read {cnt : Nat} {anc : Nat → Nat → Prop} {prm : Nat → Nat} {n to l : Nat} {C B : Nat → Nat → Prop} {X X2 Y : AX} (e1 : X.1 = X2.1) (e2 : X.2.1 = X2.2.1) (h : avisS cnt anc prm n to l C B X Y) : avisS cnt anc prm n to l C B X2 Y := by
  obtain ⟨x1, x2, x3⟩ := X
  obtain ⟨z1, z2, z3⟩ := X2
  have e1 : x1 = z1 := e1
  have e2 : x2 = z2 := e2
  subst e1
  subst e2
  exact h
/-- what a pass over all states reaches -/
def apassN (cnt : Nat) (anc : Nat → Nat → Prop) (prm siz atm : Nat → Nat) (k j : Nat) (X Y : AX) : Prop := j / 8 < cnt → X.2.2.1 j → 0 < siz (j / 8) → avis cnt anc prm siz atm k (j / 8) (j % 8) X Y
theorem apassN.amon (cnt : Nat) (anc : Nat → Nat → Prop) (prm siz atm : Nat → Nat) (k j : Nat) : amon (apassN cnt anc prm siz atm k j) := fun X0 X Y Z a b q h1 h2 h3 => avis.amon cnt anc prm siz atm k (j / 8) (j % 8) X0 X Y Z a b (q h1 (a.2.2.1 j h2) h3)
/-- one pass over all states -/
theorem apass {cnt : Nat} {anc : Nat → Nat → Prop} {prm siz atm : Nat → Nat} {k : Nat} {g : Bool} {X Y : AX} (h8 : cnt ≤ 8) (h0 : X.2.2.1 0) (hX : ∀ Z, aclosed cnt anc prm siz atm k Z → ale X Z)
    (h : apc (fun X Y => ∀ j, j < 64 → apassN cnt anc prm siz atm k j X Y) false X g Y) :
    Y.2.2.1 0 ∧ (∀ Z, aclosed cnt anc prm siz atm k Z → ale Y Z) ∧ (g = true → ¬ ale Y X) ∧ (g = false → aclosed cnt anc prm siz atm k Y) := by
  refine ⟨h.1.2.2.1 0 h0, fun Z hZ => h.2.1 Z (hX Z hZ) (fun j hj h1 h2 h3 => ?_), fun e => ?_, fun e => ⟨h.1.2.2.1 0 h0, fun l c hl hc hq hz => ?_⟩⟩
  · refine hZ.2 (j / 8) (j % 8) h1 (by omega) ?_ h3
    rw [show 8 * (j / 8) + j % 8 = j by omega]
    exact h2
  · rcases h.2.2.2.1 e with q | q
    · exact absurd q (by decide)
    · exact q
  · obtain ⟨-, s1, s2, s3⟩ := h.2.2.2.2 e
    have e1 : (8 * l + c) / 8 = l := by omega
    have e2 : (8 * l + c) % 8 = c := by omega
    have hv := h.2.2.1 (8 * l + c) (by omega) (by rw [e1]; exact hl) (by rw [s3]; exact hq) (by rw [e1]; exact hz)
    rw [e1, e2] at hv
    have key : ∀ i b, (an_c atm X l c i b ↔ an_c atm Y l c i b) ∧ (an_p atm X l c i b ↔ an_p atm Y l c i b) := by
      intro i b
      unfold an_c an_p
      rw [s1, s2]
      exact ⟨Iff.rfl, Iff.rfl⟩
    exact avisS.read s1 s2 (avisS.less hv (fun i b _ q => (key i b).1.mpr q) (fun i b _ q => (key i b).2.mpr q))
/-- the sets lie in the program's rows -/
def afin (X : AX) : Prop := (∀ s b, X.1 s b → s < 192 ∧ b < 32) ∧ (∀ s b, X.2.1 s b → s < 192 ∧ b < 64) ∧ (∀ b, X.2.2.1 b → b < 64) ∧ (∀ s b, X.2.2.2.1 s b → s < 8 ∧ b < 32) ∧ (∀ b, X.2.2.2.2 b → b < 32)
noncomputable def cntP (p : Nat → Prop) : Nat → Nat
  | 0 => 0
  | n + 1 => cntP p n + @ite Nat (p n) (Classical.propDecidable (p n)) 1 0
theorem cntP.le (p : Nat → Prop) : ∀ n, cntP p n ≤ n
  | 0 => Nat.le_refl 0
  | n + 1 => by
    have h := cntP.le p n
    unfold cntP
    split <;> omega
theorem cntP.mono {p q : Nat → Prop} (h : ∀ f, p f → q f) : ∀ n, cntP p n ≤ cntP q n
  | 0 => Nat.le_refl 0
  | n + 1 => by
    have h1 := cntP.mono h n
    unfold cntP
    by_cases hp : p n
    · rw [if_pos hp, if_pos (h n hp)]
      omega
    · rw [if_neg hp]
      omega
theorem cntP.lt {p q : Nat → Prop} (h : ∀ f, p f → q f) {f : Nat} (hq : q f) (hp : ¬ p f) : ∀ n, f < n → cntP p n < cntP q n
  | 0, hf => absurd hf (Nat.not_lt_zero f)
  | n + 1, hf => by
    unfold cntP
    rcases Nat.lt_succ_iff_lt_or_eq.mp hf with h1 | h1
    · have h2 := cntP.lt h hq hp n h1
      by_cases hn : p n
      · rw [if_pos hn, if_pos (h n hn)]
        omega
      · rw [if_neg hn]
        omega
    · subst h1
      have h2 := cntP.mono h f
      rw [if_pos hq, if_neg hp]
      omega
def afact (X : AX) (f : Nat) : Prop := if f < 6144 then X.1 (f / 32) (f % 32) else if f < 18432 then X.2.1 ((f - 6144) / 64) ((f - 6144) % 64) else if f < 18496 then X.2.2.1 (f - 18432) else if f < 18752 then X.2.2.2.1 ((f - 18496) / 32) ((f - 18496) % 32) else X.2.2.2.2 (f - 18752)
theorem afact.mono {X Y : AX} (h : ale X Y) (f : Nat) (q : afact X f) : afact Y f := by
  unfold afact at q ⊢
  by_cases h1 : f < 6144
  · rw [if_pos h1] at q ⊢
    exact h.1 _ _ q
  · rw [if_neg h1] at q ⊢
    by_cases h2 : f < 18432
    · rw [if_pos h2] at q ⊢
      exact h.2.1 _ _ q
    · rw [if_neg h2] at q ⊢
      by_cases h3 : f < 18496
      · rw [if_pos h3] at q ⊢
        exact h.2.2.1 _ q
      · rw [if_neg h3] at q ⊢
        by_cases h4 : f < 18752
        · rw [if_pos h4] at q ⊢
          exact h.2.2.2.1 _ _ q
        · rw [if_neg h4] at q ⊢
          exact h.2.2.2.2 _ q
theorem afact.new {X Y : AX} (hY : afin Y) (hn : ¬ ale Y X) : ∃ f, f < 18784 ∧ afact Y f ∧ ¬ afact X f := by
  refine Classical.byContradiction (fun hx => hn ?_)
  have key : ∀ f, f < 18784 → afact Y f → afact X f := fun f hf q => Classical.byContradiction fun z => hx ⟨f, hf, q, z⟩
  refine ⟨fun s b q => ?_, fun s b q => ?_, fun b q => ?_, fun s b q => ?_, fun b q => ?_⟩
  · obtain ⟨h1, h2⟩ := hY.1 s b q
    have k := key (32 * s + b) (by omega)
    unfold afact at k
    rw [if_pos (show 32 * s + b < 6144 by omega), if_pos (show 32 * s + b < 6144 by omega), show (32 * s + b) / 32 = s by omega, show (32 * s + b) % 32 = b by omega] at k
    exact k q
  · obtain ⟨h1, h2⟩ := hY.2.1 s b q
    have k := key (6144 + (64 * s + b)) (by omega)
    unfold afact at k
    rw [if_neg (show ¬ 6144 + (64 * s + b) < 6144 by omega), if_neg (show ¬ 6144 + (64 * s + b) < 6144 by omega), if_pos (show 6144 + (64 * s + b) < 18432 by omega), if_pos (show 6144 + (64 * s + b) < 18432 by omega), show (6144 + (64 * s + b) - 6144) / 64 = s by omega, show (6144 + (64 * s + b) - 6144) % 64 = b by omega] at k
    exact k q
  · have h1 := hY.2.2.1 b q
    have k := key (18432 + b) (by omega)
    unfold afact at k
    rw [if_neg (show ¬ 18432 + b < 6144 by omega), if_neg (show ¬ 18432 + b < 6144 by omega), if_neg (show ¬ 18432 + b < 18432 by omega), if_neg (show ¬ 18432 + b < 18432 by omega), if_pos (show 18432 + b < 18496 by omega), if_pos (show 18432 + b < 18496 by omega), show 18432 + b - 18432 = b by omega] at k
    exact k q
  · obtain ⟨h1, h2⟩ := hY.2.2.2.1 s b q
    have k := key (18496 + (32 * s + b)) (by omega)
    unfold afact at k
    rw [if_neg (show ¬ 18496 + (32 * s + b) < 6144 by omega), if_neg (show ¬ 18496 + (32 * s + b) < 6144 by omega), if_neg (show ¬ 18496 + (32 * s + b) < 18432 by omega), if_neg (show ¬ 18496 + (32 * s + b) < 18432 by omega), if_neg (show ¬ 18496 + (32 * s + b) < 18496 by omega), if_neg (show ¬ 18496 + (32 * s + b) < 18496 by omega), if_pos (show 18496 + (32 * s + b) < 18752 by omega), if_pos (show 18496 + (32 * s + b) < 18752 by omega), show (18496 + (32 * s + b) - 18496) / 32 = s by omega, show (18496 + (32 * s + b) - 18496) % 32 = b by omega] at k
    exact k q
  · have h1 := hY.2.2.2.2 b q
    have k := key (18752 + b) (by omega)
    unfold afact at k
    rw [if_neg (show ¬ 18752 + b < 6144 by omega), if_neg (show ¬ 18752 + b < 6144 by omega), if_neg (show ¬ 18752 + b < 18432 by omega), if_neg (show ¬ 18752 + b < 18432 by omega), if_neg (show ¬ 18752 + b < 18496 by omega), if_neg (show ¬ 18752 + b < 18496 by omega), if_neg (show ¬ 18752 + b < 18752 by omega), if_neg (show ¬ 18752 + b < 18752 by omega), show 18752 + b - 18752 = b by omega] at k
    exact k q
/-- the state of the loop over passes, with j passes made -/
def ainv (cnt : Nat) (anc : Nat → Nat → Prop) (prm siz atm : Nat → Nat) (k j : Nat) (g : Bool) (X : AX) : Prop := afin X ∧ X.2.2.1 0 ∧ (∀ Z, aclosed cnt anc prm siz atm k Z → ale X Z) ∧ (g = true → j ≤ cntP (afact X) 18784) ∧ (g = false → aclosed cnt anc prm siz atm k X)
theorem ainv.next {cnt : Nat} {anc : Nat → Nat → Prop} {prm siz atm : Nat → Nat} {k j : Nat} {g : Bool} {X Y : AX} (h8 : cnt ≤ 8) (h : ainv cnt anc prm siz atm k j true X) (hp : apc (fun X Y => ∀ j, j < 64 → apassN cnt anc prm siz atm k j X Y) false X g Y) (hf : afin Y) : ainv cnt anc prm siz atm k (j + 1) g Y := by
  obtain ⟨-, h1, h2, h3, -⟩ := h
  obtain ⟨g1, g2, g3, g4⟩ := apass h8 h1 h2 hp
  refine ⟨hf, g1, g2, fun e => ?_, g4⟩
  obtain ⟨f, hf1, hf2, hf3⟩ := afact.new hf (g3 e)
  have := cntP.lt (fun f q => afact.mono hp.1 f q) hf2 hf3 18784 hf1
  have := h3 rfl
  omega
theorem ainv.done {cnt : Nat} {anc : Nat → Nat → Prop} {prm siz atm : Nat → Nat} {k j : Nat} {g : Bool} {X : AX} (h : ainv cnt anc prm siz atm k j g X) (hj : g = false ∨ 20000 ≤ j) : aleast cnt anc prm siz atm k X := by
  obtain ⟨-, -, h2, h3, h4⟩ := h
  rcases hj with e | e
  · exact ⟨h4 e, h2⟩
  · cases g with
    | false => exact ⟨h4 rfl, h2⟩
    | true =>
      have := h3 rfl
      have := cntP.le (afact X) 18784
      omega
theorem ainv.start {cnt : Nat} {anc : Nat → Nat → Prop} {prm siz atm : Nat → Nat} {k : Nat} {X : AX} (hf : afin X) (h0 : X.2.2.1 0) (hz : ∀ Z, Z.2.2.1 0 → ale X Z) : ainv cnt anc prm siz atm k 0 true X :=
  ⟨hf, h0, fun Z hZ => hz Z hZ.1, fun _ => Nat.zero_le _, fun e => absurd e (by decide)⟩
end
section
/-! Words as sets of bits (the first rows began as kit/laws/BITS.to-paste) -/
def bt (x : Int32) (i : Nat) : Bool := x.toBitVec.getLsbD i
theorem b_ext {x y : Int32} (h : ∀ i, i < 32 → bt x i = bt y i) : x = y := Int32.toBitVec_inj.mp (BitVec.eq_of_getLsbD_eq (fun i hi => h i hi))
theorem b_or (x y : Int32) (i : Nat) : bt (x ||| y) i = (bt x i || bt y i) := by unfold bt; rw [Int32.toBitVec_or, BitVec.getLsbD_or]
theorem b_and (x y : Int32) (i : Nat) : bt (x &&& y) i = (bt x i && bt y i) := by unfold bt; rw [Int32.toBitVec_and, BitVec.getLsbD_and]
theorem b_xor (x y : Int32) (i : Nat) : bt (x ^^^ y) i = (bt x i ^^ bt y i) := by unfold bt; rw [Int32.toBitVec_xor, BitVec.getLsbD_xor]
theorem b_big {x : Int32} {i : Nat} (h : 32 ≤ i) : bt x i = false := BitVec.getLsbD_of_ge _ _ h
theorem b_m1 : ∀ i, i < 32 → bt (-1) i = true := by decide +kernel
theorem b_0 (i : Nat) : bt 0 i = false := BitVec.getLsbD_zero
theorem s_l : ∀ n, n < 32 → ((nI n &&& 31).toBitVec.smod 32).toNat = n := by decide +kernel
theorem s_u : ∀ n, n < 32 → (((nI n).toUInt32 &&& Int32.toUInt32 31).toBitVec % 32).toNat = n := by decide +kernel
theorem b_shl (n : Nat) (hn : n < 32) (x : Int32) {i : Nat} (hi : i < 32) : bt (x <<< (nI n &&& 31)) i = (decide (n ≤ i) && bt x (i - n)) := by
  unfold bt
  rw [Int32.toBitVec_shiftLeft]
  show (x.toBitVec <<< ((nI n &&& 31).toBitVec.smod 32).toNat).getLsbD i = _
  rw [s_l n hn, BitVec.getLsbD_shiftLeft]
  rcases Nat.lt_or_ge i n with h | h
  · simp [h, Nat.not_le.mpr h]
  · simp [hi, h, Nat.not_lt.mpr h]
theorem b_ushr (n : Nat) (hn : n < 32) (x : Int32) (i : Nat) : bt ((x.toUInt32 >>> ((nI n).toUInt32 &&& Int32.toUInt32 31)).toInt32) i = bt x (n + i) := by
  show (x.toUInt32 >>> ((nI n).toUInt32 &&& Int32.toUInt32 31)).toBitVec.getLsbD i = x.toUInt32.toBitVec.getLsbD (n + i)
  rw [UInt32.toBitVec_shiftRight]
  show (x.toUInt32.toBitVec >>> (((nI n).toUInt32 &&& Int32.toUInt32 31).toBitVec % 32).toNat).getLsbD i = _
  rw [s_u n hn, BitVec.getLsbD_ushiftRight]
theorem b_sshr (n : Nat) (hn : n < 32) (x : Int32) {i : Nat} (hi : i < 32) : bt (x >>> (nI n &&& 31)) i = if n + i < 32 then bt x (n + i) else bt x 31 := by
  unfold bt
  rw [Int32.toBitVec_shiftRight]
  show (x.toBitVec.sshiftRight ((nI n &&& 31).toBitVec.smod 32).toNat).getLsbD i = _
  rw [s_l n hn, BitVec.getLsbD_sshiftRight, BitVec.msb_eq_getLsbD_last]
  simp [hi]
theorem b_1 (i : Nat) : bt 1 i = decide (i = 0) := by
  rcases Nat.lt_or_ge i 32 with h | h
  · exact (by decide +kernel : ∀ i, i < 32 → bt 1 i = decide (i = 0)) i h
  · rw [b_big h, decide_eq_false (by omega)]
theorem b_one (n : Nat) (hn : n < 32) (i : Nat) : bt (1 <<< (nI n &&& 31)) i = decide (i = n) := by
  rcases Nat.lt_or_ge i 32 with h | h
  · exact (by decide +kernel : ∀ n, n < 32 → ∀ i, i < 32 → bt (1 <<< (nI n &&& 31)) i = decide (i = n)) n hn i h
  · rw [b_big h, decide_eq_false (by omega)]
theorem b_has {x : Int32} {n : Nat} (hn : n < 32) : ((x.toUInt32 >>> ((nI n).toUInt32 &&& Int32.toUInt32 31)).toInt32 &&& 1) = 0 ↔ bt x n = false := by
  constructor
  · intro h
    have h1 := congrArg (fun y => bt y 0) h
    simp only [b_and, b_ushr n hn, b_1, b_0] at h1
    simpa using h1
  · intro h
    refine b_ext (fun i hi => ?_)
    rw [b_and, b_ushr n hn, b_1, b_0]
    by_cases e : i = 0
    · subst e
      simp [h]
    · simp [e]
theorem b_hasS {x : Int32} {n : Nat} (hn : n < 32) : (x >>> (nI n &&& 31) &&& 1) = 0 ↔ bt x n = false := by
  constructor
  · intro h
    have h1 := congrArg (fun y => bt y 0) h
    simp only [b_and, b_1, b_0] at h1
    rw [b_sshr n hn x (by omega)] at h1
    simpa [hn] using h1
  · intro h
    refine b_ext (fun i hi => ?_)
    rw [b_and, b_sshr n hn x hi, b_1, b_0]
    by_cases e : i = 0
    · subst e
      simp [h, hn]
    · simp [e]
/-- an &1 is 0 or 1 -/
theorem b_and1 (x : Int32) : (x &&& 1) = 1 ↔ ¬ (x &&& 1) = 0 := by
  have h : x &&& 1 = 0 ∨ x &&& 1 = 1 := by
    cases e : bt x 0
    · left
      refine b_ext (fun i hi => ?_)
      rw [b_and, b_1, b_0]
      by_cases z : i = 0
      · subst z; simp [e]
      · simp [z]
    · right
      refine b_ext (fun i hi => ?_)
      rw [b_and, b_1]
      by_cases z : i = 0
      · subst z; simp [e]
      · simp [z]
  rcases h with h | h <;> rw [h] <;> decide
theorem b_sub {x y : Int32} : (x &&& (y ^^^ (-1))) = 0 ↔ y ||| x = y := by
  constructor
  · intro h
    refine b_ext (fun i hi => ?_)
    have h1 := congrArg (fun z => bt z i) h
    simp only [b_and, b_xor, b_m1 i hi, b_0] at h1
    rw [b_or]
    revert h1
    cases bt x i <;> cases bt y i <;> decide
  · intro h
    refine b_ext (fun i hi => ?_)
    have h1 := congrArg (fun z => bt z i) h
    simp only [b_or] at h1
    rw [b_and, b_xor, b_m1 i hi, b_0]
    revert h1
    cases bt x i <;> cases bt y i <;> decide
/-- a set with a bit more is another set -/
theorem b_new {x y : Int32} (h : ¬ x ||| y = x) : ∃ i, i < 32 ∧ bt y i = true ∧ bt x i = false := by
  refine Classical.byContradiction (fun hn => h (b_ext (fun i hi => ?_)))
  rw [b_or]
  cases e1 : bt x i
  · cases e2 : bt y i
    · rfl
    · exact absurd ⟨i, hi, e2, e1⟩ hn
  · rfl
theorem b_old {x y : Int32} (h : x ||| y = x) {i : Nat} (hy : bt y i = true) : bt x i = true := by
  have h1 := congrArg (fun z => bt z i) h
  simp only [b_or, hy, Bool.or_true] at h1
  exact h1.symm
theorem b_lt {x : Int32} {i : Nat} (h : bt x i = true) : i < 32 := Nat.lt_of_not_le (fun q => by rw [b_big q] at h; cases h)
def bl (x : Int64) (i : Nat) : Bool := x.toBitVec.getLsbD i
theorem l_ext {x y : Int64} (h : ∀ i, i < 64 → bl x i = bl y i) : x = y := Int64.toBitVec_inj.mp (BitVec.eq_of_getLsbD_eq (fun i hi => h i hi))
theorem l_or (x y : Int64) (i : Nat) : bl (x ||| y) i = (bl x i || bl y i) := by unfold bl; rw [Int64.toBitVec_or, BitVec.getLsbD_or]
theorem l_and (x y : Int64) (i : Nat) : bl (x &&& y) i = (bl x i && bl y i) := by unfold bl; rw [Int64.toBitVec_and, BitVec.getLsbD_and]
theorem l_xor (x y : Int64) (i : Nat) : bl (x ^^^ y) i = (bl x i ^^ bl y i) := by unfold bl; rw [Int64.toBitVec_xor, BitVec.getLsbD_xor]
theorem l_big {x : Int64} {i : Nat} (h : 64 ≤ i) : bl x i = false := BitVec.getLsbD_of_ge _ _ h
theorem l_m1 : ∀ i, i < 64 → bl (-1) i = true := by decide +kernel
theorem l_0 (i : Nat) : bl 0 i = false := BitVec.getLsbD_zero
theorem l_1 (i : Nat) : bl 1 i = decide (i = 0) := by
  rcases Nat.lt_or_ge i 64 with h | h
  · exact (by decide +kernel : ∀ i, i < 64 → bl 1 i = decide (i = 0)) i h
  · rw [l_big h, decide_eq_false (by omega)]
theorem s_u64 : ∀ n, n < 64 → (((nI n).toInt64.toUInt64 &&& Int64.toUInt64 63).toBitVec % 64).toNat = n := by decide +kernel
theorem l_ushr (n : Nat) (hn : n < 64) (x : Int64) (i : Nat) : bl ((x.toUInt64 >>> ((nI n).toInt64.toUInt64 &&& Int64.toUInt64 63)).toInt64) i = bl x (n + i) := by
  show (x.toUInt64 >>> ((nI n).toInt64.toUInt64 &&& Int64.toUInt64 63)).toBitVec.getLsbD i = x.toUInt64.toBitVec.getLsbD (n + i)
  rw [UInt64.toBitVec_shiftRight]
  show (x.toUInt64.toBitVec >>> (((nI n).toInt64.toUInt64 &&& Int64.toUInt64 63).toBitVec % 64).toNat).getLsbD i = _
  rw [s_u64 n hn, BitVec.getLsbD_ushiftRight]
theorem l_one (n : Nat) (hn : n < 64) (i : Nat) : bl (1 <<< ((nI n).toInt64 &&& 63)) i = decide (i = n) := by
  rcases Nat.lt_or_ge i 64 with h | h
  · exact (by decide +kernel : ∀ n, n < 64 → ∀ i, i < 64 → bl (1 <<< ((nI n).toInt64 &&& 63)) i = decide (i = n)) n hn i h
  · rw [l_big h, decide_eq_false (by omega)]
theorem l_has {x : Int64} {n : Nat} (hn : n < 64) : ((x.toUInt64 >>> ((nI n).toInt64.toUInt64 &&& Int64.toUInt64 63)).toInt64 &&& 1) = 0 ↔ bl x n = false := by
  constructor
  · intro h
    have h1 := congrArg (fun y => bl y 0) h
    simp only [l_and, l_ushr n hn, l_1, l_0] at h1
    simpa using h1
  · intro h
    refine l_ext (fun i hi => ?_)
    rw [l_and, l_ushr n hn, l_1, l_0]
    by_cases e : i = 0
    · subst e
      simp [h]
    · simp [e]
theorem l_and1 (x : Int64) : (x &&& 1) = 1 ↔ ¬ (x &&& 1) = 0 := by
  have h : x &&& 1 = 0 ∨ x &&& 1 = 1 := by
    cases e : bl x 0
    · left
      refine l_ext (fun i hi => ?_)
      rw [l_and, l_1, l_0]
      by_cases z : i = 0
      · subst z; simp [e]
      · simp [z]
    · right
      refine l_ext (fun i hi => ?_)
      rw [l_and, l_1]
      by_cases z : i = 0
      · subst z; simp [e]
      · simp [z]
  rcases h with h | h <;> rw [h] <;> decide
theorem l_sub {x y : Int64} : (x &&& (y ^^^ (-1))) = 0 ↔ y ||| x = y := by
  constructor
  · intro h
    refine l_ext (fun i hi => ?_)
    have h1 := congrArg (fun z => bl z i) h
    simp only [l_and, l_xor, l_m1 i hi, l_0] at h1
    rw [l_or]
    revert h1
    cases bl x i <;> cases bl y i <;> decide
  · intro h
    refine l_ext (fun i hi => ?_)
    have h1 := congrArg (fun z => bl z i) h
    simp only [l_or] at h1
    rw [l_and, l_xor, l_m1 i hi, l_0]
    revert h1
    cases bl x i <;> cases bl y i <;> decide
theorem l_new {x y : Int64} (h : ¬ x ||| y = x) : ∃ i, i < 64 ∧ bl y i = true ∧ bl x i = false := by
  refine Classical.byContradiction (fun hn => h (l_ext (fun i hi => ?_)))
  rw [l_or]
  cases e1 : bl x i
  · cases e2 : bl y i
    · rfl
    · exact absurd ⟨i, hi, e2, e1⟩ hn
  · rfl
theorem l_old {x y : Int64} (h : x ||| y = x) {i : Nat} (hy : bl y i = true) : bl x i = true := by
  have h1 := congrArg (fun z => bl z i) h
  simp only [l_or, hy, Bool.or_true] at h1
  exact h1.symm
theorem l_lt {x : Int64} {i : Nat} (h : bl x i = true) : i < 64 := Nat.lt_of_not_le (fun q => by rw [l_big q] at h; cases h)
/-- the analysis's sets out of its words -/
def ofw (P : Nat → Int32) (Q : Nat → Int64) (S : Int64) (F : Nat → Int32) (R : Int32) : AX := (fun s b => s < 192 ∧ bt (P s) b = true, fun s b => s < 192 ∧ bl (Q s) b = true, fun b => bl S b = true, fun s b => s < 8 ∧ bt (F s) b = true, fun b => bt R b = true)
theorem ofw.fin (P : Nat → Int32) (Q : Nat → Int64) (S : Int64) (F : Nat → Int32) (R : Int32) : afin (ofw P Q S F R) := ⟨fun _ _ h => ⟨h.1, b_lt h.2⟩, fun _ _ h => ⟨h.1, l_lt h.2⟩, fun _ h => l_lt h, fun _ _ h => ⟨h.1, b_lt h.2⟩, fun _ h => b_lt h⟩
theorem upd_self (f : Nat → Int32) (k : Nat) (x : Int32) : upd f k x k = x := by simp [upd]
theorem upd_ne (f : Nat → Int32) {k j : Nat} (x : Int32) (h : ¬ j = k) : upd f k x j = f j := by simp [upd, h]
theorem updL_self (f : Nat → Int64) (k : Nat) (x : Int64) : vp_updL f k x k = x := by simp [vp_updL]
theorem updL_ne (f : Nat → Int64) {k j : Nat} (x : Int64) (h : ¬ j = k) : vp_updL f k x j = f j := by simp [vp_updL, h]
section OFW
variable {P : Nat → Int32} {Q : Nat → Int64} {S : Int64} {F : Nat → Int32} {R : Int32}
def awid (s : Nat) (c : Int32) (p : Int64) (_ Y : AX) : Prop := (∀ b, bt c b = true → Y.1 s b) ∧ ∀ b, bl p b = true → Y.2.1 s b
theorem awid.amon (s : Nat) (c : Int32) (p : Int64) : amon (awid s c p) := fun _ _ _ _ _ b q => ⟨fun x hx => b.1 _ _ (q.1 x hx), fun x hx => b.2.1 _ _ (q.2 x hx)⟩
theorem apc.widS {s : Nat} (hs : s < 192) {c : Int32} {p : Int64} (g : Bool) (h1 : P s ||| c = P s) (h2 : Q s ||| p = Q s) : apc (awid s c p) g (ofw P Q S F R) g (ofw P Q S F R) :=
  ⟨ale.rf _, fun _ h _ => h, ⟨fun b hb => ⟨hs, b_old h1 hb⟩, fun b hb => ⟨hs, l_old h2 hb⟩⟩, afl.rf _ _⟩
theorem apc.widN {s : Nat} (hs : s < 192) {c : Int32} {p : Int64} (g : Bool) (h : ¬ P s ||| c = P s ∨ ¬ Q s ||| p = Q s) : apc (awid s c p) g (ofw P Q S F R) true (ofw (upd P s (P s ||| c)) (vp_updL Q s (Q s ||| p)) S F R) := by
  have eP : ∀ t b, bt (upd P s (P s ||| c) t) b = true ↔ bt (P t) b = true ∨ (t = s ∧ bt c b = true) := by
    intro t b
    by_cases e : t = s
    · subst e
      rw [upd_self, b_or]
      simp
    · rw [upd_ne _ _ e]
      simp [e]
  have eQ : ∀ t b, bl (vp_updL Q s (Q s ||| p) t) b = true ↔ bl (Q t) b = true ∨ (t = s ∧ bl p b = true) := by
    intro t b
    by_cases e : t = s
    · subst e
      rw [updL_self, l_or]
      simp
    · rw [updL_ne _ _ e]
      simp [e]
  refine ⟨⟨fun t b q => ⟨q.1, (eP t b).mpr (Or.inl q.2)⟩, fun t b q => ⟨q.1, (eQ t b).mpr (Or.inl q.2)⟩, fun _ q => q, fun _ _ q => q, fun _ q => q⟩, fun Z hZ hN => ⟨fun t b q => ?_, fun t b q => ?_, hZ.2.2.1, hZ.2.2.2.1, hZ.2.2.2.2⟩, ⟨fun b hb => ⟨hs, (eP s b).mpr (Or.inr ⟨rfl, hb⟩)⟩, fun b hb => ⟨hs, (eQ s b).mpr (Or.inr ⟨rfl, hb⟩)⟩⟩, fun _ => Or.inr (fun hY => ?_), fun e => absurd e (by decide)⟩
  · rcases (eP t b).mp q.2 with h1 | ⟨rfl, h1⟩
    · exact hZ.1 t b ⟨q.1, h1⟩
    · exact hN.1 b h1
  · rcases (eQ t b).mp q.2 with h1 | ⟨rfl, h1⟩
    · exact hZ.2.1 t b ⟨q.1, h1⟩
    · exact hN.2 b h1
  · rcases h with h | h
    · obtain ⟨i, -, h1, h2⟩ := b_new h
      have := (hY.1 s i ⟨hs, (eP s i).mpr (Or.inr ⟨rfl, h1⟩)⟩).2
      rw [h2] at this
      cases this
    · obtain ⟨i, -, h1, h2⟩ := l_new h
      have := (hY.2.1 s i ⟨hs, (eQ s i).mpr (Or.inr ⟨rfl, h1⟩)⟩).2
      rw [h2] at this
      cases this
def asta (q : Nat) (_ Y : AX) : Prop := Y.2.2.1 q
theorem asta.amon (q : Nat) : amon (asta q) := fun _ _ _ _ _ b h => b.2.2.1 _ h
theorem apc.staS {q : Nat} (g : Bool) (h : bl S q = true) : apc (asta q) g (ofw P Q S F R) g (ofw P Q S F R) := ⟨ale.rf _, fun _ h _ => h, h, afl.rf _ _⟩
theorem apc.staN {q : Nat} (hq : q < 64) (g : Bool) {v : Int64} (hv : ∀ i, bl v i = decide (i = q)) (h : bl S q = false) : apc (asta q) g (ofw P Q S F R) true (ofw P Q (S ||| v) F R) := by
  have e : ∀ i, bl (S ||| v) i = true ↔ bl S i = true ∨ i = q := by
    intro i
    rw [l_or, hv]
    simp
  refine ⟨⟨fun _ _ q => q, fun _ _ q => q, fun b q => (e b).mpr (Or.inl q), fun _ _ q => q, fun _ q => q⟩, fun Z hZ hN => ⟨hZ.1, hZ.2.1, fun b q => ?_, hZ.2.2.2.1, hZ.2.2.2.2⟩, (e q).mpr (Or.inr rfl), fun _ => Or.inr (fun hY => ?_), fun z => absurd z (by decide)⟩
  · rcases (e b).mp q with h1 | rfl
    · exact hZ.2.2.1 b h1
    · exact hN
  · have := hY.2.2.1 q ((e q).mpr (Or.inr rfl))
    have h2 : bl S q = true := this
    rw [h] at h2
    cases h2
def aflo (l m : Nat) (_ Y : AX) : Prop := Y.2.2.2.1 l m
theorem aflo.amon (l m : Nat) : amon (aflo l m) := fun _ _ _ _ _ b h => b.2.2.2.1 _ _ h
theorem apc.flo {l m : Nat} (hl : l < 8) (g g' : Bool) {v : Int32} (hv : ∀ i, bt v i = decide (i = m)) (hg : g' = g ∨ (g' = true ∧ bt (F l) m = false)) : apc (aflo l m) g (ofw P Q S F R) g' (ofw P Q S (upd F l (F l ||| v)) R) := by
  have e : ∀ t i, bt (upd F l (F l ||| v) t) i = true ↔ bt (F t) i = true ∨ (t = l ∧ i = m) := by
    intro t i
    by_cases e : t = l
    · subst e
      rw [upd_self, b_or, hv]
      simp
    · rw [upd_ne _ _ e]
      simp [e]
  refine ⟨⟨fun _ _ q => q, fun _ _ q => q, fun _ q => q, fun t b q => ⟨q.1, (e t b).mpr (Or.inl q.2)⟩, fun _ q => q⟩, fun Z hZ hN => ⟨hZ.1, hZ.2.1, hZ.2.2.1, fun t b q => ?_, hZ.2.2.2.2⟩, ⟨hl, (e l m).mpr (Or.inr ⟨rfl, rfl⟩)⟩, fun z => ?_, fun z => ?_⟩
  · rcases (e t b).mp q.2 with h1 | ⟨rfl, rfl⟩
    · exact hZ.2.2.2.1 t b ⟨q.1, h1⟩
    · exact hN
  · rcases hg with hg | ⟨_, hg⟩
    · exact Or.inl (hg ▸ z)
    · refine Or.inr (fun hY => ?_)
      have := (hY.2.2.2.1 l m ⟨hl, (e l m).mpr (Or.inr ⟨rfl, rfl⟩)⟩).2
      rw [hg] at this
      cases this
  · rcases hg with hg | ⟨hg, _⟩
    · exact ⟨hg ▸ z, rfl, rfl, rfl⟩
    · rw [hg] at z
      cases z
def aans (C : Nat → Prop) (_ Y : AX) : Prop := ∀ b, C b → Y.2.2.2.2 b
theorem aans.amon (C : Nat → Prop) : amon (aans C) := fun _ _ _ _ _ b h x hx => b.2.2.2.2 _ (h x hx)
theorem apc.ans (g g' : Bool) {v : Int32} (hg : g' = g ∨ (g' = true ∧ ¬ R ||| v = R)) : apc (aans (fun b => bt v b = true)) g (ofw P Q S F R) g' (ofw P Q S F (R ||| v)) := by
  have e : ∀ i, bt (R ||| v) i = true ↔ bt R i = true ∨ bt v i = true := by
    intro i
    rw [b_or]
    simp
  refine ⟨⟨fun _ _ q => q, fun _ _ q => q, fun _ q => q, fun _ _ q => q, fun b q => (e b).mpr (Or.inl q)⟩, fun Z hZ hN => ⟨hZ.1, hZ.2.1, hZ.2.2.1, hZ.2.2.2.1, fun b q => ?_⟩, fun b hb => (e b).mpr (Or.inr hb), fun z => ?_, fun z => ?_⟩
  · rcases (e b).mp q with h1 | h1
    · exact hZ.2.2.2.2 b h1
    · exact hN b h1
  · rcases hg with hg | ⟨_, hg⟩
    · exact Or.inl (hg ▸ z)
    · refine Or.inr (fun hY => ?_)
      obtain ⟨i, -, h1, h2⟩ := b_new hg
      have h3 : bt R i = true := hY.2.2.2.2 i ((e i).mpr (Or.inr h1))
      rw [h2] at h3
      cases h3
  · rcases hg with hg | ⟨hg, _⟩
    · exact ⟨hg ▸ z, rfl, rfl, rfl⟩
    · rw [hg] at z
      cases z
end OFW
end
section
/-! Programs and the machine, as numbers -/
def un (f : Nat → Nat) (k x : Nat) : Nat → Nat := fun j => if j = k then x else f j
theorem un_self (f : Nat → Nat) (k x : Nat) : un f k x k = x := by simp [un]
theorem un_ne (f : Nat → Nat) {k j : Nat} (x : Nat) (h : ¬ j = k) : un f k x j = f j := by simp [un, h]
theorem upd_nI (f : Nat → Nat) (k x : Nat) : upd (fun j => nI (f j)) k (nI x) = fun j => nI (un f k x j) := by
  funext j
  by_cases h : j = k
  · subst h
    rw [upd_self, un_self]
  · rw [upd_ne _ _ h, un_ne _ _ h]
theorem nI_inj {a b : Nat} (ha : a < 2147483648) (hb : b < 2147483648) (h : nI a = nI b) : a = b := (nI_eq ha hb).mp h
def pa (par : Nat → Int32) (l : Nat) : Nat := (par l).toNatClampNeg
def chn (f : Nat → Nat) : Nat → Nat → Nat
  | 0, l => l
  | k + 1, l => chn f k (f l)
theorem chn_0 (f : Nat → Nat) (l : Nat) : chn f 0 l = l := rfl
theorem chn_s (f : Nat → Nat) (k l : Nat) : chn f (k + 1) l = chn f k (f l) := rfl
/-- a is l or around l -/
def aos (par : Nat → Int32) (a l : Nat) : Prop := ∃ k, chn (pa par) k l = a
theorem aos.self (par : Nat → Int32) (l : Nat) : aos par l l := ⟨0, rfl⟩
theorem aos.step {par : Nat → Int32} {a l : Nat} (h : aos par a l) : a = l ∨ aos par a (pa par l) := by
  obtain ⟨k, h⟩ := h
  cases k with
  | zero => exact Or.inl h.symm
  | succ k => exact Or.inr ⟨k, h⟩
theorem aos.up {par : Nat → Int32} {a l : Nat} (h : aos par a (pa par l)) : aos par a l := by
  obtain ⟨k, h⟩ := h
  exact ⟨k + 1, h⟩
/-- the parents: lambda 0 has none, every other one's is older -/
def parok (cnt : Nat) (par : Nat → Int32) : Prop := par 0 = -1 ∧ ∀ l, 0 < l → l < cnt → ∃ a, a < l ∧ par l = nI a
theorem pa_zero {cnt : Nat} {par : Nat → Int32} (h : parok cnt par) : pa par 0 = 0 := by
  unfold pa
  rw [h.1]
  decide
theorem pa_of {par : Nat → Int32} {l a : Nat} (ha : a < 2147483648) (h : par l = nI a) : pa par l = a := by
  unfold pa
  rw [h]
  exact nI_clamp ha
theorem pa_lt {cnt : Nat} {par : Nat → Int32} (h : parok cnt par) (h8 : cnt ≤ 8) {l : Nat} (h0 : 0 < l) (hl : l < cnt) : pa par l < l ∧ par l = nI (pa par l) := by
  obtain ⟨a, h1, h2⟩ := h.2 l h0 hl
  rw [pa_of (by omega) h2]
  exact ⟨h1, h2⟩
theorem aos.zero {cnt : Nat} {par : Nat → Int32} (h : parok cnt par) {a : Nat} (q : aos par a 0) : a = 0 := by
  obtain ⟨k, q⟩ := q
  induction k with
  | zero => exact q.symm
  | succ k ih =>
    rw [chn_s, pa_zero h] at q
    exact ih q
theorem aos.le {cnt : Nat} {par : Nat → Int32} (h : parok cnt par) (h8 : cnt ≤ 8) : ∀ (l a : Nat), l < cnt → aos par a l → a ≤ l := by
  intro l
  induction l using Nat.strongRecOn with
  | ind l ih =>
    intro a hl q
    rcases Nat.eq_zero_or_pos l with h0 | h0
    · subst h0
      rw [aos.zero h q]
      exact Nat.le_refl 0
    · rcases q.step with e | q
      · exact e ▸ Nat.le_refl _
      · have h1 := (pa_lt h h8 h0 hl).1
        have := ih _ h1 a (by omega) q
        omega
theorem aos.root {cnt : Nat} {par : Nat → Int32} (h : parok cnt par) (h8 : cnt ≤ 8) : ∀ (l : Nat), l < cnt → aos par 0 l := by
  intro l
  induction l using Nat.strongRecOn with
  | ind l ih =>
    intro hl
    rcases Nat.eq_zero_or_pos l with h0 | h0
    · subst h0
      exact aos.self par 0
    · have h1 := (pa_lt h h8 h0 hl).1
      exact (ih _ h1 (by omega)).up
theorem pa_upd {cnt : Nat} {par : Nat → Int32} (x : Int32) {l : Nat} (hl : l < cnt) : pa (upd par cnt x) l = pa par l := by
  unfold pa
  rw [upd_ne par x (Nat.ne_of_lt hl)]
theorem pa_cnt {cnt : Nat} {par : Nat → Int32} (h : parok cnt par) (h8 : cnt ≤ 8) {l : Nat} (hl : l < cnt) : pa par l < cnt := by
  rcases Nat.eq_zero_or_pos l with h0 | h0
  · rw [h0, pa_zero h, ← h0]
    exact hl
  · exact Nat.lt_trans (pa_lt h h8 h0 hl).1 hl
theorem chn_upd {cnt : Nat} {par : Nat → Int32} (h : parok cnt par) (h8 : cnt ≤ 8) (x : Int32) (k : Nat) : ∀ l : Nat, l < cnt → chn (pa (upd par cnt x)) k l = chn (pa par) k l := by
  induction k with
  | zero =>
    intro l _
    rw [chn_0, chn_0]
  | succ k ih =>
    intro l hl
    rw [chn_s, chn_s, pa_upd x hl]
    exact ih (pa par l) (pa_cnt h h8 hl)
/-- a new lambda's row doesn't touch what is around older ones -/
theorem aos_upd {cnt : Nat} {par : Nat → Int32} (h : parok cnt par) (h8 : cnt ≤ 8) (x : Int32) (l a : Nat) (hl : l < cnt) : aos (upd par cnt x) a l ↔ aos par a l := by
  constructor
  · intro q
    obtain ⟨k, q⟩ := q
    exact ⟨k, (chn_upd h h8 x k l hl).symm.trans q⟩
  · intro q
    obtain ⟨k, q⟩ := q
    exact ⟨k, (chn_upd h h8 x k l hl).trans q⟩
/-- an atom that may stand in lambda l -/
def aok (cnt : Nat) (par : Nat → Int32) (prm : Nat → Nat) (l a : Nat) : Prop := a < 10 ∨ (300 ≤ a ∧ a ≤ 302) ∨ (100 ≤ a ∧ a < 180 ∧ (a - 100) / 10 < cnt ∧ (a - 100) % 10 < prm ((a - 100) / 10) ∧ aos par ((a - 100) / 10) l) ∨ (200 ≤ a ∧ a < 208 ∧ 0 < a - 200 ∧ a - 200 < cnt ∧ par (a - 200) = nI l)
/-- a program -/
def pwf (cnt : Nat) (par : Nat → Int32) (prm siz atm : Nat → Nat) : Prop := 1 ≤ cnt ∧ cnt ≤ 8 ∧ parok cnt par ∧ (∀ l, l < 8 → prm l ≤ 3) ∧ prm 0 = 0 ∧ (∀ l, l < 8 → siz l ≤ 4) ∧ ∀ l i, l < cnt → i < siz l → aok cnt par prm l (atm (4 * l + i))
def linok (cnt : Nat) (par lin : Nat → Int32) : Prop := ∀ l a, l < cnt → a < 32 → (bt (lin l) a = true ↔ aos par a l)
theorem pwf.awf {cnt : Nat} {par : Nat → Int32} {prm siz atm : Nat → Nat} (h : pwf cnt par prm siz atm) : awf cnt siz atm := by
  intro l i hl hi h1 h2
  rcases h.2.2.2.2.2.2 l i hl hi with q | q | q | q <;> omega
/-- a fresh program: one lambda, without a call -/
theorem pwf.new (par : Nat → Int32) (prm siz atm : Nat → Nat) (h : par 0 = -1) (hp : ∀ l, l < 8 → prm l ≤ 3) (hp0 : prm 0 = 0) (hs : ∀ l, l < 8 → siz l ≤ 4) (hs0 : siz 0 = 0) : pwf 1 par prm siz atm := by
  refine ⟨Nat.le_refl 1, by omega, ⟨h, fun l h0 h1 => by omega⟩, hp, hp0, hs, fun l i hl hi => ?_⟩
  have : l = 0 := by omega
  subst this
  omega
theorem pwf.lam {cnt : Nat} {par : Nat → Int32} {prm siz atm : Nat → Nat} (h : pwf cnt par prm siz atm) (hc : cnt < 8) {p k : Nat} (hp : p < cnt) (hk : k ≤ 3) : pwf (cnt + 1) (upd par cnt (nI p)) (un prm cnt k) (un siz cnt 0) atm := by
  obtain ⟨h1, h2, h3, h4, h5, h6, h7⟩ := h
  refine ⟨by omega, by omega, ⟨?_, fun l l0 l1 => ?_⟩, fun l hl => ?_, ?_, fun l hl => ?_, fun l i hl hi => ?_⟩
  · rw [upd_ne _ _ (by omega)]
    exact h3.1
  · by_cases e : l = cnt
    · subst e
      exact ⟨p, hp, upd_self _ _ _⟩
    · rw [upd_ne _ _ e]
      exact h3.2 l l0 (by omega)
  · by_cases e : l = cnt
    · subst e
      rw [un_self]
      exact hk
    · rw [un_ne _ _ e]
      exact h4 l hl
  · rw [un_ne _ _ (by omega)]
    exact h5
  · by_cases e : l = cnt
    · subst e
      rw [un_self]
      omega
    · rw [un_ne _ _ e]
      exact h6 l hl
  · by_cases e : l = cnt
    · subst e
      rw [un_self] at hi
      omega
    · rw [un_ne _ _ e] at hi
      have hl' : l < cnt := by omega
      rcases h7 l i hl' hi with q | q | ⟨q1, q2, q3, q4, q5⟩ | ⟨q1, q2, q3, q4, q5⟩
      · exact Or.inl q
      · exact Or.inr (Or.inl q)
      · refine Or.inr (Or.inr (Or.inl ⟨q1, q2, by omega, ?_, (aos_upd h3 h2 (nI p) l _ hl').mpr q5⟩))
        rw [un_ne _ _ (by omega)]
        exact q4
      · refine Or.inr (Or.inr (Or.inr ⟨q1, q2, q3, by omega, ?_⟩))
        rw [upd_ne _ _ (by omega)]
        exact q5
theorem linok.lam {cnt : Nat} {par lin : Nat → Int32} (hp : parok cnt par) (hl : linok cnt par lin) (hc : cnt < 8) {p : Nat} (h : p < cnt) : linok (cnt + 1) (upd par cnt (nI p)) (upd lin cnt (lin p ||| 1 <<< (nI cnt &&& 31))) := by
  intro l a h1 h2
  by_cases e : l = cnt
  · subst e
    rw [upd_self, b_or, b_one l (by omega)]
    have e1 : pa (upd par l (nI p)) l = p := pa_of (by omega) (upd_self _ _ _)
    have e2 := aos_upd hp (by omega) (nI p) p a h
    have e3 := hl p a h h2
    constructor
    · intro q
      rcases Bool.or_eq_true_iff.mp q with q | q
      · refine aos.up ?_
        rw [e1]
        exact e2.mpr (e3.mp q)
      · rw [of_decide_eq_true q]
        exact aos.self _ _
    · intro q
      rcases q.step with q | q
      · rw [q]
        simp
      · rw [e1] at q
        rw [e3.mpr (e2.mp q)]
        rfl
  · rw [upd_ne _ _ e, aos_upd hp (by omega) (nI p) l a (by omega)]
    exact hl l a (by omega) h2
theorem pwf.put {cnt : Nat} {par : Nat → Int32} {prm siz atm : Nat → Nat} (h : pwf cnt par prm siz atm) {l a : Nat} (hl : l < cnt) (hs : siz l < 4) (ha : aok cnt par prm l a) : pwf cnt par prm (un siz l (siz l + 1)) (un atm (4 * l + siz l) a) := by
  obtain ⟨h1, h2, h3, h4, h5, h6, h7⟩ := h
  refine ⟨h1, h2, h3, h4, h5, fun m hm => ?_, fun m i hm hi => ?_⟩
  · by_cases e : m = l
    · subst e
      rw [un_self]
      omega
    · rw [un_ne _ _ e]
      exact h6 m hm
  · have hz := h6 m (by omega)
    by_cases e : m = l
    · subst e
      rw [un_self] at hi
      by_cases e2 : i = siz m
      · subst e2
        rw [un_self]
        exact ha
      · rw [un_ne _ _ (by omega)]
        exact h7 m i hm (by omega)
    · rw [un_ne _ _ e] at hi
      rw [un_ne _ _ (by omega)]
      exact h7 m i hm hi
theorem pwf.clr {cnt : Nat} {par : Nat → Int32} {prm siz atm : Nat → Nat} (h : pwf cnt par prm siz atm) : pwf 1 par prm (un siz 0 0) atm := by
  obtain ⟨h1, h2, h3, h4, h5, h6, h7⟩ := h
  refine pwf.new par prm (un siz 0 0) atm h3.1 h4 h5 (fun l hl => ?_) (un_self _ _ _)
  by_cases e : l = 0
  · subst e
    rw [un_self]
    omega
  · rw [un_ne _ _ e]
    exact h6 l hl
theorem linok.one {cnt : Nat} {par lin : Nat → Int32} (h : linok cnt par lin) (h1 : 1 ≤ cnt) : linok 1 par lin := fun l a hl ha => h l a (by omega) ha
/-- the environment in which a parameter of lam is found, from e outwards -/
def mf (own out : Nat → Nat) (lam : Nat) : Nat → Nat → Option Nat
  | 0, _ => none
  | f + 1, e => if own e = lam then some e else mf own out lam f (out e)
/-- a value: a number, a primitive, or a closure as 200 + its lambda + 1000 times its environment -/
def vok (cnt : Nat) (par : Nat → Int32) (n : Nat) (own : Nat → Nat) (v : Nat) : Prop := v < 10 ∨ (300 ≤ v ∧ v ≤ 302) ∨ (200 ≤ v % 1000 ∧ v % 1000 < 208 ∧ 0 < v % 1000 - 200 ∧ v % 1000 - 200 < cnt ∧ v / 1000 ≤ n ∧ par (v % 1000 - 200) = nI (own (v / 1000)))
def mwf (cnt : Nat) (par : Nat → Int32) (prm : Nat → Nat) (n : Nat) (own out bnd : Nat → Nat) : Prop := n ≤ 64 ∧ own 0 = 0 ∧ out 0 = 0 ∧ (∀ j, 0 < j → j ≤ n → 0 < own j ∧ own j < cnt ∧ out j < j ∧ par (own j) = nI (own (out j))) ∧ ∀ j i, j ≤ n → i < prm (own j) → vok cnt par n own (bnd (3 * j + i))
theorem mwf.own_lt {cnt : Nat} {par : Nat → Int32} {prm : Nat → Nat} {n : Nat} {own out bnd : Nat → Nat} (h : mwf cnt par prm n own out bnd) (h1 : 1 ≤ cnt) {j : Nat} (hj : j ≤ n) : own j < cnt := by
  rcases Nat.eq_zero_or_pos j with e | e
  · subst e
    rw [h.2.1]
    omega
  · exact (h.2.2.2.1 j e hj).2.1
theorem mwf.own_fall {cnt : Nat} {par : Nat → Int32} {prm : Nat → Nat} {n : Nat} {own out bnd : Nat → Nat} (h : mwf cnt par prm n own out bnd) (hp : parok cnt par) (h8 : cnt ≤ 8) (h1 : 1 ≤ cnt) {j : Nat} (h0 : 0 < j) (hj : j ≤ n) : own (out j) < own j ∧ pa par (own j) = own (out j) ∧ out j < j := by
  obtain ⟨a1, a2, a3, a4⟩ := h.2.2.2.1 j h0 hj
  have a5 := h.own_lt h1 (j := out j) (by omega)
  have e := pa_of (by omega) a4
  have := (pa_lt hp h8 a1 a2).1
  exact ⟨by omega, e, a3⟩
theorem mf_zero {own out : Nat → Nat} (h0 : out 0 = 0) {lam : Nat} (h : ¬ own 0 = lam) : ∀ f, mf own out lam f 0 = none
  | 0 => rfl
  | f + 1 => by
    unfold mf
    rw [if_neg h, h0]
    exact mf_zero h0 h f
theorem mf_some {cnt : Nat} {par : Nat → Int32} {prm : Nat → Nat} {n : Nat} {own out bnd : Nat → Nat} (h : mwf cnt par prm n own out bnd) {lam : Nat} : ∀ (f e e' : Nat), e ≤ n → mf own out lam f e = some e' → e' ≤ e ∧ own e' = lam
  | 0, _, _, _, q => by cases q
  | f + 1, e, e', he, q => by
    unfold mf at q
    by_cases z : own e = lam
    · rw [if_pos z] at q
      cases q
      exact ⟨Nat.le_refl _, z⟩
    · rw [if_neg z] at q
      have ho : out e ≤ e := by
        rcases Nat.eq_zero_or_pos e with e0 | e0
        · subst e0
          rw [h.2.2.1]
          exact Nat.le_refl 0
        · exact Nat.le_of_lt (h.2.2.2.1 e e0 he).2.2.1
      obtain ⟨g1, g2⟩ := mf_some h f (out e) e' (by omega) q
      exact ⟨by omega, g2⟩
theorem mf_found {cnt : Nat} {par : Nat → Int32} {prm : Nat → Nat} {n : Nat} {own out bnd : Nat → Nat} (h : mwf cnt par prm n own out bnd) (hp : parok cnt par) (h8 : cnt ≤ 8) (h1 : 1 ≤ cnt) {lam : Nat} : ∀ (f e : Nat), e ≤ n → own e < f → aos par lam (own e) → ∃ e', mf own out lam f e = some e'
  | 0, _, _, q, _ => absurd q (Nat.not_lt_zero _)
  | f + 1, e, he, hf, q => by
    unfold mf
    by_cases z : own e = lam
    · rw [if_pos z]
      exact ⟨e, rfl⟩
    · rw [if_neg z]
      rcases Nat.eq_zero_or_pos e with e0 | e0
      · subst e0
        rw [h.2.1] at q z
        exact absurd (aos.zero hp q).symm z
      · obtain ⟨g1, g2, g3⟩ := h.own_fall hp h8 h1 e0 he
        rcases q.step with q | q
        · exact absurd q.symm z
        · rw [g2] at q
          exact mf_found h hp h8 h1 f (out e) (by omega) (by omega) q
/-- what an atom means -/
def mval (n : Nat) (own out bnd : Nat → Nat) (a : Nat) : Nat := if 100 ≤ a ∧ a < 180 then (match mf own out ((a - 100) / 10) 8 n with | some e => bnd (3 * e + (a - 100) % 10) | none => 0) else if 200 ≤ a ∧ a < 208 then n * 1000 + a else a
theorem mval.ok {cnt : Nat} {par : Nat → Int32} {prm : Nat → Nat} {n : Nat} {own out bnd : Nat → Nat} (h : mwf cnt par prm n own out bnd) (hp : parok cnt par) (h8 : cnt ≤ 8) (h1 : 1 ≤ cnt) {a : Nat} (ha : aok cnt par prm (own n) a) : vok cnt par n own (mval n own out bnd a) := by
  unfold mval
  rcases ha with q | q | ⟨q1, q2, q3, q4, q5⟩ | ⟨q1, q2, q3, q4, q5⟩
  · rw [if_neg (by omega), if_neg (by omega)]
    exact Or.inl q
  · rw [if_neg (by omega), if_neg (by omega)]
    exact Or.inr (Or.inl q)
  · rw [if_pos ⟨q1, q2⟩]
    have ho := h.own_lt h1 (Nat.le_refl n)
    obtain ⟨e, he⟩ := mf_found h hp h8 h1 8 n (Nat.le_refl n) (by omega) q5
    obtain ⟨e1, e2⟩ := mf_some h 8 n e (Nat.le_refl n) he
    rw [he]
    exact h.2.2.2.2 e _ e1 (by rw [e2]; exact q4)
  · rw [if_neg (by omega), if_pos ⟨q1, q2⟩]
    have e1 : (n * 1000 + a) % 1000 = a := by omega
    have e2 : (n * 1000 + a) / 1000 = n := by omega
    refine Or.inr (Or.inr ?_)
    rw [e1, e2]
    exact ⟨q1, q2, q3, q4, Nat.le_refl n, q5⟩
/-- what applying f to k arguments, the first x, comes to: (2, lambda, environment, k, x), (1, .., the outcome x), (0, ..): stuck -/
def mdir (prm : Nat → Nat) (f k x : Nat) : Nat × Nat × Nat × Nat × Nat := if (200 ≤ f % 1000 ∧ f % 1000 < 208) ∧ prm (f % 1000 - 200) = k then (2, f % 1000 - 200, f / 1000, k, x) else if f = 300 ∧ k = 1 then (1, 0, 0, k, x) else (0, 0, 0, 0, 0)
def mact (prm : Nat → Nat) (len : Nat) (o : Nat → Nat) : Nat × Nat × Nat × Nat × Nat :=
  if len = 0 then (0, 0, 0, 0, 0) else if (len = 4 ∧ o 1 < 10) ∧ o 0 = 302 then mdir prm (if o 1 = 0 then o 2 else o 3) 0 (o 1) else if ((len = 4 ∧ o 1 < 10) ∧ o 0 = 301) ∧ o 2 < 10 then mdir prm (o 3) 1 ((o 1 + o 2) % 10) else mdir prm (o 0) (len - 1) (o 1)
/-- k values from place b on -/
def bst (bnd : Nat → Nat) (b : Nat) (f : Nat → Nat) : Nat → Nat → Nat
  | 0 => bnd
  | k + 1 => un (bst bnd b f k) (b + k) (f k)
theorem bst_out {bnd : Nat → Nat} {b : Nat} {f : Nat → Nat} {j : Nat} : ∀ k, (j < b ∨ b + k ≤ j) → bst bnd b f k j = bnd j
  | 0, _ => rfl
  | k + 1, h => by
    show un (bst bnd b f k) (b + k) (f k) j = bnd j
    rw [un_ne _ _ (by omega)]
    exact bst_out k (by omega)
theorem bst_in {bnd : Nat → Nat} {b : Nat} {f : Nat → Nat} {i : Nat} : ∀ k, i < k → bst bnd b f k (b + i) = f i
  | 0, h => absurd h (Nat.not_lt_zero i)
  | k + 1, h => by
    show un (bst bnd b f k) (b + k) (f k) (b + i) = f i
    by_cases e : i = k
    · subst e
      rw [un_self]
    · rw [un_ne _ _ (by omega)]
      exact bst_in k (by omega)
/-- the machine: applied closures, owners, outers, bindings, called sets, phase, outcome -/
abbrev AM : Type := Nat × (Nat → Nat) × (Nat → Nat) × (Nat → Nat) × (Nat → Int32) × Nat × Nat
def mops (atm : Nat → Nat) (s : AM) (i : Nat) : Nat := mval s.1 s.2.1 s.2.2.1 s.2.2.2.1 (atm (4 * s.2.1 s.1 + i))
/-- the first argument changed -/
def mar (o : Nat → Nat) (x i : Nat) : Nat := if i = 0 then x else o (1 + i)
end
section
/-! The number of bits of a long: the JDK's way and by counting -/
def mk8 (c : Nat) : Nat → Nat
  | 0 => 0
  | n + 1 => c + 256 * mk8 c n
theorem and8 {a r m M : Nat} (ha : a < 256) (hm : m < 256) : (a + 256 * r) &&& (m + 256 * M) = (a &&& m) + 256 * (r &&& M) := by
  have h1 : ((a + 256 * r) &&& (m + 256 * M)) % 2 ^ 8 = (a &&& m) := by
    rw [Nat.and_mod_two_pow]
    have e1 : (a + 256 * r) % 2 ^ 8 = a := by omega
    have e2 : (m + 256 * M) % 2 ^ 8 = m := by omega
    rw [e1, e2]
  have h2 : ((a + 256 * r) &&& (m + 256 * M)) / 2 ^ 8 = (r &&& M) := by
    rw [Nat.and_div_two_pow]
    have e1 : (a + 256 * r) / 2 ^ 8 = r := by omega
    have e2 : (m + 256 * M) / 2 ^ 8 = M := by omega
    rw [e1, e2]
  omega
def q1 (n X : Nat) : Nat := X - ((X / 2) &&& mk8 85 n)
def q2 (n X : Nat) : Nat := (X &&& mk8 51 n) + ((X / 4) &&& mk8 51 n)
def q3 (n X : Nat) : Nat := (X + X / 16) &&& mk8 15 n
def st1 (a : Nat) : Nat := a - ((a / 2) &&& 85)
def st2 (a : Nat) : Nat := (a &&& 51) + ((a / 4) &&& 51)
/-- bits of a number below n -/
def popN (X : Nat) : Nat → Nat
  | 0 => 0
  | n + 1 => popN X n + X / 2 ^ n % 2
theorem st_ok : ∀ a, a < 256 → st1 a < 256 ∧ st2 (st1 a) ≤ 68 ∧ st2 (st1 a) % 16 ≤ 4 ∧ (∀ t, t < 5 → (st2 (st1 a) + st2 (st1 a) / 16 + 16 * t) &&& 15 = popN a 8) ∧ popN a 8 ≤ 8 := by decide +kernel
theorem q1_step {n a r : Nat} (ha : a < 256) : q1 (n + 1) (a + 256 * r) = st1 a + 256 * q1 n r := by
  have e : (a + 256 * r) / 2 = (a / 2 + 128 * (r % 2)) + 256 * (r / 2) := by omega
  have k : ∀ t, t < 2 → ∀ a, a < 256 → (a / 2 + 128 * t) &&& 85 = (a / 2) &&& 85 := by decide +kernel
  have e2 : (a + 256 * r) / 2 &&& mk8 85 (n + 1) = ((a / 2) &&& 85) + 256 * ((r / 2) &&& mk8 85 n) := by
    rw [e]
    show _ &&& (85 + 256 * mk8 85 n) = _
    rw [and8 (by omega) (by omega), k (r % 2) (by omega) a ha]
  have h1 : (a / 2) &&& 85 ≤ a / 2 := Nat.and_le_left
  have h2 : (r / 2) &&& mk8 85 n ≤ r / 2 := Nat.and_le_left
  unfold q1 st1
  rw [e2]
  omega
theorem q2_step {n a r : Nat} (ha : a < 256) : q2 (n + 1) (a + 256 * r) = st2 a + 256 * q2 n r := by
  have e : (a + 256 * r) / 4 = (a / 4 + 64 * (r % 4)) + 256 * (r / 4) := by omega
  have k : ∀ t, t < 4 → ∀ a, a < 256 → (a / 4 + 64 * t) &&& 51 = (a / 4) &&& 51 := by decide +kernel
  have e2 : (a + 256 * r) / 4 &&& mk8 51 (n + 1) = ((a / 4) &&& 51) + 256 * ((r / 4) &&& mk8 51 n) := by
    rw [e]
    show _ &&& (51 + 256 * mk8 51 n) = _
    rw [and8 (by omega) (by omega), k (r % 4) (by omega) a ha]
  have e3 : (a + 256 * r) &&& mk8 51 (n + 1) = (a &&& 51) + 256 * (r &&& mk8 51 n) := and8 ha (by omega)
  unfold q2 st2
  rw [e2, e3]
  omega
theorem q12_low : ∀ (n X : Nat), q2 n (q1 n X) % 16 ≤ 4
  | 0, X => by
    unfold q2
    show ((q1 0 X &&& 0) + (q1 0 X / 4 &&& 0)) % 16 ≤ 4
    rw [Nat.and_zero, Nat.and_zero]
    omega
  | n + 1, X => by
    have e : X = X % 256 + 256 * (X / 256) := by omega
    obtain ⟨h1, h2, h3, -⟩ := st_ok (X % 256) (by omega)
    rw [e, q1_step (by omega), q2_step h1]
    omega
theorem q3_step {n a r : Nat} (ha : a < 256) (hr : r % 16 ≤ 4) : q3 (n + 1) (st2 (st1 a) + 256 * r) = popN a 8 + 256 * q3 n r := by
  obtain ⟨h1, h2, h3, h4, -⟩ := st_ok a ha
  generalize st2 (st1 a) = z at *
  have e : z + 256 * r + (z + 256 * r) / 16 = (z + z / 16 + 16 * (r % 16)) + 256 * (r + r / 16) := by omega
  unfold q3
  rw [e]
  show _ &&& (15 + 256 * mk8 15 n) = _
  rw [and8 (by omega) (by omega), h4 (r % 16) (by omega)]
def vbytes (X : Nat) : Nat → Nat
  | 0 => 0
  | n + 1 => popN (X % 256) 8 + 256 * vbytes (X / 256) n
theorem q_bytes : ∀ (n X : Nat), q3 n (q2 n (q1 n X)) = vbytes X n
  | 0, X => by
    unfold q3
    show _ &&& 0 = 0
    rw [Nat.and_zero]
  | n + 1, X => by
    have e : X = X % 256 + 256 * (X / 256) := by omega
    have h1 := (st_ok (X % 256) (by omega)).1
    have e2 : q2 (n + 1) (q1 (n + 1) X) = st2 (st1 (X % 256)) + 256 * q2 n (q1 n (X / 256)) := by
      conv => lhs; rw [e]
      rw [q1_step (by omega), q2_step h1]
    rw [e2, q3_step (by omega) (q12_low n _), q_bytes n (X / 256)]
    rfl
theorem popN_add (X m : Nat) : ∀ n, popN X (m + n) = popN X m + popN (X / 2 ^ m) n
  | 0 => rfl
  | n + 1 => by
    show popN X (m + n) + X / 2 ^ (m + n) % 2 = popN X m + (popN (X / 2 ^ m) n + X / 2 ^ m / 2 ^ n % 2)
    rw [popN_add X m n, Nat.div_div_eq_div_mul, ← Nat.pow_add]
    omega
theorem popN_mod (X : Nat) : ∀ n k, n ≤ k → popN (X % 2 ^ k) n = popN X n
  | 0, _, _ => rfl
  | n + 1, k, h => by
    show popN (X % 2 ^ k) n + X % 2 ^ k / 2 ^ n % 2 = popN X n + X / 2 ^ n % 2
    rw [popN_mod X n k (by omega)]
    congr 1
    have e : 2 ^ k = 2 ^ n * 2 ^ (k - n) := by rw [← Nat.pow_add]; congr 1; omega
    have h2 : 2 ^ (k - n) = 2 * 2 ^ (k - n - 1) := by rw [← Nat.pow_succ']; congr 1; omega
    rw [e, Nat.mod_mul_right_div_self, h2, Nat.mod_mul_right_mod]
end
section
/-! The class's cells: its state as numbers, words and rows -/
/-- program: parents, paramCounts, lineages, callLengths, atoms, count; machine: owners, outers, bindings, calledSets, operands, applied, phase, outcome; analysis: constantSets, pairSets, operandConstants, operandPairs, flowSets, states, outcomes, visited, newContour, grown, made -/
def wC (ad : Nat → Nat) (cI cL : ClassId) (par : Nat → Int32) (prm : Nat → Nat) (lin : Nat → Int32) (siz atm : Nat → Nat) (cnt : Nat) (own out bnd : Nat → Nat) (cal : Nat → Int32) (opr : Nat → Nat) (n ph oc : Nat) (P : Nat → Int32) (Q : Nat → Int64) (OC : Nat → Int32) (OP : Nat → Int64) (F : Nat → Int32) (S : Int64) (R : Int32) (vis nc : Nat) (gr md : Bool) : va_W :=
  [(ad 0, .inr (3, [.ref (ad 1), .ref (ad 2), .ref (ad 3)])),
   (ad 1, .inr (2, [.ref (ad 4), .ref (ad 5), .ref (ad 6), .ref (ad 7), .ref (ad 8), .int (nI cnt)])),
   (ad 2, .inr (1, [.ref (ad 1), .ref (ad 9), .ref (ad 10), .ref (ad 11), .ref (ad 12), .ref (ad 13), .int (nI n), .int (nI ph), .int (nI oc)])),
   (ad 3, .inr (0, [.ref (ad 1), .ref (ad 14), .ref (ad 15), .ref (ad 16), .ref (ad 17), .ref (ad 18), .long S, .int R, .int (nI vis), .int (nI nc), .int (bI gr), .int (bI md)])),
   (ad 4, .inl (cI, 8, .inl par)),
   (ad 5, .inl (cI, 8, .inl (fun j => nI (prm j)))),
   (ad 6, .inl (cI, 8, .inl lin)),
   (ad 7, .inl (cI, 8, .inl (fun j => nI (siz j)))),
   (ad 8, .inl (cI, 32, .inl (fun j => nI (atm j)))),
   (ad 9, .inl (cI, 65, .inl (fun j => nI (own j)))),
   (ad 10, .inl (cI, 65, .inl (fun j => nI (out j)))),
   (ad 11, .inl (cI, 195, .inl (fun j => nI (bnd j)))),
   (ad 12, .inl (cI, 8, .inl cal)),
   (ad 13, .inl (cI, 4, .inl (fun j => nI (opr j)))),
   (ad 14, .inl (cI, 192, .inl P)),
   (ad 15, .inl (cL, 192, .inr (.inl Q))),
   (ad 16, .inl (cI, 5, .inl OC)),
   (ad 17, .inl (cL, 5, .inr (.inl OP))),
   (ad 18, .inl (cI, 8, .inl F))]
abbrev gG (D : va_G) (cI cL : ClassId) : XG := (D, cls5, [(cI, .int), (cL, .long)])
abbrev rmm (f lc : Nat) : Room := { frames := f, cells := 0, slots := 0, locals := lc }
/-- is x a lambda; has it a parameter, an atom i -/
def hl (cnt : Nat) (x : Int32) : Bool := decide (0 ≤ x ∧ x < nI cnt)
def hpr (cnt : Nat) (f : Nat → Nat) (x i : Int32) : Bool := hl cnt x && decide (0 ≤ i ∧ i < nI (f x.toNatClampNeg))
theorem hl_of {cnt : Nat} {x : Int32} (hc : cnt ≤ 8) (h : hl cnt x = true) : ∃ l, l < cnt ∧ x = nI l := by
  have h1 := of_decide_eq_true h
  obtain ⟨j, hj, e⟩ := nI_of (x := x) (fun q => by rw [Int32.lt_iff_toInt_lt] at q; have := Int32.le_iff_toInt_le.mp h1.1; omega)
  subst e
  exact ⟨j, (nI_ltI hj (by omega)).mp h1.2, rfl⟩
theorem hl_in {cnt l : Nat} (hc : cnt ≤ 8) (h : l < cnt) : hl cnt (nI l) = true := decide_eq_true ⟨nI_pos' (by omega), (nI_ltI (by omega) (by omega)).mpr h⟩
theorem hpr_nI {cnt l : Nat} {f : Nat → Nat} {i : Int32} (hc : cnt ≤ 8) (h : l < cnt) : hpr cnt f (nI l) i = decide (0 ≤ i ∧ i < nI (f l)) := by
  unfold hpr
  rw [hl_in hc h, nI_clamp (by omega)]
  rfl
theorem hpr_of {cnt : Nat} {f : Nat → Nat} {x i : Int32} (hc : cnt ≤ 8) (hf : ∀ l, l < 8 → f l ≤ 4) (h : hpr cnt f x i = true) : ∃ l j, l < cnt ∧ j < f l ∧ x = nI l ∧ i = nI j := by
  unfold hpr at h
  obtain ⟨h1, h2⟩ := Bool.and_eq_true_iff.mp h
  obtain ⟨l, hl1, rfl⟩ := hl_of hc h1
  rw [nI_clamp (by omega)] at h2
  have h3 := of_decide_eq_true h2
  obtain ⟨j, hj, e⟩ := nI_of (x := i) (fun q => by rw [Int32.lt_iff_toInt_lt] at q; have := Int32.le_iff_toInt_le.mp h3.1; omega)
  subst e
  have := hf l (by omega)
  exact ⟨l, j, hl1, (nI_ltI hj (by omega)).mp h3.2, rfl, rfl⟩
/-- a truth told as 1 or 0 -/
theorem zt {b : Bool} {w : va_W} (h : b = true) : pI (bI b) w (some (.int (nI 1))) w := ⟨by rw [h]; rfl, rfl⟩
theorem zf {b : Bool} {w : va_W} (h : b = false) : pI (bI b) w (some (.int (nI 0))) w := ⟨by rw [h]; rfl, rfl⟩
section XU
variable {E : XE} {l : Launch} {R : Room} {cc : ByteArray} {nL : Nat} {ret : Option FieldType} {own : String} {G : XG} {A : Nat → Prop} {mc ms : Nat} {post : Option Value → va_W → Prop} {kc ks : Nat} {w : va_W} {pc : Nat} {lv : List (Nat × Value)} {st : List Value}
/-- a store of a number into a row of numbers -/
theorem x_iastU {cA : ClassId} {n a : Nat} {f : Nat → Nat} {i x : Nat} (hd : decode cc pc = .ok (.iastore, 1)) (q0 t0 : Nat) (ha : w[q0]? = some (a, .inl (cA, n, .inl (fun j => nI (f j))))) (ht : G.2.2[t0]? = some (cA, .int)) (hn : n < 2147483648) (hi : i < n) (k1 : xj E l R cc nL ret own G A mc ms post kc ks (w.set q0 (a, .inl (cA, n, .inl (fun j => nI (un f i x j))))) (pc + 1) lv st) : xj E l R cc nL ret own G A mc ms post kc ks w pc lv (.int (nI x) :: .int (nI i) :: .ref a :: st) :=
  x_iastN hd q0 t0 ha ht hn hi _ (by rw [upd_nI]) k1
end XU
theorem k3_of {y : Int32} (h1 : ¬ y < 0) (h2 : ¬ nI 3 < y) : ∃ k, k ≤ 3 ∧ y = nI k := by
  obtain ⟨j, hj, e⟩ := nI_of h1
  subst e
  exact ⟨j, Nat.le_of_not_lt (fun q => h2 ((nI_ltI (by omega) hj).mpr q)), rfl⟩
/-- an atom may stand there -/
def mso (cnt : Nat) (par : Nat → Int32) (prm : Nat → Nat) (l : Nat) (x : Int32) : Prop := ∃ a, a < 1000 ∧ x = nI a ∧ aok cnt par prm l a
noncomputable def mst (cnt : Nat) (par : Nat → Int32) (prm : Nat → Nat) (l : Nat) (x : Int32) : Bool := @decide (mso cnt par prm l x) (Classical.propDecidable _)
theorem mst_t {cnt : Nat} {par : Nat → Int32} {prm : Nat → Nat} {l : Nat} {x : Int32} (h : mso cnt par prm l x) : mst cnt par prm l x = true := @decide_eq_true _ (Classical.propDecidable _) h
theorem mst_f {cnt : Nat} {par : Nat → Int32} {prm : Nat → Nat} {l : Nat} {x : Int32} (h : ¬ mso cnt par prm l x) : mst cnt par prm l x = false := @decide_eq_false _ (Classical.propDecidable _) h
theorem mst_of {cnt : Nat} {par : Nat → Int32} {prm : Nat → Nat} {l : Nat} {x : Int32} (h : mst cnt par prm l x = true) : mso cnt par prm l x := @of_decide_eq_true _ (Classical.propDecidable _) h
theorem mst_no {cnt : Nat} {par : Nat → Int32} {prm : Nat → Nat} {l : Nat} {x : Int32} (h : mst cnt par prm l x = false) : ¬ mso cnt par prm l x := @of_decide_eq_false _ (Classical.propDecidable _) h
/-- lambda(x, y) makes one; put(x, y) puts one -/
def lamok (cnt : Nat) (x y : Int32) (p k : Nat) : Prop := cnt < 8 ∧ p < cnt ∧ k ≤ 3 ∧ x = nI p ∧ y = nI k
def putok (cnt : Nat) (par : Nat → Int32) (prm siz : Nat → Nat) (x y : Int32) (l a : Nat) : Prop := l < cnt ∧ siz l < 4 ∧ a < 1000 ∧ aok cnt par prm l a ∧ x = nI l ∧ y = nI a
theorem lo_of {x : Int32} {a b : Nat} (hb : b < 2147483648) (h : decide (nI a ≤ x ∧ x < nI b) = true) (ha : a < 2147483648) : ∃ j, a ≤ j ∧ j < b ∧ x = nI j := by
  have h1 := of_decide_eq_true h
  have h2 := Int32.le_iff_toInt_le.mp h1.1
  rw [nI_toInt ha] at h2
  obtain ⟨j, hj, e⟩ := nI_of (x := x) (fun q => by rw [Int32.lt_iff_toInt_lt] at q; have z : (0 : Int32).toInt = 0 := by decide
                                                   omega)
  subst e
  exact ⟨j, (nI_leI ha hj).mp h1.1, (nI_ltI hj hb).mp h1.2, rfl⟩
theorem lo_in {j a b : Nat} (hb : b < 2147483648) (h1 : a ≤ j) (h2 : j < b) : decide (nI a ≤ nI j ∧ nI j < nI b) = true := decide_eq_true ⟨(nI_leI (by omega) (by omega)).mpr h1, (nI_ltI (by omega) hb).mpr h2⟩
theorem lo_no {j a b : Nat} (hj : j < 2147483648) (ha : a < 2147483648) (hb : b < 2147483648) (h : ¬ (a ≤ j ∧ j < b)) : decide (nI a ≤ nI j ∧ nI j < nI b) = false := decide_eq_false (fun q => h ⟨(nI_leI ha hj).mp q.1, (nI_ltI hj hb).mp q.2⟩)
theorem le_of {x : Int32} {a b : Nat} (hb : b < 2147483647) (h : decide (nI a ≤ x ∧ x ≤ nI b) = true) (ha : a < 2147483648) : ∃ j, a ≤ j ∧ j ≤ b ∧ x = nI j := by
  have h1 := of_decide_eq_true h
  have h2 := Int32.le_iff_toInt_le.mp h1.1
  rw [nI_toInt ha] at h2
  obtain ⟨j, hj, e⟩ := nI_of (x := x) (fun q => by rw [Int32.lt_iff_toInt_lt] at q; have z : (0 : Int32).toInt = 0 := by decide
                                                   omega)
  subst e
  exact ⟨j, (nI_leI ha hj).mp h1.1, (nI_leI hj (by omega)).mp h1.2, rfl⟩
theorem lo_nI {j a b : Nat} (hj : j < 2147483648) (ha : a < 2147483648) (hb : b < 2147483648) : decide (nI a ≤ nI j ∧ nI j < nI b) = decide (a ≤ j ∧ j < b) := by
  rw [decide_eq_decide, nI_leI ha hj, nI_ltI hj hb]
theorem le_nI {j a b : Nat} (hj : j < 2147483648) (ha : a < 2147483648) (hb : b < 2147483648) : decide (nI a ≤ nI j ∧ nI j ≤ nI b) = decide (a ≤ j ∧ j ≤ b) := by
  rw [decide_eq_decide, nI_leI ha hj, nI_leI hj hb]
theorem hl_nI {cnt j : Nat} (hc : cnt ≤ 8) (hj : j < 2147483648) : hl cnt (nI j) = decide (j < cnt) := by
  unfold hl
  rw [decide_eq_decide]
  exact ⟨fun q => (nI_ltI hj (by omega)).mp q.2, fun q => ⟨nI_pos' hj, (nI_ltI hj (by omega)).mpr q⟩⟩
theorem hpr_nn {cnt l j : Nat} {f : Nat → Nat} (hc : cnt ≤ 8) (hf : ∀ l, l < 8 → f l ≤ 4) (hl1 : l < 2147483648) (hj : j < 2147483648) : hpr cnt f (nI l) (nI j) = decide (l < cnt ∧ j < f l) := by
  unfold hpr
  rw [hl_nI hc hl1, nI_clamp hl1]
  by_cases h : l < cnt
  · have := hf l (by omega)
    rw [decide_eq_true h, Bool.true_and, decide_eq_decide]
    exact ⟨fun q => ⟨h, (nI_ltI hj (by omega)).mp q.2⟩, fun q => ⟨nI_pos' hj, (nI_ltI hj (by omega)).mpr q.2⟩⟩
  · rw [decide_eq_false h, Bool.false_and]
    exact (decide_eq_false (fun q => h q.1)).symm
theorem m1_ne {l : Nat} (h : l < 2147483648) : ¬ (-1 : Int32) = nI l := by
  intro e
  have := congrArg Int32.toInt e
  rw [nI_toInt h] at this
  have z : (-1 : Int32).toInt = -1 := by decide
  omega
section MSO
variable {cnt : Nat} {par : Nat → Int32} {prm : Nat → Nat} {l : Nat}
theorem mso_par {b : Nat} (h1 : 100 ≤ b) (h2 : b < 180) : mso cnt par prm l (nI b) ↔ (b - 100) / 10 < cnt ∧ (b - 100) % 10 < prm ((b - 100) / 10) ∧ aos par ((b - 100) / 10) l := by
  constructor
  · intro q
    obtain ⟨a, ha, e, h⟩ := q
    have e2 := nI_inj (by omega) (by omega) e
    subst e2
    rcases h with q | q | ⟨_, _, q1, q2, q3⟩ | q
    · omega
    · omega
    · exact ⟨q1, q2, q3⟩
    · omega
  · intro q
    exact ⟨b, by omega, rfl, Or.inr (Or.inr (Or.inl ⟨h1, h2, q⟩))⟩
theorem mso_lam {b : Nat} (hp : par 0 = -1) (hl : l < 8) (h1 : 200 ≤ b) (h2 : b < 208) : mso cnt par prm l (nI b) ↔ b - 200 < cnt ∧ par (b - 200) = nI l := by
  constructor
  · intro q
    obtain ⟨a, ha, e, h⟩ := q
    have e2 := nI_inj (by omega) (by omega) e
    subst e2
    rcases h with q | q | q | ⟨_, _, _, q1, q2⟩
    · omega
    · omega
    · omega
    · exact ⟨q1, q2⟩
  · intro q
    refine ⟨b, by omega, rfl, Or.inr (Or.inr (Or.inr ⟨h1, h2, Nat.pos_of_ne_zero (fun z => ?_), q⟩))⟩
    rw [z, hp] at q
    exact m1_ne (by omega) q.2
theorem mso_oth {x : Int32} (h1 : decide (nI 100 ≤ x ∧ x < nI 180) = false) (h2 : decide (nI 200 ≤ x ∧ x < nI 208) = false) : mso cnt par prm l x ↔ decide (nI 0 ≤ x ∧ x < nI 10) = true ∨ decide (nI 300 ≤ x ∧ x ≤ nI 302) = true := by
  constructor
  · intro q
    obtain ⟨a, ha, e, h⟩ := q
    subst e
    rw [lo_nI (by omega) (by omega) (by omega)] at *
    rw [le_nI (by omega) (by omega) (by omega)]
    have k1 := of_decide_eq_false h1
    have k2 := of_decide_eq_false h2
    rcases h with q | q | q | q
    · exact Or.inl (decide_eq_true ⟨by omega, q⟩)
    · exact Or.inr (decide_eq_true q)
    · exact absurd ⟨q.1, q.2.1⟩ k1
    · exact absurd ⟨q.1, q.2.1⟩ k2
  · intro q
    rcases q with q | q
    · obtain ⟨j, _, j2, e⟩ := lo_of (by omega) q (by omega)
      exact ⟨j, by omega, e, Or.inl j2⟩
    · obtain ⟨j, j1, j2, e⟩ := le_of (by omega) q (by omega)
      exact ⟨j, by omega, e, Or.inr (Or.inl ⟨j1, j2⟩)⟩
theorem mst_eq {x : Int32} {p : Prop} (hd : Decidable p) (h : mso cnt par prm l x ↔ p) : mst cnt par prm l x = decide p := by
  by_cases q : p
  · rw [mst_t (h.mpr q), decide_eq_true q]
  · rw [mst_f (fun z => q (h.mp z)), decide_eq_false q]
end MSO
end
section
section PROG
variable {l : Launch} {D : va_G} {ad : Nat → Nat} {cI cL : ClassId}
set_option maxHeartbeats 4000000 in
set_option maxRecDepth 100000 in
theorem t_C_isNumber {w : va_W} {x : Int32} : CT l y_C_isNumber c_C_isNumber 1 (some .boolean) (rmm 0 0) (gG D cI cL) [.int x] w (pI (bI (decide (nI 0 ≤ x ∧ x < nI 10))) w) := by
  refine CT.of R_C (by decide) rfl (Nat.le_of_ble_eq_true rfl) ?_
  intro E A hname
  refine x_iload_n (pc := 0) d_C_isNumber_0 0 rfl ?_
  refine x_if_lt (pc := 1) (tgt := 14) d_C_isNumber_1 rfl ?_ ?_
  · intro h1
    refine x_iconst (pc := 14) (nI 0) d_C_isNumber_14 (by decide) ?_
    refine x_zret (pc := 15) d_C_isNumber_15 rfl (by first | rfl | exact bI_narrow _) ?_
    rw [nI_0]
    first | exact zt (by simp_all [← Int32.not_lt]) | exact zf (by simp_all [← Int32.not_lt])
  · intro h1
    refine x_iload_n (pc := 4) d_C_isNumber_4 0 rfl ?_
    refine x_bipush (pc := 5) (nI 10) d_C_isNumber_5 (by decide) ?_
    first | refine x_icmp_geN (pc := 7) (tgt := 14) d_C_isNumber_7 rfl (by omega) (by omega) ?_ ?_ | refine x_icmp_ge (pc := 7) (tgt := 14) d_C_isNumber_7 rfl ?_ ?_
    · intro h7
      refine x_iconst (pc := 14) (nI 0) d_C_isNumber_14 (by decide) ?_
      refine x_zret (pc := 15) d_C_isNumber_15 rfl (by first | rfl | exact bI_narrow _) ?_
      rw [nI_0]
      first | exact zt (by simp_all [← Int32.not_lt]) | exact zf (by simp_all [← Int32.not_lt])
    · intro h7
      refine x_iconst (pc := 10) (nI 1) d_C_isNumber_10 (by decide) ?_
      refine x_goto (pc := 11) (tgt := 15) d_C_isNumber_11 rfl ?_
      refine x_zret (pc := 15) d_C_isNumber_15 rfl (by first | rfl | exact bI_narrow _) ?_
      rw [nI_0]
      first | exact zt (by simp_all [← Int32.not_lt]) | exact zf (by simp_all [← Int32.not_lt])
set_option maxHeartbeats 4000000 in
set_option maxRecDepth 100000 in
theorem t_C_isPrimitive {w : va_W} {x : Int32} : CT l y_C_isPrimitive c_C_isPrimitive 1 (some .boolean) (rmm 0 0) (gG D cI cL) [.int x] w (pI (bI (decide (nI 300 ≤ x ∧ x ≤ nI 302))) w) := by
  refine CT.of R_C (by decide) rfl (Nat.le_of_ble_eq_true rfl) ?_
  intro E A hname
  refine x_iload_n (pc := 0) d_C_isPrimitive_0 0 rfl ?_
  refine x_sipush (pc := 1) (nI 300) d_C_isPrimitive_1 (by decide) ?_
  first | refine x_icmp_ltN (pc := 4) (tgt := 18) d_C_isPrimitive_4 rfl (by omega) (by omega) ?_ ?_ | refine x_icmp_lt (pc := 4) (tgt := 18) d_C_isPrimitive_4 rfl ?_ ?_
  · intro h4
    refine x_iconst (pc := 18) (nI 0) d_C_isPrimitive_18 (by decide) ?_
    refine x_zret (pc := 19) d_C_isPrimitive_19 rfl (by first | rfl | exact bI_narrow _) ?_
    first | exact zt (by simp_all [← Int32.not_lt]) | exact zf (by simp_all [← Int32.not_lt])
  · intro h4
    refine x_iload_n (pc := 7) d_C_isPrimitive_7 0 rfl ?_
    refine x_sipush (pc := 8) (nI 302) d_C_isPrimitive_8 (by decide) ?_
    first | refine x_icmp_gtN (pc := 11) (tgt := 18) d_C_isPrimitive_11 rfl (by omega) (by omega) ?_ ?_ | refine x_icmp_gt (pc := 11) (tgt := 18) d_C_isPrimitive_11 rfl ?_ ?_
    · intro h11
      refine x_iconst (pc := 18) (nI 0) d_C_isPrimitive_18 (by decide) ?_
      refine x_zret (pc := 19) d_C_isPrimitive_19 rfl (by first | rfl | exact bI_narrow _) ?_
      first | exact zt (by simp_all [← Int32.not_lt]) | exact zf (by simp_all [← Int32.not_lt])
    · intro h11
      refine x_iconst (pc := 14) (nI 1) d_C_isPrimitive_14 (by decide) ?_
      refine x_goto (pc := 15) (tgt := 19) d_C_isPrimitive_15 rfl ?_
      refine x_zret (pc := 19) d_C_isPrimitive_19 rfl (by first | rfl | exact bI_narrow _) ?_
      first | exact zt (by simp_all [← Int32.not_lt]) | exact zf (by simp_all [← Int32.not_lt])
set_option maxHeartbeats 4000000 in
set_option maxRecDepth 100000 in
theorem t_C_isParameter {w : va_W} {x : Int32} : CT l y_C_isParameter c_C_isParameter 1 (some .boolean) (rmm 0 0) (gG D cI cL) [.int x] w (pI (bI (decide (nI 100 ≤ x ∧ x < nI 180))) w) := by
  refine CT.of R_C (by decide) rfl (Nat.le_of_ble_eq_true rfl) ?_
  intro E A hname
  refine x_iload_n (pc := 0) d_C_isParameter_0 0 rfl ?_
  refine x_bipush (pc := 1) (nI 100) d_C_isParameter_1 (by decide) ?_
  first | refine x_icmp_ltN (pc := 3) (tgt := 17) d_C_isParameter_3 rfl (by omega) (by omega) ?_ ?_ | refine x_icmp_lt (pc := 3) (tgt := 17) d_C_isParameter_3 rfl ?_ ?_
  · intro h3
    refine x_iconst (pc := 17) (nI 0) d_C_isParameter_17 (by decide) ?_
    refine x_zret (pc := 18) d_C_isParameter_18 rfl (by first | rfl | exact bI_narrow _) ?_
    first | exact zt (by simp_all [← Int32.not_lt]) | exact zf (by simp_all [← Int32.not_lt])
  · intro h3
    refine x_iload_n (pc := 6) d_C_isParameter_6 0 rfl ?_
    refine x_sipush (pc := 7) (nI 180) d_C_isParameter_7 (by decide) ?_
    first | refine x_icmp_geN (pc := 10) (tgt := 17) d_C_isParameter_10 rfl (by omega) (by omega) ?_ ?_ | refine x_icmp_ge (pc := 10) (tgt := 17) d_C_isParameter_10 rfl ?_ ?_
    · intro h10
      refine x_iconst (pc := 17) (nI 0) d_C_isParameter_17 (by decide) ?_
      refine x_zret (pc := 18) d_C_isParameter_18 rfl (by first | rfl | exact bI_narrow _) ?_
      first | exact zt (by simp_all [← Int32.not_lt]) | exact zf (by simp_all [← Int32.not_lt])
    · intro h10
      refine x_iconst (pc := 13) (nI 1) d_C_isParameter_13 (by decide) ?_
      refine x_goto (pc := 14) (tgt := 18) d_C_isParameter_14 rfl ?_
      refine x_zret (pc := 18) d_C_isParameter_18 rfl (by first | rfl | exact bI_narrow _) ?_
      first | exact zt (by simp_all [← Int32.not_lt]) | exact zf (by simp_all [← Int32.not_lt])
set_option maxHeartbeats 4000000 in
set_option maxRecDepth 100000 in
theorem t_C_isLambda {w : va_W} {x : Int32} : CT l y_C_isLambda c_C_isLambda 1 (some .boolean) (rmm 0 0) (gG D cI cL) [.int x] w (pI (bI (decide (nI 200 ≤ x ∧ x < nI 208))) w) := by
  refine CT.of R_C (by decide) rfl (Nat.le_of_ble_eq_true rfl) ?_
  intro E A hname
  refine x_iload_n (pc := 0) d_C_isLambda_0 0 rfl ?_
  refine x_sipush (pc := 1) (nI 200) d_C_isLambda_1 (by decide) ?_
  first | refine x_icmp_ltN (pc := 4) (tgt := 18) d_C_isLambda_4 rfl (by omega) (by omega) ?_ ?_ | refine x_icmp_lt (pc := 4) (tgt := 18) d_C_isLambda_4 rfl ?_ ?_
  · intro h4
    refine x_iconst (pc := 18) (nI 0) d_C_isLambda_18 (by decide) ?_
    refine x_zret (pc := 19) d_C_isLambda_19 rfl (by first | rfl | exact bI_narrow _) ?_
    first | exact zt (by simp_all [← Int32.not_lt]) | exact zf (by simp_all [← Int32.not_lt])
  · intro h4
    refine x_iload_n (pc := 7) d_C_isLambda_7 0 rfl ?_
    refine x_sipush (pc := 8) (nI 208) d_C_isLambda_8 (by decide) ?_
    first | refine x_icmp_geN (pc := 11) (tgt := 18) d_C_isLambda_11 rfl (by omega) (by omega) ?_ ?_ | refine x_icmp_ge (pc := 11) (tgt := 18) d_C_isLambda_11 rfl ?_ ?_
    · intro h11
      refine x_iconst (pc := 18) (nI 0) d_C_isLambda_18 (by decide) ?_
      refine x_zret (pc := 19) d_C_isLambda_19 rfl (by first | rfl | exact bI_narrow _) ?_
      first | exact zt (by simp_all [← Int32.not_lt]) | exact zf (by simp_all [← Int32.not_lt])
    · intro h11
      refine x_iconst (pc := 14) (nI 1) d_C_isLambda_14 (by decide) ?_
      refine x_goto (pc := 15) (tgt := 19) d_C_isLambda_15 rfl ?_
      refine x_zret (pc := 19) d_C_isLambda_19 rfl (by first | rfl | exact bI_narrow _) ?_
      first | exact zt (by simp_all [← Int32.not_lt]) | exact zf (by simp_all [← Int32.not_lt])
set_option maxHeartbeats 4000000 in
set_option maxRecDepth 100000 in
theorem t_C_lambdaOfParameter {w : va_W} {x : Nat} (h0 : 100 ≤ x) (h1 : x < 2147483648) : CT l y_C_lambdaOfParameter c_C_lambdaOfParameter 1 (some .int) (rmm 0 0) (gG D cI cL) [.int (nI x)] w (pI (nI ((x - 100) / 10)) w) := by
  refine CT.of R_C (by decide) rfl (Nat.le_of_ble_eq_true rfl) ?_
  intro E A hname
  refine x_iload_n (pc := 0) d_C_lambdaOfParameter_0 0 rfl ?_
  refine x_bipush (pc := 1) (nI 100) d_C_lambdaOfParameter_1 (by decide) ?_
  first | refine x_isubN (pc := 3) d_C_lambdaOfParameter_3 (by omega) ?_ | refine x_isub (pc := 3) d_C_lambdaOfParameter_3 ?_
  refine x_bipush (pc := 4) (nI 10) d_C_lambdaOfParameter_4 (by decide) ?_
  first | refine x_idivN (pc := 6) d_C_lambdaOfParameter_6 (by omega) (by omega) (by omega) ?_ | refine x_idiv (pc := 6) d_C_lambdaOfParameter_6 (by decide) ?_
  refine x_iret (pc := 7) d_C_lambdaOfParameter_7 rfl ?_
  exact ⟨rfl, rfl⟩
set_option maxHeartbeats 4000000 in
set_option maxRecDepth 100000 in
theorem t_C_indexOfParameter {w : va_W} {x : Nat} (h0 : 100 ≤ x) (h1 : x < 2147483648) : CT l y_C_indexOfParameter c_C_indexOfParameter 1 (some .int) (rmm 0 0) (gG D cI cL) [.int (nI x)] w (pI (nI ((x - 100) % 10)) w) := by
  refine CT.of R_C (by decide) rfl (Nat.le_of_ble_eq_true rfl) ?_
  intro E A hname
  refine x_iload_n (pc := 0) d_C_indexOfParameter_0 0 rfl ?_
  refine x_bipush (pc := 1) (nI 100) d_C_indexOfParameter_1 (by decide) ?_
  first | refine x_isubN (pc := 3) d_C_indexOfParameter_3 (by omega) ?_ | refine x_isub (pc := 3) d_C_indexOfParameter_3 ?_
  refine x_bipush (pc := 4) (nI 10) d_C_indexOfParameter_4 (by decide) ?_
  first | refine x_iremN (pc := 6) d_C_indexOfParameter_6 (by omega) (by omega) (by omega) ?_ | refine x_irem (pc := 6) d_C_indexOfParameter_6 (by decide) ?_
  refine x_iret (pc := 7) d_C_indexOfParameter_7 rfl ?_
  exact ⟨rfl, rfl⟩
set_option maxHeartbeats 4000000 in
set_option maxRecDepth 100000 in
theorem t_C_told {w : va_W} {x : Int32} : CT l y_C_told c_C_told 1 (some .int) (rmm 0 0) (gG D cI cL) [.int x] w (pI (x - x / nI 1000 * nI 1000) w) := by
  refine CT.of R_C (by decide) rfl (Nat.le_of_ble_eq_true rfl) ?_
  intro E A hname
  refine x_iload_n (pc := 0) d_C_told_0 0 rfl ?_
  refine x_sipush (pc := 1) (nI 1000) d_C_told_1 (by decide) ?_
  first | refine x_iremN (pc := 4) d_C_told_4 (by omega) (by omega) (by omega) ?_ | refine x_irem (pc := 4) d_C_told_4 (by decide) ?_
  refine x_iret (pc := 5) d_C_told_5 rfl ?_
  exact ⟨rfl, rfl⟩
set_option maxHeartbeats 4000000 in
set_option maxRecDepth 100000 in
theorem t_C_has {w : va_W} {x : Int32} {j : Nat} (hj : j < 32) : CT l y_C_has c_C_has 2 (some .boolean) (rmm 0 0) (gG D cI cL) [.int x, .int (nI j)] w (pI (bI (bt x j)) w) := by
  refine CT.of R_C (by decide) rfl (Nat.le_of_ble_eq_true rfl) ?_
  intro E A hname
  refine x_iload_n (pc := 0) d_C_has_0 0 rfl ?_
  refine x_iload_n (pc := 1) d_C_has_1 1 rfl ?_
  refine x_iushr (pc := 2) d_C_has_2 ?_
  refine x_iconst (pc := 3) (nI 1) d_C_has_3 (by decide) ?_
  refine x_iand (pc := 4) d_C_has_4 ?_
  first | refine x_if_eqB (pc := 5) (tgt := 12) d_C_has_5 rfl ?_ ?_ | refine x_if_eqL (pc := 5) (tgt := 12) d_C_has_5 rfl ?_ ?_ | refine x_if_eqN (pc := 5) (tgt := 12) d_C_has_5 rfl (by omega) ?_ ?_ | refine x_if_eq (pc := 5) (tgt := 12) d_C_has_5 rfl ?_ ?_
  · intro h5
    refine x_iconst (pc := 12) (nI 0) d_C_has_12 (by decide) ?_
    refine x_zret (pc := 13) d_C_has_13 rfl (by first | rfl | exact bI_narrow _) ?_
    first | exact zt (Bool.of_not_eq_false (fun q => absurd ((b_has hj).mpr q) (by assumption))) | exact zf ((b_has hj).mp (by assumption))
  · intro h5
    refine x_iconst (pc := 8) (nI 1) d_C_has_8 (by decide) ?_
    refine x_goto (pc := 9) (tgt := 13) d_C_has_9 rfl ?_
    refine x_zret (pc := 13) d_C_has_13 rfl (by first | rfl | exact bI_narrow _) ?_
    first | exact zt (Bool.of_not_eq_false (fun q => absurd ((b_has hj).mpr q) (by assumption))) | exact zf ((b_has hj).mp (by assumption))
variable {par : Nat → Int32} {prm : Nat → Nat} {lin : Nat → Int32} {siz atm : Nat → Nat} {cnt : Nat} {own out bnd : Nat → Nat} {cal : Nat → Int32} {opr : Nat → Nat} {n ph oc : Nat} {P : Nat → Int32} {Q : Nat → Int64} {OC : Nat → Int32} {OP : Nat → Int64} {F : Nat → Int32} {S : Int64} {R : Int32} {vis nc : Nat} {gr md : Bool}
set_option maxHeartbeats 4000000 in
set_option maxRecDepth 100000 in
theorem t_P_size  : CT l y_P_size c_P_size 1 (some .int) (rmm 0 0) (gG D cI cL) [.ref (ad 1)] (wC ad cI cL par prm lin siz atm cnt own out bnd cal opr n ph oc P Q OC OP F S R vis nc gr md) (pI (nI cnt) (wC ad cI cL par prm lin siz atm cnt own out bnd cal opr n ph oc P Q OC OP F S R vis nc gr md)) := by
  refine CT.of R_P (by decide) rfl (Nat.le_of_ble_eq_true rfl) ?_
  intro E A hname
  refine x_aload_n (pc := 0) d_P_size_0 0 rfl ?_
  refine x_get (pc := 1) (ci := 2) d_P_size_1 in_P rfl 5 (by decide) k_P_27 1 rfl rfl ?_
  refine x_iret (pc := 4) d_P_size_4 rfl ?_
  exact ⟨rfl, rfl⟩
set_option maxHeartbeats 4000000 in
set_option maxRecDepth 100000 in
theorem t_P_hasLambda {x : Int32} : CT l y_P_hasLambda c_P_hasLambda 2 (some .boolean) (rmm 0 0) (gG D cI cL) [.ref (ad 1), .int x] (wC ad cI cL par prm lin siz atm cnt own out bnd cal opr n ph oc P Q OC OP F S R vis nc gr md) (pI (bI (hl cnt x)) (wC ad cI cL par prm lin siz atm cnt own out bnd cal opr n ph oc P Q OC OP F S R vis nc gr md)) := by
  refine CT.of R_P (by decide) rfl (Nat.le_of_ble_eq_true rfl) ?_
  intro E A hname
  refine x_iload_n (pc := 0) d_P_hasLambda_0 1 rfl ?_
  refine x_if_lt (pc := 1) (tgt := 16) d_P_hasLambda_1 rfl ?_ ?_
  · intro h1
    refine x_iconst (pc := 16) (nI 0) d_P_hasLambda_16 (by decide) ?_
    refine x_zret (pc := 17) d_P_hasLambda_17 rfl (by first | rfl | exact bI_narrow _) ?_
    unfold hl
    first | exact zt (by simp_all [← Int32.not_lt]) | exact zf (by simp_all [← Int32.not_lt])
  · intro h1
    refine x_iload_n (pc := 4) d_P_hasLambda_4 1 rfl ?_
    refine x_aload_n (pc := 5) d_P_hasLambda_5 0 rfl ?_
    refine x_get (pc := 6) (ci := 2) d_P_hasLambda_6 in_P rfl 5 (by decide) k_P_27 1 rfl rfl ?_
    first | refine x_icmp_geN (pc := 9) (tgt := 16) d_P_hasLambda_9 rfl (by omega) (by omega) ?_ ?_ | refine x_icmp_ge (pc := 9) (tgt := 16) d_P_hasLambda_9 rfl ?_ ?_
    · intro h9
      refine x_iconst (pc := 16) (nI 0) d_P_hasLambda_16 (by decide) ?_
      refine x_zret (pc := 17) d_P_hasLambda_17 rfl (by first | rfl | exact bI_narrow _) ?_
      unfold hl
      first | exact zt (by simp_all [← Int32.not_lt]) | exact zf (by simp_all [← Int32.not_lt])
    · intro h9
      refine x_iconst (pc := 12) (nI 1) d_P_hasLambda_12 (by decide) ?_
      refine x_goto (pc := 13) (tgt := 17) d_P_hasLambda_13 rfl ?_
      refine x_zret (pc := 17) d_P_hasLambda_17 rfl (by first | rfl | exact bI_narrow _) ?_
      unfold hl
      first | exact zt (by simp_all [← Int32.not_lt]) | exact zf (by simp_all [← Int32.not_lt])
set_option maxHeartbeats 4000000 in
set_option maxRecDepth 100000 in
theorem t_P_hasParameter {x i : Int32} (hc : cnt ≤ 8) : CT l y_P_hasParameter c_P_hasParameter 3 (some .boolean) (rmm 1 21) (gG D cI cL) [.ref (ad 1), .int x, .int i] (wC ad cI cL par prm lin siz atm cnt own out bnd cal opr n ph oc P Q OC OP F S R vis nc gr md) (pI (bI (hpr cnt prm x i)) (wC ad cI cL par prm lin siz atm cnt own out bnd cal opr n ph oc P Q OC OP F S R vis nc gr md)) := by
  refine CT.of R_P (by decide) rfl (Nat.le_of_ble_eq_true rfl) ?_
  intro E A hname
  refine x_aload_n (pc := 0) d_P_hasParameter_0 0 rfl ?_
  refine x_iload_n (pc := 1) d_P_hasParameter_1 1 rfl ?_
  refine x_callV_I (pc := 2) (ci := 2) d_P_hasParameter_2 k_P_31 wi_P_hasLambda wv_P_hasLambda w_P_hasLambda ini_P wd_P_hasLambda ⟨by decide, by decide⟩ ⟨rfl, rfl⟩ ⟨Nat.zero_le _, Nat.zero_le _⟩ 1 rfl rfl (t_P_hasLambda) rfl rfl (Nat.le_of_ble_eq_true rfl) ?_
  first | refine x_if_eqB (pc := 5) (tgt := 26) d_P_hasParameter_5 rfl ?_ ?_ | refine x_if_eqL (pc := 5) (tgt := 26) d_P_hasParameter_5 rfl ?_ ?_ | refine x_if_eqN (pc := 5) (tgt := 26) d_P_hasParameter_5 rfl (by omega) ?_ ?_ | refine x_if_eq (pc := 5) (tgt := 26) d_P_hasParameter_5 rfl ?_ ?_
  · intro h5
    refine x_iconst (pc := 26) (nI 0) d_P_hasParameter_26 (by decide) ?_
    refine x_zret (pc := 27) d_P_hasParameter_27 rfl (by first | rfl | exact bI_narrow _) ?_
    first | exact zf (by unfold hpr; rw [h5]; rfl) | (rw [hpr_nI hc hlx]; first | exact zt (by simp_all [← Int32.not_lt]) | exact zf (by simp_all [← Int32.not_lt]))
  · intro h5
    obtain ⟨lx, hlx, rfl⟩ := hl_of hc h5
    refine x_iload_n (pc := 8) d_P_hasParameter_8 2 rfl ?_
    refine x_if_lt (pc := 9) (tgt := 26) d_P_hasParameter_9 rfl ?_ ?_
    · intro h9
      refine x_iconst (pc := 26) (nI 0) d_P_hasParameter_26 (by decide) ?_
      refine x_zret (pc := 27) d_P_hasParameter_27 rfl (by first | rfl | exact bI_narrow _) ?_
      first | exact zf (by unfold hpr; rw [h5]; rfl) | (rw [hpr_nI hc hlx]; first | exact zt (by simp_all [← Int32.not_lt]) | exact zf (by simp_all [← Int32.not_lt]))
    · intro h9
      refine x_iload_n (pc := 12) d_P_hasParameter_12 2 rfl ?_
      refine x_aload_n (pc := 13) d_P_hasParameter_13 0 rfl ?_
      refine x_get (pc := 14) (ci := 2) d_P_hasParameter_14 in_P rfl 1 (by decide) k_P_15 1 rfl rfl ?_
      refine x_iload_n (pc := 17) d_P_hasParameter_17 1 rfl ?_
      refine x_ialdN (pc := 18) d_P_hasParameter_18 5 0 rfl rfl (by decide) (by omega) ?_
      first | refine x_icmp_geN (pc := 19) (tgt := 26) d_P_hasParameter_19 rfl (by omega) (by omega) ?_ ?_ | refine x_icmp_ge (pc := 19) (tgt := 26) d_P_hasParameter_19 rfl ?_ ?_
      · intro h19
        refine x_iconst (pc := 26) (nI 0) d_P_hasParameter_26 (by decide) ?_
        refine x_zret (pc := 27) d_P_hasParameter_27 rfl (by first | rfl | exact bI_narrow _) ?_
        first | exact zf (by unfold hpr; rw [h5]; rfl) | (rw [hpr_nI hc hlx]; first | exact zt (by simp_all [← Int32.not_lt]) | exact zf (by simp_all [← Int32.not_lt]))
      · intro h19
        refine x_iconst (pc := 22) (nI 1) d_P_hasParameter_22 (by decide) ?_
        refine x_goto (pc := 23) (tgt := 27) d_P_hasParameter_23 rfl ?_
        refine x_zret (pc := 27) d_P_hasParameter_27 rfl (by first | rfl | exact bI_narrow _) ?_
        first | exact zf (by unfold hpr; rw [h5]; rfl) | (rw [hpr_nI hc hlx]; first | exact zt (by simp_all [← Int32.not_lt]) | exact zf (by simp_all [← Int32.not_lt]))
set_option maxHeartbeats 4000000 in
set_option maxRecDepth 100000 in
theorem t_P_hasAtom {x i : Int32} (hc : cnt ≤ 8) : CT l y_P_hasAtom c_P_hasAtom 3 (some .boolean) (rmm 1 21) (gG D cI cL) [.ref (ad 1), .int x, .int i] (wC ad cI cL par prm lin siz atm cnt own out bnd cal opr n ph oc P Q OC OP F S R vis nc gr md) (pI (bI (hpr cnt siz x i)) (wC ad cI cL par prm lin siz atm cnt own out bnd cal opr n ph oc P Q OC OP F S R vis nc gr md)) := by
  refine CT.of R_P (by decide) rfl (Nat.le_of_ble_eq_true rfl) ?_
  intro E A hname
  refine x_aload_n (pc := 0) d_P_hasAtom_0 0 rfl ?_
  refine x_iload_n (pc := 1) d_P_hasAtom_1 1 rfl ?_
  refine x_callV_I (pc := 2) (ci := 2) d_P_hasAtom_2 k_P_31 wi_P_hasLambda wv_P_hasLambda w_P_hasLambda ini_P wd_P_hasLambda ⟨by decide, by decide⟩ ⟨rfl, rfl⟩ ⟨Nat.zero_le _, Nat.zero_le _⟩ 1 rfl rfl (t_P_hasLambda) rfl rfl (Nat.le_of_ble_eq_true rfl) ?_
  first | refine x_if_eqB (pc := 5) (tgt := 26) d_P_hasAtom_5 rfl ?_ ?_ | refine x_if_eqL (pc := 5) (tgt := 26) d_P_hasAtom_5 rfl ?_ ?_ | refine x_if_eqN (pc := 5) (tgt := 26) d_P_hasAtom_5 rfl (by omega) ?_ ?_ | refine x_if_eq (pc := 5) (tgt := 26) d_P_hasAtom_5 rfl ?_ ?_
  · intro h5
    refine x_iconst (pc := 26) (nI 0) d_P_hasAtom_26 (by decide) ?_
    refine x_zret (pc := 27) d_P_hasAtom_27 rfl (by first | rfl | exact bI_narrow _) ?_
    first | exact zf (by unfold hpr; rw [h5]; rfl) | (rw [hpr_nI hc hlx]; first | exact zt (by simp_all [← Int32.not_lt]) | exact zf (by simp_all [← Int32.not_lt]))
  · intro h5
    obtain ⟨lx, hlx, rfl⟩ := hl_of hc h5
    refine x_iload_n (pc := 8) d_P_hasAtom_8 2 rfl ?_
    refine x_if_lt (pc := 9) (tgt := 26) d_P_hasAtom_9 rfl ?_ ?_
    · intro h9
      refine x_iconst (pc := 26) (nI 0) d_P_hasAtom_26 (by decide) ?_
      refine x_zret (pc := 27) d_P_hasAtom_27 rfl (by first | rfl | exact bI_narrow _) ?_
      first | exact zf (by unfold hpr; rw [h5]; rfl) | (rw [hpr_nI hc hlx]; first | exact zt (by simp_all [← Int32.not_lt]) | exact zf (by simp_all [← Int32.not_lt]))
    · intro h9
      refine x_iload_n (pc := 12) d_P_hasAtom_12 2 rfl ?_
      refine x_aload_n (pc := 13) d_P_hasAtom_13 0 rfl ?_
      refine x_get (pc := 14) (ci := 2) d_P_hasAtom_14 in_P rfl 3 (by decide) k_P_21 1 rfl rfl ?_
      refine x_iload_n (pc := 17) d_P_hasAtom_17 1 rfl ?_
      refine x_ialdN (pc := 18) d_P_hasAtom_18 7 0 rfl rfl (by decide) (by omega) ?_
      first | refine x_icmp_geN (pc := 19) (tgt := 26) d_P_hasAtom_19 rfl (by omega) (by omega) ?_ ?_ | refine x_icmp_ge (pc := 19) (tgt := 26) d_P_hasAtom_19 rfl ?_ ?_
      · intro h19
        refine x_iconst (pc := 26) (nI 0) d_P_hasAtom_26 (by decide) ?_
        refine x_zret (pc := 27) d_P_hasAtom_27 rfl (by first | rfl | exact bI_narrow _) ?_
        first | exact zf (by unfold hpr; rw [h5]; rfl) | (rw [hpr_nI hc hlx]; first | exact zt (by simp_all [← Int32.not_lt]) | exact zf (by simp_all [← Int32.not_lt]))
      · intro h19
        refine x_iconst (pc := 22) (nI 1) d_P_hasAtom_22 (by decide) ?_
        refine x_goto (pc := 23) (tgt := 27) d_P_hasAtom_23 rfl ?_
        refine x_zret (pc := 27) d_P_hasAtom_27 rfl (by first | rfl | exact bI_narrow _) ?_
        first | exact zf (by unfold hpr; rw [h5]; rfl) | (rw [hpr_nI hc hlx]; first | exact zt (by simp_all [← Int32.not_lt]) | exact zf (by simp_all [← Int32.not_lt]))
set_option maxHeartbeats 4000000 in
set_option maxRecDepth 100000 in
theorem t_P_paramsOf {x : Nat} (hx : x < 8) : CT l y_P_paramsOf c_P_paramsOf 2 (some .int) (rmm 0 0) (gG D cI cL) [.ref (ad 1), .int (nI x)] (wC ad cI cL par prm lin siz atm cnt own out bnd cal opr n ph oc P Q OC OP F S R vis nc gr md) (pI (nI (prm x)) (wC ad cI cL par prm lin siz atm cnt own out bnd cal opr n ph oc P Q OC OP F S R vis nc gr md)) := by
  refine CT.of R_P (by decide) rfl (Nat.le_of_ble_eq_true rfl) ?_
  intro E A hname
  refine x_aload_n (pc := 0) d_P_paramsOf_0 0 rfl ?_
  refine x_get (pc := 1) (ci := 2) d_P_paramsOf_1 in_P rfl 1 (by decide) k_P_15 1 rfl rfl ?_
  refine x_iload_n (pc := 4) d_P_paramsOf_4 1 rfl ?_
  refine x_ialdN (pc := 5) d_P_paramsOf_5 5 0 rfl rfl (by decide) (by omega) ?_
  refine x_iret (pc := 6) d_P_paramsOf_6 rfl ?_
  exact ⟨rfl, rfl⟩
set_option maxHeartbeats 4000000 in
set_option maxRecDepth 100000 in
theorem t_P_callLength {x : Nat} (hx : x < 8) : CT l y_P_callLength c_P_callLength 2 (some .int) (rmm 0 0) (gG D cI cL) [.ref (ad 1), .int (nI x)] (wC ad cI cL par prm lin siz atm cnt own out bnd cal opr n ph oc P Q OC OP F S R vis nc gr md) (pI (nI (siz x)) (wC ad cI cL par prm lin siz atm cnt own out bnd cal opr n ph oc P Q OC OP F S R vis nc gr md)) := by
  refine CT.of R_P (by decide) rfl (Nat.le_of_ble_eq_true rfl) ?_
  intro E A hname
  refine x_aload_n (pc := 0) d_P_callLength_0 0 rfl ?_
  refine x_get (pc := 1) (ci := 2) d_P_callLength_1 in_P rfl 3 (by decide) k_P_21 1 rfl rfl ?_
  refine x_iload_n (pc := 4) d_P_callLength_4 1 rfl ?_
  refine x_ialdN (pc := 5) d_P_callLength_5 7 0 rfl rfl (by decide) (by omega) ?_
  refine x_iret (pc := 6) d_P_callLength_6 rfl ?_
  exact ⟨rfl, rfl⟩
set_option maxHeartbeats 4000000 in
set_option maxRecDepth 100000 in
theorem t_P_lineageOf {x : Nat} (hx : x < 8) : CT l y_P_lineageOf c_P_lineageOf 2 (some .int) (rmm 0 0) (gG D cI cL) [.ref (ad 1), .int (nI x)] (wC ad cI cL par prm lin siz atm cnt own out bnd cal opr n ph oc P Q OC OP F S R vis nc gr md) (pI (lin x) (wC ad cI cL par prm lin siz atm cnt own out bnd cal opr n ph oc P Q OC OP F S R vis nc gr md)) := by
  refine CT.of R_P (by decide) rfl (Nat.le_of_ble_eq_true rfl) ?_
  intro E A hname
  refine x_aload_n (pc := 0) d_P_lineageOf_0 0 rfl ?_
  refine x_get (pc := 1) (ci := 2) d_P_lineageOf_1 in_P rfl 2 (by decide) k_P_18 1 rfl rfl ?_
  refine x_iload_n (pc := 4) d_P_lineageOf_4 1 rfl ?_
  refine x_ialdN (pc := 5) d_P_lineageOf_5 6 0 rfl rfl (by decide) (by omega) ?_
  refine x_iret (pc := 6) d_P_lineageOf_6 rfl ?_
  exact ⟨rfl, rfl⟩
set_option maxHeartbeats 4000000 in
set_option maxRecDepth 100000 in
theorem t_P_atomOf {x i : Nat} (hx : x < 8) (hi : i < 4) : CT l y_P_atomOf c_P_atomOf 3 (some .int) (rmm 0 0) (gG D cI cL) [.ref (ad 1), .int (nI x), .int (nI i)] (wC ad cI cL par prm lin siz atm cnt own out bnd cal opr n ph oc P Q OC OP F S R vis nc gr md) (pI (nI (atm (4 * x + i))) (wC ad cI cL par prm lin siz atm cnt own out bnd cal opr n ph oc P Q OC OP F S R vis nc gr md)) := by
  refine CT.of R_P (by decide) rfl (Nat.le_of_ble_eq_true rfl) ?_
  intro E A hname
  refine x_aload_n (pc := 0) d_P_atomOf_0 0 rfl ?_
  refine x_get (pc := 1) (ci := 2) d_P_atomOf_1 in_P rfl 4 (by decide) k_P_24 1 rfl rfl ?_
  refine x_iload_n (pc := 4) d_P_atomOf_4 1 rfl ?_
  refine x_iconst (pc := 5) (nI 4) d_P_atomOf_5 (by decide) ?_
  first | refine x_imulN (pc := 6) d_P_atomOf_6 ?_ | refine x_imul (pc := 6) d_P_atomOf_6 ?_
  refine x_iload_n (pc := 7) d_P_atomOf_7 2 rfl ?_
  first | refine x_iaddN (pc := 8) d_P_atomOf_8 ?_ | refine x_iadd (pc := 8) d_P_atomOf_8 ?_
  refine x_ialdN (pc := 9) d_P_atomOf_9 8 0 rfl rfl (by decide) (by omega) ?_
  refine x_iret (pc := 10) d_P_atomOf_10 rfl ?_
  exact ⟨by rw [Nat.mul_comm 4 x], rfl⟩
set_option maxHeartbeats 4000000 in
set_option maxRecDepth 100000 in
theorem t_P_empty  : CT l y_P_empty c_P_empty 1 none (rmm 0 0) (gG D cI cL) [.ref (ad 1)] (wC ad cI cL par prm lin siz atm cnt own out bnd cal opr n ph oc P Q OC OP F S R vis nc gr md) (pV (wC ad cI cL par prm lin (un siz 0 0) atm 1 own out bnd cal opr n ph oc P Q OC OP F S R vis nc gr md)) := by
  refine CT.of R_P (by decide) rfl (Nat.le_of_ble_eq_true rfl) ?_
  intro E A hname
  refine x_aload_n (pc := 0) d_P_empty_0 0 rfl ?_
  refine x_get (pc := 1) (ci := 2) d_P_empty_1 in_P rfl 3 (by decide) k_P_21 1 rfl rfl ?_
  refine x_iconst (pc := 4) (nI 0) d_P_empty_4 (by decide) ?_
  refine x_iconst (pc := 5) (nI 0) d_P_empty_5 (by decide) ?_
  first | refine x_iastU (pc := 6) d_P_empty_6 7 0 rfl rfl (by decide) (by omega) ?_ | refine x_iastN (pc := 6) d_P_empty_6 7 0 rfl rfl (by decide) (by omega) _ rfl ?_
  refine x_aload_n (pc := 7) d_P_empty_7 0 rfl ?_
  refine x_iconst (pc := 8) (nI 1) d_P_empty_8 (by decide) ?_
  refine x_put (pc := 9) (ci := 2) (ty := .int) d_P_empty_9 in_P t_P ty_P nm_P rfl 5 (by decide) k_P_27 rfl (by decide +kernel) rfl rfl 1 rfl (Nat.le_of_ble_eq_true rfl) (_) (rfl) ?_
  refine x_vret (pc := 12) d_P_empty_12 rfl ?_
  exact ⟨rfl, rfl⟩
set_option maxHeartbeats 4000000 in
set_option maxRecDepth 100000 in
theorem t_P_makeLambda {x y : Int32} (hc : cnt ≤ 8) : CT l y_P_makeLambda c_P_makeLambda 4 (some .int) (rmm 1 21) (gG D cI cL) [.ref (ad 1), .int x, .int y] (wC ad cI cL par prm lin siz atm cnt own out bnd cal opr n ph oc P Q OC OP F S R vis nc gr md) (fun v w2 => (∃ p k, lamok cnt x y p k ∧ v = some (.int (nI cnt)) ∧ w2 = (wC ad cI cL (upd par cnt (nI p)) (un prm cnt k) (upd lin cnt (lin p ||| 1 <<< (nI cnt &&& 31))) (un siz cnt 0) atm (cnt + 1) own out bnd cal opr n ph oc P Q OC OP F S R vis nc gr md)) ∨ ((¬ ∃ p k, lamok cnt x y p k) ∧ v = some (.int (-1)) ∧ w2 = (wC ad cI cL par prm lin siz atm cnt own out bnd cal opr n ph oc P Q OC OP F S R vis nc gr md))) := by
  refine CT.of R_P (by decide) rfl (Nat.le_of_ble_eq_true rfl) ?_
  intro E A hname
  refine x_aload_n (pc := 0) d_P_makeLambda_0 0 rfl ?_
  refine x_iload_n (pc := 1) d_P_makeLambda_1 1 rfl ?_
  refine x_callV_I (pc := 2) (ci := 2) d_P_makeLambda_2 k_P_31 wi_P_hasLambda wv_P_hasLambda w_P_hasLambda ini_P wd_P_hasLambda ⟨by decide, by decide⟩ ⟨rfl, rfl⟩ ⟨Nat.zero_le _, Nat.zero_le _⟩ 1 rfl rfl (t_P_hasLambda) rfl rfl (Nat.le_of_ble_eq_true rfl) ?_
  first | refine x_if_eqB (pc := 5) (tgt := 26) d_P_makeLambda_5 rfl ?_ ?_ | refine x_if_eqL (pc := 5) (tgt := 26) d_P_makeLambda_5 rfl ?_ ?_ | refine x_if_eqN (pc := 5) (tgt := 26) d_P_makeLambda_5 rfl (by omega) ?_ ?_ | refine x_if_eq (pc := 5) (tgt := 26) d_P_makeLambda_5 rfl ?_ ?_
  · intro h5
    refine x_iconst (pc := 26) (-1) d_P_makeLambda_26 (by decide) ?_
    refine x_iret (pc := 27) d_P_makeLambda_27 rfl ?_
    refine Or.inr ⟨fun q => ?_, rfl, rfl⟩
    obtain ⟨p2, k2, q1, q2, q3, q4, q5⟩ := q
    first
      | (subst q4; rw [hl_in hc q2] at h5; cases h5)
      | (subst q5; exact absurd h9 (nI_pos (by omega)))
      | (subst q5; exact absurd h14 (nI_nlt (by omega) (by omega)))
      | omega
  · intro h5
    obtain ⟨p, hp, rfl⟩ := hl_of hc h5
    refine x_iload_n (pc := 8) d_P_makeLambda_8 2 rfl ?_
    refine x_if_lt (pc := 9) (tgt := 26) d_P_makeLambda_9 rfl ?_ ?_
    · intro h9
      refine x_iconst (pc := 26) (-1) d_P_makeLambda_26 (by decide) ?_
      refine x_iret (pc := 27) d_P_makeLambda_27 rfl ?_
      refine Or.inr ⟨fun q => ?_, rfl, rfl⟩
      obtain ⟨p2, k2, q1, q2, q3, q4, q5⟩ := q
      first
        | (subst q4; rw [hl_in hc q2] at h5; cases h5)
        | (subst q5; exact absurd h9 (nI_pos (by omega)))
        | (subst q5; exact absurd h14 (nI_nlt (by omega) (by omega)))
        | omega
    · intro h9
      refine x_iload_n (pc := 12) d_P_makeLambda_12 2 rfl ?_
      refine x_iconst (pc := 13) (nI 3) d_P_makeLambda_13 (by decide) ?_
      first | refine x_icmp_gtN (pc := 14) (tgt := 26) d_P_makeLambda_14 rfl (by omega) (by omega) ?_ ?_ | refine x_icmp_gt (pc := 14) (tgt := 26) d_P_makeLambda_14 rfl ?_ ?_
      · intro h14
        refine x_iconst (pc := 26) (-1) d_P_makeLambda_26 (by decide) ?_
        refine x_iret (pc := 27) d_P_makeLambda_27 rfl ?_
        refine Or.inr ⟨fun q => ?_, rfl, rfl⟩
        obtain ⟨p2, k2, q1, q2, q3, q4, q5⟩ := q
        first
          | (subst q4; rw [hl_in hc q2] at h5; cases h5)
          | (subst q5; exact absurd h9 (nI_pos (by omega)))
          | (subst q5; exact absurd h14 (nI_nlt (by omega) (by omega)))
          | omega
      · intro h14
        obtain ⟨k, hk, rfl⟩ := k3_of h9 h14
        refine x_aload_n (pc := 17) d_P_makeLambda_17 0 rfl ?_
        refine x_get (pc := 18) (ci := 2) d_P_makeLambda_18 in_P rfl 5 (by decide) k_P_27 1 rfl rfl ?_
        refine x_bipush (pc := 21) (nI 8) d_P_makeLambda_21 (by decide) ?_
        first | refine x_icmp_neN (pc := 23) (tgt := 28) d_P_makeLambda_23 rfl (by omega) (by omega) ?_ ?_ | refine x_icmp_ne (pc := 23) (tgt := 28) d_P_makeLambda_23 rfl ?_ ?_
        · intro h23
          refine x_aload_n (pc := 28) d_P_makeLambda_28 0 rfl ?_
          refine x_get (pc := 29) (ci := 2) d_P_makeLambda_29 in_P rfl 5 (by decide) k_P_27 1 rfl rfl ?_
          refine x_istore_n (pc := 32) d_P_makeLambda_32 rfl (by decide) [(3, _), (0, _), (1, _), (2, _)] rfl ?_
          refine x_aload_n (pc := 33) d_P_makeLambda_33 1 rfl ?_
          refine x_get (pc := 34) (ci := 2) d_P_makeLambda_34 in_P rfl 0 (by decide) k_P_9 1 rfl rfl ?_
          refine x_iload_n (pc := 37) d_P_makeLambda_37 0 rfl ?_
          refine x_iload_n (pc := 38) d_P_makeLambda_38 2 rfl ?_
          first | refine x_iastU (pc := 39) d_P_makeLambda_39 4 0 rfl rfl (by decide) (by omega) ?_ | refine x_iastN (pc := 39) d_P_makeLambda_39 4 0 rfl rfl (by decide) (by omega) _ rfl ?_
          refine x_aload_n (pc := 40) d_P_makeLambda_40 1 rfl ?_
          refine x_get (pc := 41) (ci := 2) d_P_makeLambda_41 in_P rfl 1 (by decide) k_P_15 1 rfl rfl ?_
          refine x_iload_n (pc := 44) d_P_makeLambda_44 0 rfl ?_
          refine x_iload_n (pc := 45) d_P_makeLambda_45 3 rfl ?_
          first | refine x_iastU (pc := 46) d_P_makeLambda_46 5 0 rfl rfl (by decide) (by omega) ?_ | refine x_iastN (pc := 46) d_P_makeLambda_46 5 0 rfl rfl (by decide) (by omega) _ rfl ?_
          refine x_aload_n (pc := 47) d_P_makeLambda_47 1 rfl ?_
          refine x_get (pc := 48) (ci := 2) d_P_makeLambda_48 in_P rfl 2 (by decide) k_P_18 1 rfl rfl ?_
          refine x_iload_n (pc := 51) d_P_makeLambda_51 0 rfl ?_
          refine x_aload_n (pc := 52) d_P_makeLambda_52 1 rfl ?_
          refine x_get (pc := 53) (ci := 2) d_P_makeLambda_53 in_P rfl 2 (by decide) k_P_18 1 rfl rfl ?_
          refine x_iload_n (pc := 56) d_P_makeLambda_56 2 rfl ?_
          refine x_ialdN (pc := 57) d_P_makeLambda_57 6 0 rfl rfl (by decide) (by omega) ?_
          refine x_iconst (pc := 58) (nI 1) d_P_makeLambda_58 (by decide) ?_
          refine x_iload_n (pc := 59) d_P_makeLambda_59 0 rfl ?_
          refine x_ishl (pc := 60) d_P_makeLambda_60 ?_
          refine x_ior (pc := 61) d_P_makeLambda_61 ?_
          first | refine x_iastU (pc := 62) d_P_makeLambda_62 6 0 rfl rfl (by decide) (by omega) ?_ | refine x_iastN (pc := 62) d_P_makeLambda_62 6 0 rfl rfl (by decide) (by omega) _ rfl ?_
          refine x_aload_n (pc := 63) d_P_makeLambda_63 1 rfl ?_
          refine x_get (pc := 64) (ci := 2) d_P_makeLambda_64 in_P rfl 3 (by decide) k_P_21 1 rfl rfl ?_
          refine x_iload_n (pc := 67) d_P_makeLambda_67 0 rfl ?_
          refine x_iconst (pc := 68) (nI 0) d_P_makeLambda_68 (by decide) ?_
          first | refine x_iastU (pc := 69) d_P_makeLambda_69 7 0 rfl rfl (by decide) (by omega) ?_ | refine x_iastN (pc := 69) d_P_makeLambda_69 7 0 rfl rfl (by decide) (by omega) _ rfl ?_
          refine x_aload_n (pc := 70) d_P_makeLambda_70 1 rfl ?_
          refine x_dup (pc := 71) d_P_makeLambda_71 rfl ?_
          refine x_get (pc := 72) (ci := 2) d_P_makeLambda_72 in_P rfl 5 (by decide) k_P_27 1 rfl rfl ?_
          refine x_iconst (pc := 75) (nI 1) d_P_makeLambda_75 (by decide) ?_
          first | refine x_iaddN (pc := 76) d_P_makeLambda_76 ?_ | refine x_iadd (pc := 76) d_P_makeLambda_76 ?_
          refine x_put (pc := 77) (ci := 2) (ty := .int) d_P_makeLambda_77 in_P t_P ty_P nm_P rfl 5 (by decide) k_P_27 rfl (by decide +kernel) rfl rfl 1 rfl (Nat.le_of_ble_eq_true rfl) (_) (rfl) ?_
          refine x_iload_n (pc := 80) d_P_makeLambda_80 0 rfl ?_
          refine x_iret (pc := 81) d_P_makeLambda_81 rfl ?_
          exact Or.inl ⟨p, k, ⟨by omega, hp, hk, rfl, rfl⟩, rfl, rfl⟩
        · intro h23
          refine x_iconst (pc := 26) (-1) d_P_makeLambda_26 (by decide) ?_
          refine x_iret (pc := 27) d_P_makeLambda_27 rfl ?_
          refine Or.inr ⟨fun q => ?_, rfl, rfl⟩
          obtain ⟨p2, k2, q1, q2, q3, q4, q5⟩ := q
          first
            | (subst q4; rw [hl_in hc q2] at h5; cases h5)
            | (subst q5; exact absurd h9 (nI_pos (by omega)))
            | (subst q5; exact absurd h14 (nI_nlt (by omega) (by omega)))
            | omega
set_option maxHeartbeats 4000000 in
set_option maxRecDepth 100000 in
theorem t_P_mayStand {lx : Nat} {x : Int32} (hw : pwf cnt par prm siz atm) (hli : linok cnt par lin) (hlx : lx < cnt) : CT l y_P_mayStand c_P_mayStand 4 (some .boolean) (rmm 2 43) (gG D cI cL) [.ref (ad 1), .int (nI lx), .int x] (wC ad cI cL par prm lin siz atm cnt own out bnd cal opr n ph oc P Q OC OP F S R vis nc gr md) (pI (bI (mst cnt par prm lx x)) (wC ad cI cL par prm lin siz atm cnt own out bnd cal opr n ph oc P Q OC OP F S R vis nc gr md)) := by
  refine CT.of R_P (by decide) rfl (Nat.le_of_ble_eq_true rfl) ?_
  intro E A hname
  have hc8 : cnt ≤ 8 := hw.2.1
  have hp0 : par 0 = -1 := hw.2.2.1.1
  have hp4 : ∀ l, l < 8 → prm l ≤ 4 := fun l h => Nat.le_trans (hw.2.2.2.1 l h) (by omega)
  refine x_iload_n (pc := 0) d_P_mayStand_0 2 rfl ?_
  refine x_callSN_I (pc := 1) d_P_mayStand_1 k_P_39 ws_C_isParameter w_C_isParameter ini_C wd_C_isParameter ⟨by decide, by decide⟩ ⟨rfl, rfl⟩ ⟨Nat.zero_le _, Nat.zero_le _⟩ (t_C_isParameter) rfl rfl (Nat.le_of_ble_eq_true rfl) ?_
  first | refine x_if_eqB (pc := 4) (tgt := 43) d_P_mayStand_4 rfl ?_ ?_ | refine x_if_eqL (pc := 4) (tgt := 43) d_P_mayStand_4 rfl ?_ ?_ | refine x_if_eqN (pc := 4) (tgt := 43) d_P_mayStand_4 rfl (by omega) ?_ ?_ | refine x_if_eq (pc := 4) (tgt := 43) d_P_mayStand_4 rfl ?_ ?_
  · intro h4
    refine x_iload_n (pc := 43) d_P_mayStand_43 2 rfl ?_
    refine x_callSN_I (pc := 44) d_P_mayStand_44 k_P_55 ws_C_isLambda w_C_isLambda ini_C wd_C_isLambda ⟨by decide, by decide⟩ ⟨rfl, rfl⟩ ⟨Nat.zero_le _, Nat.zero_le _⟩ (t_C_isLambda) rfl rfl (Nat.le_of_ble_eq_true rfl) ?_
    first | refine x_if_eqB (pc := 47) (tgt := 80) d_P_mayStand_47 rfl ?_ ?_ | refine x_if_eqL (pc := 47) (tgt := 80) d_P_mayStand_47 rfl ?_ ?_ | refine x_if_eqN (pc := 47) (tgt := 80) d_P_mayStand_47 rfl (by omega) ?_ ?_ | refine x_if_eq (pc := 47) (tgt := 80) d_P_mayStand_47 rfl ?_ ?_
    · intro h47
      refine x_iload_n (pc := 80) d_P_mayStand_80 2 rfl ?_
      refine x_callSN_I (pc := 81) d_P_mayStand_81 k_P_58 ws_C_isNumber w_C_isNumber ini_C wd_C_isNumber ⟨by decide, by decide⟩ ⟨rfl, rfl⟩ ⟨Nat.zero_le _, Nat.zero_le _⟩ (t_C_isNumber) rfl rfl (Nat.le_of_ble_eq_true rfl) ?_
      first | refine x_if_neB (pc := 84) (tgt := 94) d_P_mayStand_84 rfl ?_ ?_ | refine x_if_neL (pc := 84) (tgt := 94) d_P_mayStand_84 rfl ?_ ?_ | refine x_if_neN (pc := 84) (tgt := 94) d_P_mayStand_84 rfl (by omega) ?_ ?_ | refine x_if_ne (pc := 84) (tgt := 94) d_P_mayStand_84 rfl ?_ ?_
      · intro h84
        refine x_iconst (pc := 94) (nI 1) d_P_mayStand_94 (by decide) ?_
        refine x_goto (pc := 95) (tgt := 99) d_P_mayStand_95 rfl ?_
        refine x_zret (pc := 99) d_P_mayStand_99 rfl (by first | rfl | exact bI_narrow _) ?_
        first
          | exact zt (mst_t ((mso_oth h4 h47).mpr (Or.inl h84)))
          | exact zt (mst_t ((mso_oth h4 h47).mpr (Or.inr h91)))
          | exact zf (mst_f (fun z => by
              have q := (mso_oth h4 h47).mp z
              rw [h84, h91] at q
              rcases q with q | q <;> cases q))
      · intro h84
        refine x_iload_n (pc := 87) d_P_mayStand_87 2 rfl ?_
        refine x_callSN_I (pc := 88) d_P_mayStand_88 k_P_61 ws_C_isPrimitive w_C_isPrimitive ini_C wd_C_isPrimitive ⟨by decide, by decide⟩ ⟨rfl, rfl⟩ ⟨Nat.zero_le _, Nat.zero_le _⟩ (t_C_isPrimitive) rfl rfl (Nat.le_of_ble_eq_true rfl) ?_
        first | refine x_if_eqB (pc := 91) (tgt := 98) d_P_mayStand_91 rfl ?_ ?_ | refine x_if_eqL (pc := 91) (tgt := 98) d_P_mayStand_91 rfl ?_ ?_ | refine x_if_eqN (pc := 91) (tgt := 98) d_P_mayStand_91 rfl (by omega) ?_ ?_ | refine x_if_eq (pc := 91) (tgt := 98) d_P_mayStand_91 rfl ?_ ?_
        · intro h91
          refine x_iconst (pc := 98) (nI 0) d_P_mayStand_98 (by decide) ?_
          refine x_zret (pc := 99) d_P_mayStand_99 rfl (by first | rfl | exact bI_narrow _) ?_
          first
            | exact zt (mst_t ((mso_oth h4 h47).mpr (Or.inl h84)))
            | exact zt (mst_t ((mso_oth h4 h47).mpr (Or.inr h91)))
            | exact zf (mst_f (fun z => by
                have q := (mso_oth h4 h47).mp z
                rw [h84, h91] at q
                rcases q with q | q <;> cases q))
        · intro h91
          refine x_iconst (pc := 94) (nI 1) d_P_mayStand_94 (by decide) ?_
          refine x_goto (pc := 95) (tgt := 99) d_P_mayStand_95 rfl ?_
          refine x_zret (pc := 99) d_P_mayStand_99 rfl (by first | rfl | exact bI_narrow _) ?_
          first
            | exact zt (mst_t ((mso_oth h4 h47).mpr (Or.inl h84)))
            | exact zt (mst_t ((mso_oth h4 h47).mpr (Or.inr h91)))
            | exact zf (mst_f (fun z => by
                have q := (mso_oth h4 h47).mp z
                rw [h84, h91] at q
                rcases q with q | q <;> cases q))
    · intro h47
      obtain ⟨b, hb1, hb2, rfl⟩ := lo_of (by decide) h47 (by decide)
      refine x_iload_n (pc := 50) d_P_mayStand_50 2 rfl ?_
      refine x_sipush (pc := 51) (nI 200) d_P_mayStand_51 (by decide) ?_
      first | refine x_isubN (pc := 54) d_P_mayStand_54 (by omega) ?_ | refine x_isub (pc := 54) d_P_mayStand_54 ?_
      refine x_istore_n (pc := 55) d_P_mayStand_55 rfl (by decide) [(3, _), (0, _), (1, _), (2, _)] rfl ?_
      refine x_aload_n (pc := 56) d_P_mayStand_56 1 rfl ?_
      refine x_iload_n (pc := 57) d_P_mayStand_57 0 rfl ?_
      refine x_callV_I (pc := 58) (ci := 2) d_P_mayStand_58 k_P_31 wi_P_hasLambda wv_P_hasLambda w_P_hasLambda ini_P wd_P_hasLambda ⟨by decide, by decide⟩ ⟨rfl, rfl⟩ ⟨Nat.zero_le _, Nat.zero_le _⟩ 1 rfl rfl (t_P_hasLambda) rfl rfl (Nat.le_of_ble_eq_true rfl) ?_
      rw [hl_nI hc8 (by omega)]
      first | refine x_if_eqB (pc := 61) (tgt := 78) d_P_mayStand_61 rfl ?_ ?_ | refine x_if_eqL (pc := 61) (tgt := 78) d_P_mayStand_61 rfl ?_ ?_ | refine x_if_eqN (pc := 61) (tgt := 78) d_P_mayStand_61 rfl (by omega) ?_ ?_ | refine x_if_eq (pc := 61) (tgt := 78) d_P_mayStand_61 rfl ?_ ?_
      · intro h61
        have g61 := of_decide_eq_false h61
        refine x_iconst (pc := 78) (nI 0) d_P_mayStand_78 (by decide) ?_
        refine x_zret (pc := 79) d_P_mayStand_79 rfl (by first | rfl | exact bI_narrow _) ?_
        first
          | exact zt (mst_t ((mso_lam hp0 (by omega) hb1 hb2).mpr ⟨g61, h71⟩))
          | exact zf (mst_f (fun z => g61 ((mso_lam hp0 (by omega) hb1 hb2).mp z).1))
          | exact zf (mst_f (fun z => h71 ((mso_lam hp0 (by omega) hb1 hb2).mp z).2))
      · intro h61
        have g61 := of_decide_eq_true h61
        refine x_aload_n (pc := 64) d_P_mayStand_64 1 rfl ?_
        refine x_get (pc := 65) (ci := 2) d_P_mayStand_65 in_P rfl 0 (by decide) k_P_9 1 rfl rfl ?_
        refine x_iload_n (pc := 68) d_P_mayStand_68 0 rfl ?_
        refine x_ialdN (pc := 69) d_P_mayStand_69 4 0 rfl rfl (by decide) (by omega) ?_
        refine x_iload_n (pc := 70) d_P_mayStand_70 2 rfl ?_
        first | refine x_icmp_neN (pc := 71) (tgt := 78) d_P_mayStand_71 rfl (by omega) (by omega) ?_ ?_ | refine x_icmp_ne (pc := 71) (tgt := 78) d_P_mayStand_71 rfl ?_ ?_
        · intro h71
          refine x_iconst (pc := 78) (nI 0) d_P_mayStand_78 (by decide) ?_
          refine x_zret (pc := 79) d_P_mayStand_79 rfl (by first | rfl | exact bI_narrow _) ?_
          first
            | exact zt (mst_t ((mso_lam hp0 (by omega) hb1 hb2).mpr ⟨g61, h71⟩))
            | exact zf (mst_f (fun z => g61 ((mso_lam hp0 (by omega) hb1 hb2).mp z).1))
            | exact zf (mst_f (fun z => h71 ((mso_lam hp0 (by omega) hb1 hb2).mp z).2))
        · intro h71
          refine x_iconst (pc := 74) (nI 1) d_P_mayStand_74 (by decide) ?_
          refine x_goto (pc := 75) (tgt := 79) d_P_mayStand_75 rfl ?_
          refine x_zret (pc := 79) d_P_mayStand_79 rfl (by first | rfl | exact bI_narrow _) ?_
          first
            | exact zt (mst_t ((mso_lam hp0 (by omega) hb1 hb2).mpr ⟨g61, h71⟩))
            | exact zf (mst_f (fun z => g61 ((mso_lam hp0 (by omega) hb1 hb2).mp z).1))
            | exact zf (mst_f (fun z => h71 ((mso_lam hp0 (by omega) hb1 hb2).mp z).2))
  · intro h4
    obtain ⟨b, hb1, hb2, rfl⟩ := lo_of (by decide) h4 (by decide)
    refine x_iload_n (pc := 7) d_P_mayStand_7 2 rfl ?_
    refine x_callSN_I (pc := 8) d_P_mayStand_8 k_P_42 ws_C_lambdaOfParameter w_C_lambdaOfParameter ini_C wd_C_lambdaOfParameter ⟨by decide, by decide⟩ ⟨rfl, rfl⟩ ⟨Nat.zero_le _, Nat.zero_le _⟩ (t_C_lambdaOfParameter hb1 (by omega)) rfl rfl (Nat.le_of_ble_eq_true rfl) ?_
    refine x_istore_n (pc := 11) d_P_mayStand_11 rfl (by decide) [(3, _), (0, _), (1, _), (2, _)] rfl ?_
    refine x_aload_n (pc := 12) d_P_mayStand_12 1 rfl ?_
    refine x_iload_n (pc := 13) d_P_mayStand_13 0 rfl ?_
    refine x_iload_n (pc := 14) d_P_mayStand_14 3 rfl ?_
    refine x_callSN_I (pc := 15) d_P_mayStand_15 k_P_46 ws_C_indexOfParameter w_C_indexOfParameter ini_C wd_C_indexOfParameter ⟨by decide, by decide⟩ ⟨rfl, rfl⟩ ⟨Nat.zero_le _, Nat.zero_le _⟩ (t_C_indexOfParameter hb1 (by omega)) rfl rfl (Nat.le_of_ble_eq_true rfl) ?_
    refine x_callV_I (pc := 18) (ci := 2) d_P_mayStand_18 k_P_49 wi_P_hasParameter wv_P_hasParameter w_P_hasParameter ini_P wd_P_hasParameter ⟨by decide, by decide⟩ ⟨rfl, rfl⟩ ⟨Nat.zero_le _, Nat.zero_le _⟩ 1 rfl rfl (t_P_hasParameter hc8) rfl rfl (Nat.le_of_ble_eq_true rfl) ?_
    rw [hpr_nn hc8 hp4 (by omega) (by omega)]
    first | refine x_if_eqB (pc := 21) (tgt := 41) d_P_mayStand_21 rfl ?_ ?_ | refine x_if_eqL (pc := 21) (tgt := 41) d_P_mayStand_21 rfl ?_ ?_ | refine x_if_eqN (pc := 21) (tgt := 41) d_P_mayStand_21 rfl (by omega) ?_ ?_ | refine x_if_eq (pc := 21) (tgt := 41) d_P_mayStand_21 rfl ?_ ?_
    · intro h21
      have g21 := of_decide_eq_false h21
      refine x_iconst (pc := 41) (nI 0) d_P_mayStand_41 (by decide) ?_
      refine x_zret (pc := 42) d_P_mayStand_42 rfl (by first | rfl | exact bI_narrow _) ?_
      first
        | exact zt (mst_t ((mso_par hb1 hb2).mpr ⟨g21.1, g21.2, (hli lx _ hlx (by omega)).mp h34⟩))
        | exact zf (mst_f (fun z => g21 ⟨((mso_par hb1 hb2).mp z).1, ((mso_par hb1 hb2).mp z).2.1⟩))
        | exact zf (mst_f (fun z => by
            have q := ((mso_par hb1 hb2).mp z).2.2
            rw [(hli lx _ hlx (by omega)).mpr q] at h34
            cases h34))
    · intro h21
      have g21 := of_decide_eq_true h21
      refine x_aload_n (pc := 24) d_P_mayStand_24 1 rfl ?_
      refine x_get (pc := 25) (ci := 2) d_P_mayStand_25 in_P rfl 2 (by decide) k_P_18 1 rfl rfl ?_
      refine x_iload_n (pc := 28) d_P_mayStand_28 2 rfl ?_
      refine x_ialdN (pc := 29) d_P_mayStand_29 6 0 rfl rfl (by decide) (by omega) ?_
      refine x_iload_n (pc := 30) d_P_mayStand_30 0 rfl ?_
      refine x_callSN_I (pc := 31) d_P_mayStand_31 k_P_52 ws_C_has w_C_has ini_C wd_C_has ⟨by decide, by decide⟩ ⟨rfl, rfl⟩ ⟨Nat.zero_le _, Nat.zero_le _⟩ (t_C_has (by omega)) rfl rfl (Nat.le_of_ble_eq_true rfl) ?_
      first | refine x_if_eqB (pc := 34) (tgt := 41) d_P_mayStand_34 rfl ?_ ?_ | refine x_if_eqL (pc := 34) (tgt := 41) d_P_mayStand_34 rfl ?_ ?_ | refine x_if_eqN (pc := 34) (tgt := 41) d_P_mayStand_34 rfl (by omega) ?_ ?_ | refine x_if_eq (pc := 34) (tgt := 41) d_P_mayStand_34 rfl ?_ ?_
      · intro h34
        refine x_iconst (pc := 41) (nI 0) d_P_mayStand_41 (by decide) ?_
        refine x_zret (pc := 42) d_P_mayStand_42 rfl (by first | rfl | exact bI_narrow _) ?_
        first
          | exact zt (mst_t ((mso_par hb1 hb2).mpr ⟨g21.1, g21.2, (hli lx _ hlx (by omega)).mp h34⟩))
          | exact zf (mst_f (fun z => g21 ⟨((mso_par hb1 hb2).mp z).1, ((mso_par hb1 hb2).mp z).2.1⟩))
          | exact zf (mst_f (fun z => by
              have q := ((mso_par hb1 hb2).mp z).2.2
              rw [(hli lx _ hlx (by omega)).mpr q] at h34
              cases h34))
      · intro h34
        refine x_iconst (pc := 37) (nI 1) d_P_mayStand_37 (by decide) ?_
        refine x_goto (pc := 38) (tgt := 42) d_P_mayStand_38 rfl ?_
        refine x_zret (pc := 42) d_P_mayStand_42 rfl (by first | rfl | exact bI_narrow _) ?_
        first
          | exact zt (mst_t ((mso_par hb1 hb2).mpr ⟨g21.1, g21.2, (hli lx _ hlx (by omega)).mp h34⟩))
          | exact zf (mst_f (fun z => g21 ⟨((mso_par hb1 hb2).mp z).1, ((mso_par hb1 hb2).mp z).2.1⟩))
          | exact zf (mst_f (fun z => by
              have q := ((mso_par hb1 hb2).mp z).2.2
              rw [(hli lx _ hlx (by omega)).mpr q] at h34
              cases h34))
set_option maxHeartbeats 4000000 in
set_option maxRecDepth 100000 in
theorem t_P_append {x y : Int32} (hw : pwf cnt par prm siz atm) (hli : linok cnt par lin) : CT l y_P_append c_P_append 3 (some .boolean) (rmm 3 66) (gG D cI cL) [.ref (ad 1), .int x, .int y] (wC ad cI cL par prm lin siz atm cnt own out bnd cal opr n ph oc P Q OC OP F S R vis nc gr md) (fun v w2 => (∃ lx b, putok cnt par prm siz x y lx b ∧ v = some (.int (bI true)) ∧ w2 = (wC ad cI cL par prm lin (un siz lx (siz lx + 1)) (un atm (4 * lx + siz lx) b) cnt own out bnd cal opr n ph oc P Q OC OP F S R vis nc gr md)) ∨ ((¬ ∃ lx b, putok cnt par prm siz x y lx b) ∧ v = some (.int (bI false)) ∧ w2 = (wC ad cI cL par prm lin siz atm cnt own out bnd cal opr n ph oc P Q OC OP F S R vis nc gr md))) := by
  refine CT.of R_P (by decide) rfl (Nat.le_of_ble_eq_true rfl) ?_
  intro E A hname
  have hc8 : cnt ≤ 8 := hw.2.1
  refine x_aload_n (pc := 0) d_P_append_0 0 rfl ?_
  refine x_iload_n (pc := 1) d_P_append_1 1 rfl ?_
  refine x_callV_I (pc := 2) (ci := 2) d_P_append_2 k_P_31 wi_P_hasLambda wv_P_hasLambda w_P_hasLambda ini_P wd_P_hasLambda ⟨by decide, by decide⟩ ⟨rfl, rfl⟩ ⟨Nat.zero_le _, Nat.zero_le _⟩ 1 rfl rfl (t_P_hasLambda) rfl rfl (Nat.le_of_ble_eq_true rfl) ?_
  first | refine x_if_eqB (pc := 5) (tgt := 27) d_P_append_5 rfl ?_ ?_ | refine x_if_eqL (pc := 5) (tgt := 27) d_P_append_5 rfl ?_ ?_ | refine x_if_eqN (pc := 5) (tgt := 27) d_P_append_5 rfl (by omega) ?_ ?_ | refine x_if_eq (pc := 5) (tgt := 27) d_P_append_5 rfl ?_ ?_
  · intro h5
    refine x_iconst (pc := 27) (nI 0) d_P_append_27 (by decide) ?_
    refine x_zret (pc := 28) d_P_append_28 rfl (by first | rfl | exact bI_narrow _) ?_
    refine Or.inr ⟨fun q => ?_, rfl, rfl⟩
    obtain ⟨l2, b2, q1, q2, q3, q4, q5, q6⟩ := q
    first
      | (subst q5; rw [hl_in hc8 q1] at h5; cases h5)
      | (have e := nI_inj (by omega) (by omega) q5; subst e; omega)
      | (have e := nI_inj (by omega) (by omega) q5; subst e; exact mst_no h24 ⟨b2, q3, q6, q4⟩)
  · intro h5
    obtain ⟨lx, hlx, rfl⟩ := hl_of hc8 h5
    have hz := hw.2.2.2.2.2.1 lx (by omega)
    refine x_aload_n (pc := 8) d_P_append_8 0 rfl ?_
    refine x_get (pc := 9) (ci := 2) d_P_append_9 in_P rfl 3 (by decide) k_P_21 1 rfl rfl ?_
    refine x_iload_n (pc := 12) d_P_append_12 1 rfl ?_
    refine x_ialdN (pc := 13) d_P_append_13 7 0 rfl rfl (by decide) (by omega) ?_
    refine x_iconst (pc := 14) (nI 4) d_P_append_14 (by decide) ?_
    first | refine x_icmp_eqN (pc := 15) (tgt := 27) d_P_append_15 rfl (by omega) (by omega) ?_ ?_ | refine x_icmp_eq (pc := 15) (tgt := 27) d_P_append_15 rfl ?_ ?_
    · intro h15
      refine x_iconst (pc := 27) (nI 0) d_P_append_27 (by decide) ?_
      refine x_zret (pc := 28) d_P_append_28 rfl (by first | rfl | exact bI_narrow _) ?_
      refine Or.inr ⟨fun q => ?_, rfl, rfl⟩
      obtain ⟨l2, b2, q1, q2, q3, q4, q5, q6⟩ := q
      first
        | (subst q5; rw [hl_in hc8 q1] at h5; cases h5)
        | (have e := nI_inj (by omega) (by omega) q5; subst e; omega)
        | (have e := nI_inj (by omega) (by omega) q5; subst e; exact mst_no h24 ⟨b2, q3, q6, q4⟩)
    · intro h15
      refine x_aload_n (pc := 18) d_P_append_18 0 rfl ?_
      refine x_iload_n (pc := 19) d_P_append_19 1 rfl ?_
      refine x_iload_n (pc := 20) d_P_append_20 2 rfl ?_
      refine x_callV_I (pc := 21) (ci := 2) d_P_append_21 k_P_35 wi_P_mayStand wv_P_mayStand w_P_mayStand ini_P wd_P_mayStand ⟨by decide, by decide⟩ ⟨rfl, rfl⟩ ⟨Nat.zero_le _, Nat.zero_le _⟩ 1 rfl rfl (t_P_mayStand hw hli hlx) rfl rfl (Nat.le_of_ble_eq_true rfl) ?_
      first | refine x_if_neB (pc := 24) (tgt := 29) d_P_append_24 rfl ?_ ?_ | refine x_if_neL (pc := 24) (tgt := 29) d_P_append_24 rfl ?_ ?_ | refine x_if_neN (pc := 24) (tgt := 29) d_P_append_24 rfl (by omega) ?_ ?_ | refine x_if_ne (pc := 24) (tgt := 29) d_P_append_24 rfl ?_ ?_
      · intro h24
        obtain ⟨b, hb, rfl, hok⟩ := mst_of h24
        refine x_aload_n (pc := 29) d_P_append_29 0 rfl ?_
        refine x_get (pc := 30) (ci := 2) d_P_append_30 in_P rfl 4 (by decide) k_P_24 1 rfl rfl ?_
        refine x_iload_n (pc := 33) d_P_append_33 1 rfl ?_
        refine x_iconst (pc := 34) (nI 4) d_P_append_34 (by decide) ?_
        first | refine x_imulN (pc := 35) d_P_append_35 ?_ | refine x_imul (pc := 35) d_P_append_35 ?_
        refine x_aload_n (pc := 36) d_P_append_36 0 rfl ?_
        refine x_get (pc := 37) (ci := 2) d_P_append_37 in_P rfl 3 (by decide) k_P_21 1 rfl rfl ?_
        refine x_iload_n (pc := 40) d_P_append_40 1 rfl ?_
        refine x_ialdN (pc := 41) d_P_append_41 7 0 rfl rfl (by decide) (by omega) ?_
        first | refine x_iaddN (pc := 42) d_P_append_42 ?_ | refine x_iadd (pc := 42) d_P_append_42 ?_
        refine x_iload_n (pc := 43) d_P_append_43 2 rfl ?_
        rw [Nat.mul_comm lx 4]
        first | refine x_iastU (pc := 44) d_P_append_44 8 0 rfl rfl (by decide) (by omega) ?_ | refine x_iastN (pc := 44) d_P_append_44 8 0 rfl rfl (by decide) (by omega) _ rfl ?_
        refine x_aload_n (pc := 45) d_P_append_45 0 rfl ?_
        refine x_get (pc := 46) (ci := 2) d_P_append_46 in_P rfl 3 (by decide) k_P_21 1 rfl rfl ?_
        refine x_iload_n (pc := 49) d_P_append_49 1 rfl ?_
        refine x_dup2 (pc := 50) d_P_append_50 rfl rfl ?_
        refine x_ialdN (pc := 51) d_P_append_51 7 0 rfl rfl (by decide) (by omega) ?_
        refine x_iconst (pc := 52) (nI 1) d_P_append_52 (by decide) ?_
        first | refine x_iaddN (pc := 53) d_P_append_53 ?_ | refine x_iadd (pc := 53) d_P_append_53 ?_
        first | refine x_iastU (pc := 54) d_P_append_54 7 0 rfl rfl (by decide) (by omega) ?_ | refine x_iastN (pc := 54) d_P_append_54 7 0 rfl rfl (by decide) (by omega) _ rfl ?_
        refine x_iconst (pc := 55) (nI 1) d_P_append_55 (by decide) ?_
        refine x_zret (pc := 56) d_P_append_56 rfl (by first | rfl | exact bI_narrow _) ?_
        exact Or.inl ⟨lx, b, ⟨hlx, by omega, hb, hok, rfl, rfl⟩, rfl, rfl⟩
      · intro h24
        refine x_iconst (pc := 27) (nI 0) d_P_append_27 (by decide) ?_
        refine x_zret (pc := 28) d_P_append_28 rfl (by first | rfl | exact bI_narrow _) ?_
        refine Or.inr ⟨fun q => ?_, rfl, rfl⟩
        obtain ⟨l2, b2, q1, q2, q3, q4, q5, q6⟩ := q
        first
          | (subst q5; rw [hl_in hc8 q1] at h5; cases h5)
          | (have e := nI_inj (by omega) (by omega) q5; subst e; omega)
          | (have e := nI_inj (by omega) (by omega) q5; subst e; exact mst_no h24 ⟨b2, q3, q6, q4⟩)
end PROG
end
section
/-! Rows for the machine's contracts -/
theorem cell_i {cA : ClassId} {n : Nat} {f g : Nat → Int32} (h : ∀ j, j < n → f j = g j) : vp_cell cA (n, .inl f) = vp_cell cA (n, .inl g) := by
  rw [vp_cell_i, vp_cell_i]
  unfold arrV
  congr 1
  congr 1
  funext j
  show Value.int (f j.val) = Value.int (g j.val)
  rw [h j.val j.isLt]
theorem cell_l {cA : ClassId} {n : Nat} {f g : Nat → Int64} (h : ∀ j, j < n → f j = g j) : vp_cell cA (n, .inr (.inl f)) = vp_cell cA (n, .inr (.inl g)) := by
  rw [vp_cell_l, vp_cell_l]
  unfold arrV
  congr 1
  congr 1
  funext j
  show Value.long (f j.val) = Value.long (g j.val)
  rw [h j.val j.isLt]
section XR
variable {E : XE} {l : Launch} {R : Room} {cc : ByteArray} {nL : Nat} {ret : Option FieldType} {own : String} {G : XG} {A : Nat → Prop} {mc ms : Nat} {post : Option Value → va_W → Prop} {kc ks : Nat} {w : va_W} {pc : Nat} {lv : List (Nat × Value)} {st : List Value}
/-- what a row's function says beyond the row's end doesn't matter -/
theorem x_row {cA : ClassId} {n a : Nat} {f : Nat → Int32} (g : Nat → Int32) (q0 : Nat) (hq : w[q0]? = some (a, .inl (cA, n, .inl f))) (h : ∀ j, j < n → f j = g j) (k1 : xj E l R cc nL ret own G A mc ms post kc ks (w.set q0 (a, .inl (cA, n, .inl g))) pc lv st) : xj E l R cc nL ret own G A mc ms post kc ks w pc lv st := by
  intro cx hA H locs ls hP hD hS hl
  refine k1 cx hA H locs ls (hP.set hD hq ?_ (fun _ _ => rfl)) (hD.set hq) hS hl
  have h1 := hP q0 _ hq
  show H[a]? = some (vp_cell cA (n, .inl g))
  rw [← cell_i h]
  exact h1
theorem x_rowL {cA : ClassId} {n a : Nat} {f : Nat → Int64} (g : Nat → Int64) (q0 : Nat) (hq : w[q0]? = some (a, .inl (cA, n, .inr (.inl f)))) (h : ∀ j, j < n → f j = g j) (k1 : xj E l R cc nL ret own G A mc ms post kc ks (w.set q0 (a, .inl (cA, n, .inr (.inl g)))) pc lv st) : xj E l R cc nL ret own G A mc ms post kc ks w pc lv st := by
  intro cx hA H locs ls hP hD hS hl
  refine k1 cx hA H locs ls (hP.set hD hq ?_ (fun _ _ => rfl)) (hD.set hq) hS hl
  have h1 := hP q0 _ hq
  show H[a]? = some (vp_cell cA (n, .inr (.inl g)))
  rw [← cell_l h]
  exact h1
end XR
theorem mf_hit {own out : Nat → Nat} {lam f e : Nat} (h : own e = lam) : mf own out lam (f + 1) e = some e := by
  unfold mf
  rw [if_pos h]
theorem mf_step {own out : Nat → Nat} {lam f e : Nat} (h : ¬ own e = lam) : mf own out lam (f + 1) e = mf own out lam f (out e) := by
  conv => lhs; unfold mf
  rw [if_neg h]
/-- what value(x, i) reads -/
def bval (cnt : Nat) (prm : Nat → Nat) (n : Nat) (own out bnd : Nat → Nat) (x i : Int32) : Int32 := if hpr cnt prm x i = true then (match mf own out x.toNatClampNeg 8 n with | some e => nI (bnd (3 * e + i.toNatClampNeg)) | none => -1) else -1
theorem bval_no {cnt : Nat} {prm : Nat → Nat} {n : Nat} {own out bnd : Nat → Nat} {x i : Int32} (h : hpr cnt prm x i = false) : bval cnt prm n own out bnd x i = -1 := by
  unfold bval
  rw [h]
  rfl
theorem bval_in {cnt : Nat} {prm : Nat → Nat} {n : Nat} {own out bnd : Nat → Nat} {lx ix : Nat} (h : hpr cnt prm (nI lx) (nI ix) = true) (h1 : lx < 2147483648) (h2 : ix < 2147483648) : bval cnt prm n own out bnd (nI lx) (nI ix) = match mf own out lx 8 n with | some e => nI (bnd (3 * e + ix)) | none => -1 := by
  unfold bval
  rw [h, nI_clamp h1, nI_clamp h2]
  rfl
theorem bval_some {cnt : Nat} {prm : Nat → Nat} {n : Nat} {own out bnd : Nat → Nat} {lx ix e : Nat} (h : hpr cnt prm (nI lx) (nI ix) = true) (h1 : lx < 2147483648) (h2 : ix < 2147483648) (he : mf own out lx 8 n = some e) : bval cnt prm n own out bnd (nI lx) (nI ix) = nI (bnd (3 * e + ix)) := by
  rw [bval_in h h1 h2, he]
theorem bval_none {cnt : Nat} {prm : Nat → Nat} {n : Nat} {own out bnd : Nat → Nat} {lx ix : Nat} (h : hpr cnt prm (nI lx) (nI ix) = true) (h1 : lx < 2147483648) (h2 : ix < 2147483648) (he : mf own out lx 8 n = none) : bval cnt prm n own out bnd (nI lx) (nI ix) = -1 := by
  rw [bval_in h h1 h2, he]
/-- what an action does to the machine; g: the arguments -/
def mdo (act : Nat × Nat × Nat × Nat × Nat) (g : Nat → Nat) (s : AM) : AM :=
  match act with
  | (2, m, e, k, _) => if s.1 = 64 then (s.1, s.2.1, s.2.2.1, s.2.2.2.1, s.2.2.2.2.1, 4, s.2.2.2.2.2.2) else (s.1 + 1, un s.2.1 (s.1 + 1) m, un s.2.2.1 (s.1 + 1) e, bst s.2.2.2.1 (3 * (s.1 + 1)) g k, upd s.2.2.2.2.1 (s.2.1 s.1) (s.2.2.2.2.1 (s.2.1 s.1) ||| 1 <<< (nI m &&& 31)), s.2.2.2.2.2.1, s.2.2.2.2.2.2)
  | (1, _, _, _, x) => (s.1, s.2.1, s.2.2.1, s.2.2.2.1, s.2.2.2.2.1, 2, x)
  | _ => (s.1, s.2.1, s.2.2.1, s.2.2.2.1, s.2.2.2.2.1, 3, s.2.2.2.2.2.2)
theorem bst_congr {bnd : Nat → Nat} {b : Nat} {f g : Nat → Nat} : ∀ k, (∀ i, i < k → f i = g i) → bst bnd b f k = bst bnd b g k
  | 0, _ => rfl
  | k + 1, h => by
    show un (bst bnd b f k) (b + k) (f k) = un (bst bnd b g k) (b + k) (g k)
    rw [bst_congr k (fun i hi => h i (by omega)), h k (by omega)]
theorem mwf.out_le {cnt : Nat} {par : Nat → Int32} {prm : Nat → Nat} {n : Nat} {own out bnd : Nat → Nat} (h : mwf cnt par prm n own out bnd) {e : Nat} (he : e ≤ n) : out e ≤ n := by
  rcases Nat.eq_zero_or_pos e with e0 | e0
  · subst e0
    rw [h.2.2.1]
    omega
  · have := (h.2.2.2.1 e e0 he).2.2.1
    omega
theorem bval_mval {cnt : Nat} {par : Nat → Int32} {prm siz atm : Nat → Nat} {n : Nat} {own out bnd : Nat → Nat} {b : Nat} (hw : pwf cnt par prm siz atm) (hm : mwf cnt par prm n own out bnd) (hb : aok cnt par prm (own n) b) (h1 : 100 ≤ b) (h2 : b < 180) : bval cnt prm n own out bnd (nI ((b - 100) / 10)) (nI ((b - 100) % 10)) = nI (mval n own out bnd b) := by
  have hc8 : cnt ≤ 8 := hw.2.1
  rcases hb with q | q | ⟨_, _, q3, q4, q5⟩ | q
  · omega
  · omega
  · have ho := hm.own_lt hw.1 (Nat.le_refl n)
    obtain ⟨e, he⟩ := mf_found hm hw.2.2.1 hc8 hw.1 8 n (Nat.le_refl n) (by omega) q5
    have hp : hpr cnt prm (nI ((b - 100) / 10)) (nI ((b - 100) % 10)) = true := by
      rw [hpr_nn hc8 (fun l h => Nat.le_trans (hw.2.2.2.1 l h) (by omega)) (by omega) (by omega)]
      exact decide_eq_true ⟨q3, q4⟩
    rw [bval_some hp (by omega) (by omega) he]
    unfold mval
    rw [if_pos ⟨h1, h2⟩, he]
  · omega
/-- the first argument -/
def mfst (len : Nat) (o : Nat → Nat) : Nat := if ((len = 4 ∧ o 1 < 10) ∧ o 0 = 301) ∧ o 2 < 10 then (o 1 + o 2) % 10 else o 1
/-- one step -/
def mstep (prm siz atm : Nat → Nat) (s : AM) : AM := mdo (mact prm (siz (s.2.1 s.1)) (mops atm s)) (mar (mops atm s) (mfst (siz (s.2.1 s.1)) (mops atm s))) s
/-- at most k steps: the machine then, and how many were made -/
def madv (prm siz atm : Nat → Nat) : Nat → AM → AM × Nat
  | 0, s => (s, 0)
  | k + 1, s => if s.2.2.2.2.2.1 = 1 then (if (mstep prm siz atm s).2.2.2.2.2.1 = 4 then (mstep prm siz atm s, 0) else ((madv prm siz atm k (mstep prm siz atm s)).1, (madv prm siz atm k (mstep prm siz atm s)).2 + 1)) else (s, 0)
theorem mdir_2 {prm : Nat → Nat} {f k x : Nat} (h1 : 200 ≤ f % 1000 ∧ f % 1000 < 208) (h2 : prm (f % 1000 - 200) = k) : mdir prm f k x = (2, f % 1000 - 200, f / 1000, k, x) := by
  unfold mdir
  rw [if_pos ⟨h1, h2⟩]
theorem mdir_1 {prm : Nat → Nat} {f k x : Nat} (h1 : f = 300) (h2 : k = 1) : mdir prm f k x = (1, 0, 0, k, x) := by
  unfold mdir
  rw [if_neg (fun q => by have := q.1; omega), if_pos ⟨h1, h2⟩]
theorem mdir_0 {prm : Nat → Nat} {f k x : Nat} (h1 : ¬ ((200 ≤ f % 1000 ∧ f % 1000 < 208) ∧ prm (f % 1000 - 200) = k)) (h2 : ¬ (f = 300 ∧ k = 1)) : mdir prm f k x = (0, 0, 0, 0, 0) := by
  unfold mdir
  rw [if_neg h1, if_neg h2]
theorem mdo_full {m e k x : Nat} {g : Nat → Nat} {n : Nat} {own out bnd : Nat → Nat} {cal : Nat → Int32} {ph oc : Nat} (h : n = 64) : mdo (2, m, e, k, x) g (n, own, out, bnd, cal, ph, oc) = (n, own, out, bnd, cal, 4, oc) := by
  unfold mdo
  exact if_pos h
theorem mdo_enter {m e k x : Nat} {g : Nat → Nat} {n : Nat} {own out bnd : Nat → Nat} {cal : Nat → Int32} {ph oc : Nat} (h : ¬ n = 64) : mdo (2, m, e, k, x) g (n, own, out, bnd, cal, ph, oc) = (n + 1, un own (n + 1) m, un out (n + 1) e, bst bnd (3 * (n + 1)) g k, upd cal (own n) (cal (own n) ||| 1 <<< (nI m &&& 31)), ph, oc) := by
  unfold mdo
  exact if_neg h
theorem mar_id (o : Nat → Nat) : mar o (o 1) = fun i => o (1 + i) := by
  funext i
  unfold mar
  split
  · rename_i h
    rw [h]
  · rfl
theorem mar_un (o : Nat → Nat) (x : Nat) : (fun i => un o 1 x (1 + i)) = mar o x := by
  funext i
  unfold mar
  split
  · rename_i h
    rw [h, un_self]
  · rw [un_ne _ _ (by omega)]
theorem bst_s0 (o f : Nat → Nat) (i : Nat) : bst o 0 f (i + 1) = un (bst o 0 f i) i (f i) := by
  show un (bst o 0 f i) (0 + i) (f i) = _
  rw [Nat.zero_add]
theorem mdo_x {prm : Nat → Nat} {f k x x2 : Nat} {g g2 : Nat → Nat} {s : AM} (hx : k = 1 → x = x2) (hg : ∀ i, i < k → g i = g2 i) : mdo (mdir prm f k x) g s = mdo (mdir prm f k x2) g2 s := by
  unfold mdir
  split
  · obtain ⟨n, own, out, bnd, cal, ph, oc⟩ := s
    by_cases h6 : n = 64
    · rw [mdo_full h6, mdo_full h6]
    · rw [mdo_enter h6, mdo_enter h6, bst_congr k hg]
  · split
    · rename_i h
      rw [hx h.2]
      rfl
    · rfl
/-- what a step does speaks of the call's atoms alone -/
theorem mdo_congr {prm : Nat → Nat} {len : Nat} {o o2 : Nat → Nat} {s : AM} (hl : len ≤ 4) (h : ∀ i, i < len → o i = o2 i) : mdo (mact prm len o) (mar o (mfst len o)) s = mdo (mact prm len o2) (mar o2 (mfst len o2)) s := by
  unfold mact mfst
  by_cases h0 : len = 0
  · rw [if_pos h0, if_pos h0]
    rfl
  · rw [if_neg h0, if_neg h0]
    by_cases h4 : len = 4
    · rw [h 0 (by omega), h 1 (by omega), h 2 (by omega), h 3 (by omega)]
      have hm : ∀ x, mar o x = mar o2 x ∨ True := fun _ => Or.inr trivial
      have ha : ∀ x i, i < 3 → mar o x i = mar o2 x i := by
        intro x i hi
        unfold mar
        split
        · rfl
        · exact h (1 + i) (by omega)
      split
      · exact mdo_x (fun _ => rfl) (fun i hi => absurd hi (Nat.not_lt_zero i))
      · split
        · exact mdo_x (fun _ => rfl) (fun i hi => ha _ i (by omega))
        · exact mdo_x (fun _ => rfl) (fun i hi => ha _ i (by omega))
    · have e1 : ∀ q : Nat → Nat, ¬ ((len = 4 ∧ q 1 < 10) ∧ q 0 = 302) := fun q z => h4 z.1.1
      have e2 : ∀ q : Nat → Nat, ¬ (((len = 4 ∧ q 1 < 10) ∧ q 0 = 301) ∧ q 2 < 10) := fun q z => h4 z.1.1.1
      rw [if_neg (e1 o), if_neg (e1 o2), if_neg (e2 o), if_neg (e2 o2), if_neg (e2 o), if_neg (e2 o2), h 0 (by omega)]
      refine mdo_x (fun z => h 1 (by omega)) (fun i hi => ?_)
      unfold mar
      split
      · exact h 1 (by omega)
      · exact h (1 + i) (by omega)
theorem mact_if {prm : Nat → Nat} {k f : Nat} {o : Nat → Nat} {s : AM} (h3 : k = 3) (h1 : o 1 < 10) (h0 : o 0 = 302) (hf : f = if o 1 = 0 then o 2 else o 3) : mdo (mact prm (k + 1) o) (mar o (mfst (k + 1) o)) s = mdo (mdir prm f 0 (o 1)) (fun i => o (1 + i)) s := by
  subst h3
  unfold mact
  rw [if_neg (by omega), if_pos ⟨⟨rfl, h1⟩, h0⟩, hf]
  exact mdo_x (fun q => absurd q (by decide)) (fun i hi => absurd hi (Nat.not_lt_zero i))
theorem mact_add {prm : Nat → Nat} {k : Nat} {o : Nat → Nat} {s : AM} (h3 : k = 3) (h1 : o 1 < 10) (h0 : o 0 = 301) (h2 : o 2 < 10) : mdo (mact prm (k + 1) o) (mar o (mfst (k + 1) o)) s = mdo (mdir prm (un o 1 ((o 1 + o 2) % 10) 3) 1 (un o 1 ((o 1 + o 2) % 10) 1)) (fun i => un o 1 ((o 1 + o 2) % 10) (1 + i)) s := by
  subst h3
  unfold mact mfst
  rw [if_neg (by omega), if_neg (fun q => by have := q.2; omega), if_pos ⟨⟨⟨rfl, h1⟩, h0⟩, h2⟩, if_pos ⟨⟨⟨rfl, h1⟩, h0⟩, h2⟩, mar_un, un_self, un_ne _ _ (by decide)]
theorem mact_oth {prm : Nat → Nat} {k : Nat} {o : Nat → Nat} {s : AM} (h1 : ¬ ((k = 3 ∧ o 1 < 10) ∧ o 0 = 302)) (h2 : ¬ (((k = 3 ∧ o 1 < 10) ∧ o 0 = 301) ∧ o 2 < 10)) : mdo (mact prm (k + 1) o) (mar o (mfst (k + 1) o)) s = mdo (mdir prm (o 0) k (o 1)) (fun i => o (1 + i)) s := by
  unfold mact mfst
  rw [if_neg (by omega), if_neg (fun q => h1 ⟨⟨by omega, q.1.2⟩, q.2⟩), if_neg (fun q => h2 ⟨⟨⟨by omega, q.1.1.2⟩, q.1.2⟩, q.2⟩), if_neg (fun q => h2 ⟨⟨⟨by omega, q.1.1.2⟩, q.1.2⟩, q.2⟩), mar_id]
  rfl
theorem un_small {o : Nat → Nat} {x : Nat} (h : ∀ i, i < 4 → o i < 100000) (hx : x < 100000) : ∀ i, i < 4 → un o 1 x i < 100000 := by
  intro i hi
  by_cases e : i = 1
  · rw [e, un_self]
    exact hx
  · rw [un_ne _ _ e]
    exact h i hi
theorem bst_small {o f : Nat → Nat} (h : ∀ i, i < 4 → o i < 100000) : ∀ k, (∀ i, i < k → f i < 100000) → ∀ i, i < 4 → bst o 0 f k i < 100000
  | 0, _, i, hi => h i hi
  | k + 1, hf, i, hi => by
    rw [bst_s0]
    by_cases e : i = k
    · rw [e, un_self]
      exact hf k (by omega)
    · rw [un_ne _ _ e]
      exact bst_small h k (fun j hj => hf j (by omega)) i hi
end
section
section MACH
variable {l : Launch} {D : va_G} {ad : Nat → Nat} {cI cL : ClassId} {par : Nat → Int32} {prm : Nat → Nat} {lin : Nat → Int32} {siz atm : Nat → Nat} {cnt : Nat} {own out bnd : Nat → Nat} {cal : Nat → Int32} {opr : Nat → Nat} {n ph oc : Nat} {P : Nat → Int32} {Q : Nat → Int64} {OC : Nat → Int32} {OP : Nat → Int64} {F : Nat → Int32} {S : Int64} {R : Int32} {vis nc : Nat} {gr md : Bool}
set_option maxHeartbeats 4000000 in
set_option maxRecDepth 100000 in
theorem t_JA_fill {aa nn : Nat} {f : Nat → Int32} {x : Int32} (hn : nn < 2147483648) : CT l y_JA_fill c_JA_fill 4 none (rmm 0 0) (gG D cI cL) [.ref aa, .int x] [(aa, .inl (cI, nn, .inl f))] (fun v w2 => ∃ e1, (v = none ∧ e1 = .inl (cI, nn, .inl (fun _ => x))) ∧ w2 = [(aa, e1)]) := by
  refine CT.of R_JA (by decide) rfl (Nat.le_of_ble_eq_true rfl) ?_
  intro E A hname
  refine x_iconst (pc := 0) (nI 0) d_JA_fill_0 (by decide) ?_
  refine x_istore_n (pc := 1) d_JA_fill_1 rfl (by decide) [(2, _), (0, _), (1, _)] rfl ?_
  refine x_aload_n (pc := 2) d_JA_fill_2 1 rfl ?_
  refine x_alen (pc := 3) d_JA_fill_3 0 0 rfl rfl ?_
  refine x_istore_n (pc := 4) d_JA_fill_4 rfl (by decide) [(3, _), (2, _), (0, _), (1, _)] rfl ?_
  have hlp : ∀ (fuel : Nat) (i : Nat) (g : Nat → Int32), nn - i < fuel → (i ≤ nn) → (∀ j, j < i → g j = x) → xj E l (rmm 0 0) c_JA_fill 4 none R_JA (gG D cI cL) A 0 0 (fun v w2 => ∃ e1, (v = none ∧ e1 = .inl (cI, nn, .inl (fun _ => x))) ∧ w2 = [(aa, e1)]) 0 0 [(aa, .inl (cI, nn, .inl g))] 5 [(2, .int (nI i)), (3, .int (nI nn)), (0, .ref aa), (1, .int x)] [] := by
    intro fuel
    induction fuel with
    | zero => intro i g hf; exact absurd hf (Nat.not_lt_zero _)
    | succ fuel ih =>
      intro i g hf hi hg
      refine x_iload_n (pc := 5) d_JA_fill_5 0 rfl ?_
      refine x_iload_n (pc := 6) d_JA_fill_6 1 rfl ?_
      first | refine x_icmp_geN (pc := 7) (tgt := 20) d_JA_fill_7 rfl (by omega) (by omega) ?_ ?_ | refine x_icmp_ge (pc := 7) (tgt := 20) d_JA_fill_7 rfl ?_ ?_
      · intro h7
        refine x_row (fun _ => x) 0 rfl (fun j hj => hg j (by omega)) ?_
        refine x_vret (pc := 20) d_JA_fill_20 rfl ?_
        exact ⟨_, ⟨rfl, rfl⟩, rfl⟩
      · intro h7
        refine x_aload_n (pc := 10) d_JA_fill_10 2 rfl ?_
        refine x_iload_n (pc := 11) d_JA_fill_11 0 rfl ?_
        refine x_iload_n (pc := 12) d_JA_fill_12 3 rfl ?_
        first | refine x_iastU (pc := 13) d_JA_fill_13 0 0 rfl rfl (by omega) (by omega) ?_ | refine x_iastN (pc := 13) d_JA_fill_13 0 0 rfl rfl (by omega) (by omega) _ rfl ?_
        refine x_iincN (pc := 14) d_JA_fill_14 0 rfl (by decide) [(2, _), (3, _), (0, _), (1, _)] rfl ?_
        refine x_goto (pc := 17) (tgt := 5) d_JA_fill_17 rfl ?_
        refine x_sub [0, 1, 2, 3] _ rfl ?_
        refine ih (i + 1) (upd g i x) (by omega) (by omega) (fun j hj => ?_)
        by_cases e : j = i
        · rw [e, upd_self]
        · rw [upd_ne _ _ e]
          exact hg j (by omega)
  refine x_sub [1, 0, 2, 3] _ rfl ?_
  exact hlp (nn + 1) 0 f (by omega) (by omega) (fun j hj => absurd hj (Nat.not_lt_zero j))
set_option maxHeartbeats 4000000 in
set_option maxRecDepth 100000 in
theorem t_JA_fill_JJV {aa nn : Nat} {f : Nat → Int64} {x : Int64} (hn : nn < 2147483648) : CT l y_JA_fill_JJV c_JA_fill_JJV 5 none (rmm 0 0) (gG D cI cL) [.ref aa, .long x] [(aa, .inl (cL, nn, .inr (.inl f)))] (fun v w2 => ∃ e1, (v = none ∧ e1 = .inl (cL, nn, .inr (.inl (fun _ => x)))) ∧ w2 = [(aa, e1)]) := by
  refine CT.of R_JA (by decide) rfl (Nat.le_of_ble_eq_true rfl) ?_
  intro E A hname
  refine x_iconst (pc := 0) (nI 0) d_JA_fill_JJV_0 (by decide) ?_
  refine x_istore_n (pc := 1) d_JA_fill_JJV_1 rfl (by decide) [(3, _), (0, _), (1, _)] rfl ?_
  refine x_aload_n (pc := 2) d_JA_fill_JJV_2 1 rfl ?_
  refine x_alen (pc := 3) d_JA_fill_JJV_3 0 1 rfl rfl ?_
  refine x_istore (pc := 4) d_JA_fill_JJV_4 (by decide) [(4, _), (3, _), (0, _), (1, _)] rfl ?_
  have hlp : ∀ (fuel : Nat) (i : Nat) (g : Nat → Int64), nn - i < fuel → (i ≤ nn) → (∀ j, j < i → g j = x) → xj E l (rmm 0 0) c_JA_fill_JJV 5 none R_JA (gG D cI cL) A 0 0 (fun v w2 => ∃ e1, (v = none ∧ e1 = .inl (cL, nn, .inr (.inl (fun _ => x)))) ∧ w2 = [(aa, e1)]) 0 0 [(aa, .inl (cL, nn, .inr (.inl g)))] 6 [(3, .int (nI i)), (4, .int (nI nn)), (0, .ref aa), (1, .long x)] [] := by
    intro fuel
    induction fuel with
    | zero => intro i g hf; exact absurd hf (Nat.not_lt_zero _)
    | succ fuel ih =>
      intro i g hf hi hg
      refine x_iload_n (pc := 6) d_JA_fill_JJV_6 0 rfl ?_
      refine x_iload (pc := 7) d_JA_fill_JJV_7 1 rfl ?_
      first | refine x_icmp_geN (pc := 9) (tgt := 22) d_JA_fill_JJV_9 rfl (by omega) (by omega) ?_ ?_ | refine x_icmp_ge (pc := 9) (tgt := 22) d_JA_fill_JJV_9 rfl ?_ ?_
      · intro h9
        refine x_rowL (fun _ => x) 0 rfl (fun j hj => hg j (by omega)) ?_
        refine x_vret (pc := 22) d_JA_fill_JJV_22 rfl ?_
        exact ⟨_, ⟨rfl, rfl⟩, rfl⟩
      · intro h9
        refine x_aload_n (pc := 12) d_JA_fill_JJV_12 2 rfl ?_
        refine x_iload_n (pc := 13) d_JA_fill_JJV_13 0 rfl ?_
        refine x_lload_n (pc := 14) d_JA_fill_JJV_14 3 rfl ?_
        refine x_lastN (pc := 15) d_JA_fill_JJV_15 0 1 rfl rfl (by omega) (by omega) (_) (rfl) ?_
        refine x_iincN (pc := 16) d_JA_fill_JJV_16 0 rfl (by decide) [(3, _), (4, _), (0, _), (1, _)] rfl ?_
        refine x_goto (pc := 19) (tgt := 6) d_JA_fill_JJV_19 rfl ?_
        refine x_sub [0, 1, 2, 3] _ rfl ?_
        refine ih (i + 1) (vp_updL g i x) (by omega) (by omega) (fun j hj => ?_)
        by_cases e : j = i
        · rw [e, updL_self]
        · rw [updL_ne _ _ e]
          exact hg j (by omega)
  refine x_sub [1, 0, 2, 3] _ rfl ?_
  exact hlp (nn + 1) 0 f (by omega) (by omega) (fun j hj => absurd hj (Nat.not_lt_zero j))
set_option maxHeartbeats 4000000 in
set_option maxRecDepth 100000 in
theorem t_M_forget  : CT l y_M_forget c_M_forget 1 none (rmm 0 0) (gG D cI cL) [.ref (ad 2)] (wC ad cI cL par prm lin siz atm cnt own out bnd cal opr n ph oc P Q OC OP F S R vis nc gr md) (pV (wC ad cI cL par prm lin siz atm cnt own out bnd cal opr n 0 oc P Q OC OP F S R vis nc gr md)) := by
  refine CT.of R_M (by decide) rfl (Nat.le_of_ble_eq_true rfl) ?_
  intro E A hname
  refine x_aload_n (pc := 0) d_M_forget_0 0 rfl ?_
  refine x_iconst (pc := 1) (nI 0) d_M_forget_1 (by decide) ?_
  refine x_put (pc := 2) (ci := 1) (ty := .int) d_M_forget_2 in_M t_M ty_M nm_M rfl 7 (by decide) k_M_31 rfl (by decide +kernel) rfl rfl 2 rfl (Nat.le_of_ble_eq_true rfl) (_) (rfl) ?_
  refine x_vret (pc := 5) d_M_forget_5 rfl ?_
  exact ⟨rfl, rfl⟩
set_option maxHeartbeats 4000000 in
set_option maxRecDepth 100000 in
theorem t_M_isStarted (hph : ph ≤ 4) : CT l y_M_isStarted c_M_isStarted 1 (some .boolean) (rmm 0 0) (gG D cI cL) [.ref (ad 2)] (wC ad cI cL par prm lin siz atm cnt own out bnd cal opr n ph oc P Q OC OP F S R vis nc gr md) (pI (bI (decide (¬ ph = 0))) (wC ad cI cL par prm lin siz atm cnt own out bnd cal opr n ph oc P Q OC OP F S R vis nc gr md)) := by
  refine CT.of R_M (by decide) rfl (Nat.le_of_ble_eq_true rfl) ?_
  intro E A hname
  refine x_aload_n (pc := 0) d_M_isStarted_0 0 rfl ?_
  refine x_get (pc := 1) (ci := 1) d_M_isStarted_1 in_M rfl 7 (by decide) k_M_31 2 rfl rfl ?_
  first | refine x_if_eqB (pc := 4) (tgt := 11) d_M_isStarted_4 rfl ?_ ?_ | refine x_if_eqL (pc := 4) (tgt := 11) d_M_isStarted_4 rfl ?_ ?_ | refine x_if_eqN (pc := 4) (tgt := 11) d_M_isStarted_4 rfl (by omega) ?_ ?_ | refine x_if_eq (pc := 4) (tgt := 11) d_M_isStarted_4 rfl ?_ ?_
  · intro h4
    refine x_iconst (pc := 11) (nI 0) d_M_isStarted_11 (by decide) ?_
    refine x_zret (pc := 12) d_M_isStarted_12 rfl (by first | rfl | exact bI_narrow _) ?_
    first | exact zt (decide_eq_true h4) | exact zf (decide_eq_false (fun q => q h4))
  · intro h4
    refine x_iconst (pc := 7) (nI 1) d_M_isStarted_7 (by decide) ?_
    refine x_goto (pc := 8) (tgt := 12) d_M_isStarted_8 rfl ?_
    refine x_zret (pc := 12) d_M_isStarted_12 rfl (by first | rfl | exact bI_narrow _) ?_
    first | exact zt (decide_eq_true h4) | exact zf (decide_eq_false (fun q => q h4))
set_option maxHeartbeats 4000000 in
set_option maxRecDepth 100000 in
theorem t_M_phase  : CT l y_M_phase c_M_phase 1 (some .int) (rmm 0 0) (gG D cI cL) [.ref (ad 2)] (wC ad cI cL par prm lin siz atm cnt own out bnd cal opr n ph oc P Q OC OP F S R vis nc gr md) (pI (nI ph) (wC ad cI cL par prm lin siz atm cnt own out bnd cal opr n ph oc P Q OC OP F S R vis nc gr md)) := by
  refine CT.of R_M (by decide) rfl (Nat.le_of_ble_eq_true rfl) ?_
  intro E A hname
  refine x_aload_n (pc := 0) d_M_phase_0 0 rfl ?_
  refine x_get (pc := 1) (ci := 1) d_M_phase_1 in_M rfl 7 (by decide) k_M_31 2 rfl rfl ?_
  refine x_iret (pc := 4) d_M_phase_4 rfl ?_
  exact ⟨rfl, rfl⟩
set_option maxHeartbeats 4000000 in
set_option maxRecDepth 100000 in
theorem t_M_outcome  : CT l y_M_outcome c_M_outcome 1 (some .int) (rmm 0 0) (gG D cI cL) [.ref (ad 2)] (wC ad cI cL par prm lin siz atm cnt own out bnd cal opr n ph oc P Q OC OP F S R vis nc gr md) (pI (nI oc) (wC ad cI cL par prm lin siz atm cnt own out bnd cal opr n ph oc P Q OC OP F S R vis nc gr md)) := by
  refine CT.of R_M (by decide) rfl (Nat.le_of_ble_eq_true rfl) ?_
  intro E A hname
  refine x_aload_n (pc := 0) d_M_outcome_0 0 rfl ?_
  refine x_get (pc := 1) (ci := 1) d_M_outcome_1 in_M rfl 8 (by decide) k_M_44 2 rfl rfl ?_
  refine x_iret (pc := 4) d_M_outcome_4 rfl ?_
  exact ⟨rfl, rfl⟩
set_option maxHeartbeats 4000000 in
set_option maxRecDepth 100000 in
theorem t_M_place (hn : n ≤ 64) : CT l y_M_place c_M_place 1 (some .int) (rmm 0 0) (gG D cI cL) [.ref (ad 2)] (wC ad cI cL par prm lin siz atm cnt own out bnd cal opr n ph oc P Q OC OP F S R vis nc gr md) (pI (nI (own n)) (wC ad cI cL par prm lin siz atm cnt own out bnd cal opr n ph oc P Q OC OP F S R vis nc gr md)) := by
  refine CT.of R_M (by decide) rfl (Nat.le_of_ble_eq_true rfl) ?_
  intro E A hname
  refine x_aload_n (pc := 0) d_M_place_0 0 rfl ?_
  refine x_get (pc := 1) (ci := 1) d_M_place_1 in_M rfl 1 (by decide) k_M_11 2 rfl rfl ?_
  refine x_aload_n (pc := 4) d_M_place_4 0 rfl ?_
  refine x_get (pc := 5) (ci := 1) d_M_place_5 in_M rfl 6 (by decide) k_M_35 2 rfl rfl ?_
  refine x_ialdN (pc := 8) d_M_place_8 9 0 rfl rfl (by omega) (by omega) ?_
  refine x_iret (pc := 9) d_M_place_9 rfl ?_
  exact ⟨rfl, rfl⟩
set_option maxHeartbeats 4000000 in
set_option maxRecDepth 100000 in
theorem t_M_calledFrom {x : Nat} (hx : x < 8) : CT l y_M_calledFrom c_M_calledFrom 2 (some .int) (rmm 0 0) (gG D cI cL) [.ref (ad 2), .int (nI x)] (wC ad cI cL par prm lin siz atm cnt own out bnd cal opr n ph oc P Q OC OP F S R vis nc gr md) (pI (cal x) (wC ad cI cL par prm lin siz atm cnt own out bnd cal opr n ph oc P Q OC OP F S R vis nc gr md)) := by
  refine CT.of R_M (by decide) rfl (Nat.le_of_ble_eq_true rfl) ?_
  intro E A hname
  refine x_aload_n (pc := 0) d_M_calledFrom_0 0 rfl ?_
  refine x_get (pc := 1) (ci := 1) d_M_calledFrom_1 in_M rfl 4 (by decide) k_M_21 2 rfl rfl ?_
  refine x_iload_n (pc := 4) d_M_calledFrom_4 1 rfl ?_
  refine x_ialdN (pc := 5) d_M_calledFrom_5 12 0 rfl rfl (by omega) (by omega) ?_
  refine x_iret (pc := 6) d_M_calledFrom_6 rfl ?_
  exact ⟨rfl, rfl⟩
set_option maxHeartbeats 4000000 in
set_option maxRecDepth 100000 in
theorem t_M_begin  : CT l y_M_begin c_M_begin 1 none (rmm 1 23) (gG D cI cL) [.ref (ad 2)] (wC ad cI cL par prm lin siz atm cnt own out bnd cal opr n ph oc P Q OC OP F S R vis nc gr md) (pV (wC ad cI cL par prm lin siz atm cnt own out bnd (fun _ => 0) opr 0 1 oc P Q OC OP F S R vis nc gr md)) := by
  refine CT.of R_M (by decide) rfl (Nat.le_of_ble_eq_true rfl) ?_
  intro E A hname
  refine x_aload_n (pc := 0) d_M_begin_0 0 rfl ?_
  refine x_iconst (pc := 1) (nI 1) d_M_begin_1 (by decide) ?_
  refine x_put (pc := 2) (ci := 1) (ty := .int) d_M_begin_2 in_M t_M ty_M nm_M rfl 7 (by decide) k_M_31 rfl (by decide +kernel) rfl rfl 2 rfl (Nat.le_of_ble_eq_true rfl) (_) (rfl) ?_
  refine x_aload_n (pc := 5) d_M_begin_5 0 rfl ?_
  refine x_iconst (pc := 6) (nI 0) d_M_begin_6 (by decide) ?_
  refine x_put (pc := 7) (ci := 1) (ty := .int) d_M_begin_7 in_M t_M ty_M nm_M rfl 6 (by decide) k_M_35 rfl (by decide +kernel) rfl rfl 2 rfl (Nat.le_of_ble_eq_true rfl) (_) (rfl) ?_
  refine x_aload_n (pc := 10) d_M_begin_10 0 rfl ?_
  refine x_get (pc := 11) (ci := 1) d_M_begin_11 in_M rfl 4 (by decide) k_M_21 2 rfl rfl ?_
  refine x_iconst (pc := 14) (nI 0) d_M_begin_14 (by decide) ?_
  refine x_callS_X (pc := 15) d_M_begin_15 k_M_38 ws_JA_fill w_JA_fill ini_JA wd_JA_fill ⟨by decide, by decide⟩ ⟨rfl, rfl⟩ ⟨Nat.zero_le _, Nat.zero_le _⟩ (CT.one 12 rfl (t_JA_fill (by decide))) rfl rfl (Nat.le_of_ble_eq_true rfl) (fun v15 w15 hp15 => ?_)
  obtain ⟨e1, ⟨rfl, rfl⟩, rfl⟩ := hp15
  refine x_vret (pc := 18) d_M_begin_18 rfl ?_
  exact ⟨rfl, rfl⟩
set_option maxHeartbeats 4000000 in
set_option maxRecDepth 100000 in
theorem t_M_bound {x i : Int32} (hw : pwf cnt par prm siz atm) (hm : mwf cnt par prm n own out bnd) : CT l y_M_bound c_M_bound 5 (some .int) (rmm 2 43) (gG D cI cL) [.ref (ad 2), .int x, .int i] (wC ad cI cL par prm lin siz atm cnt own out bnd cal opr n ph oc P Q OC OP F S R vis nc gr md) (pI (bval cnt prm n own out bnd x i) (wC ad cI cL par prm lin siz atm cnt own out bnd cal opr n ph oc P Q OC OP F S R vis nc gr md)) := by
  refine CT.of R_M (by decide) rfl (Nat.le_of_ble_eq_true rfl) ?_
  intro E A hname
  have hc8 : cnt ≤ 8 := hw.2.1
  have hp4 : ∀ l, l < 8 → prm l ≤ 4 := fun l h => Nat.le_trans (hw.2.2.2.1 l h) (by omega)
  have hn64 : n ≤ 64 := hm.1
  refine x_aload_n (pc := 0) d_M_bound_0 0 rfl ?_
  refine x_get (pc := 1) (ci := 1) d_M_bound_1 in_M rfl 0 (by decide) k_M_27 2 rfl rfl ?_
  refine x_iload_n (pc := 4) d_M_bound_4 1 rfl ?_
  refine x_iload_n (pc := 5) d_M_bound_5 2 rfl ?_
  refine x_callV_I (pc := 6) (ci := 2) d_M_bound_6 k_M_47 wi_P_hasParameter wv_P_hasParameter w_P_hasParameter ini_P wd_P_hasParameter ⟨by decide, by decide⟩ ⟨rfl, rfl⟩ ⟨Nat.zero_le _, Nat.zero_le _⟩ 1 rfl rfl (t_P_hasParameter hc8) rfl rfl (Nat.le_of_ble_eq_true rfl) ?_
  first | refine x_if_neB (pc := 9) (tgt := 14) d_M_bound_9 rfl ?_ ?_ | refine x_if_neL (pc := 9) (tgt := 14) d_M_bound_9 rfl ?_ ?_ | refine x_if_neN (pc := 9) (tgt := 14) d_M_bound_9 rfl (by omega) ?_ ?_ | refine x_if_ne (pc := 9) (tgt := 14) d_M_bound_9 rfl ?_ ?_
  · intro h9
    have hpt := h9
    obtain ⟨lx, ix, hlx, hix, rfl, rfl⟩ := hpr_of hc8 hp4 h9
    have hpx := hw.2.2.2.1 lx (by omega)
    refine x_aload_n (pc := 14) d_M_bound_14 0 rfl ?_
    refine x_get (pc := 15) (ci := 1) d_M_bound_15 in_M rfl 6 (by decide) k_M_35 2 rfl rfl ?_
    refine x_istore_n (pc := 18) d_M_bound_18 rfl (by decide) [(3, _), (0, _), (1, _), (2, _)] rfl ?_
    refine x_iconst (pc := 19) (nI 0) d_M_bound_19 (by decide) ?_
    refine x_istore (pc := 20) d_M_bound_20 (by decide) [(4, _), (3, _), (0, _), (1, _), (2, _)] rfl ?_
    have hlp : ∀ (fuel : Nat) (d : Nat) (e : Nat), 8 - d < fuel → (d ≤ 8) → (e ≤ n) → (mf own out lx 8 n = mf own out lx (8 - d) e) → xj E l (rmm 2 43) c_M_bound 5 (some .int) R_M (gG D cI cL) A 0 0 (pI (bval cnt prm n own out bnd (nI lx) (nI ix)) (wC ad cI cL par prm lin siz atm cnt own out bnd cal opr n ph oc P Q OC OP F S R vis nc gr md)) 0 0 (wC ad cI cL par prm lin siz atm cnt own out bnd cal opr n ph oc P Q OC OP F S R vis nc gr md) 22 [(4, .int (nI d)), (3, .int (nI e)), (0, .ref (ad 2)), (1, .int (nI lx)), (2, .int (nI ix))] [] := by
      intro fuel
      induction fuel with
      | zero => intro d e hf; exact absurd hf (Nat.not_lt_zero _)
      | succ fuel ih =>
        intro d e hf hd he hq
        have ho := hm.own_lt hw.1 he
        have hu := hm.out_le he
        refine x_iload (pc := 22) d_M_bound_22 0 rfl ?_
        refine x_bipush (pc := 24) (nI 8) d_M_bound_24 (by decide) ?_
        first | refine x_icmp_geN (pc := 26) (tgt := 63) d_M_bound_26 rfl (by omega) (by omega) ?_ ?_ | refine x_icmp_ge (pc := 26) (tgt := 63) d_M_bound_26 rfl ?_ ?_
        · intro h26
          refine x_iconst (pc := 63) (-1) d_M_bound_63 (by decide) ?_
          refine x_iret (pc := 64) d_M_bound_64 rfl ?_
          have e8 : 8 - d = 0 := by omega
          exact ⟨by rw [bval_none hpt (by omega) (by omega) (show mf own out lx 8 n = none by rw [hq, e8]; rfl)], rfl⟩
        · intro h26
          refine x_aload_n (pc := 29) d_M_bound_29 2 rfl ?_
          refine x_get (pc := 30) (ci := 1) d_M_bound_30 in_M rfl 1 (by decide) k_M_11 2 rfl rfl ?_
          refine x_iload_n (pc := 33) d_M_bound_33 1 rfl ?_
          refine x_ialdN (pc := 34) d_M_bound_34 9 0 rfl rfl (by omega) (by omega) ?_
          refine x_iload_n (pc := 35) d_M_bound_35 3 rfl ?_
          first | refine x_icmp_neN (pc := 36) (tgt := 50) d_M_bound_36 rfl (by omega) (by omega) ?_ ?_ | refine x_icmp_ne (pc := 36) (tgt := 50) d_M_bound_36 rfl ?_ ?_
          · intro h36
            refine x_aload_n (pc := 50) d_M_bound_50 2 rfl ?_
            refine x_get (pc := 51) (ci := 1) d_M_bound_51 in_M rfl 2 (by decide) k_M_15 2 rfl rfl ?_
            refine x_iload_n (pc := 54) d_M_bound_54 1 rfl ?_
            refine x_ialdN (pc := 55) d_M_bound_55 10 0 rfl rfl (by omega) (by omega) ?_
            refine x_istore_n (pc := 56) d_M_bound_56 rfl (by decide) [(3, _), (4, _), (0, _), (1, _), (2, _)] rfl ?_
            refine x_iincN (pc := 57) d_M_bound_57 1 rfl (by decide) [(4, _), (3, _), (0, _), (1, _), (2, _)] rfl ?_
            refine x_goto (pc := 60) (tgt := 22) d_M_bound_60 rfl ?_
            refine x_sub [0, 1, 2, 3, 4] _ rfl ?_
            have e8 : 8 - d = (8 - (d + 1)) + 1 := by omega
            exact ih (d + 1) (out e) (by omega) (by omega) (by omega) (by rw [hq, e8, mf_step h36])
          · intro h36
            refine x_aload_n (pc := 39) d_M_bound_39 2 rfl ?_
            refine x_get (pc := 40) (ci := 1) d_M_bound_40 in_M rfl 3 (by decide) k_M_18 2 rfl rfl ?_
            refine x_iload_n (pc := 43) d_M_bound_43 1 rfl ?_
            refine x_iconst (pc := 44) (nI 3) d_M_bound_44 (by decide) ?_
            first | refine x_imulN (pc := 45) d_M_bound_45 ?_ | refine x_imul (pc := 45) d_M_bound_45 ?_
            refine x_iload_n (pc := 46) d_M_bound_46 4 rfl ?_
            first | refine x_iaddN (pc := 47) d_M_bound_47 ?_ | refine x_iadd (pc := 47) d_M_bound_47 ?_
            refine x_ialdN (pc := 48) d_M_bound_48 11 0 rfl rfl (by omega) (by omega) ?_
            refine x_iret (pc := 49) d_M_bound_49 rfl ?_
            have e8 : 8 - d = (8 - (d + 1)) + 1 := by omega
            exact ⟨by rw [bval_some hpt (by omega) (by omega) (show mf own out lx 8 n = some e by rw [hq, e8, mf_hit h36]), Nat.mul_comm 3 e], rfl⟩
    refine x_sub [0, 1, 2, 3, 4] _ rfl ?_
    exact hlp 9 0 n (by omega) (by omega) (Nat.le_refl n) rfl
  · intro h9
    refine x_iconst (pc := 12) (-1) d_M_bound_12 (by decide) ?_
    refine x_iret (pc := 13) d_M_bound_13 rfl ?_
    exact ⟨by rw [bval_no h9], rfl⟩
set_option maxHeartbeats 4000000 in
set_option maxRecDepth 100000 in
theorem t_M_meaning {b : Nat} (hw : pwf cnt par prm siz atm) (hm : mwf cnt par prm n own out bnd) (hb : aok cnt par prm (own n) b) : CT l y_M_meaning c_M_meaning 2 (some .int) (rmm 3 67) (gG D cI cL) [.ref (ad 2), .int (nI b)] (wC ad cI cL par prm lin siz atm cnt own out bnd cal opr n ph oc P Q OC OP F S R vis nc gr md) (pI (nI (mval n own out bnd b)) (wC ad cI cL par prm lin siz atm cnt own out bnd cal opr n ph oc P Q OC OP F S R vis nc gr md)) := by
  refine CT.of R_M (by decide) rfl (Nat.le_of_ble_eq_true rfl) ?_
  intro E A hname
  have hc8 : cnt ≤ 8 := hw.2.1
  have hn64 : n ≤ 64 := hm.1
  have hb3 : b ≤ 302 := by rcases hb with q | q | q | q <;> omega
  refine x_iload_n (pc := 0) d_M_meaning_0 1 rfl ?_
  refine x_callSN_I (pc := 1) d_M_meaning_1 k_M_75 ws_C_isParameter w_C_isParameter ini_C wd_C_isParameter ⟨by decide, by decide⟩ ⟨rfl, rfl⟩ ⟨Nat.zero_le _, Nat.zero_le _⟩ (t_C_isParameter) rfl rfl (Nat.le_of_ble_eq_true rfl) ?_
  rw [lo_nI (by omega) (by omega) (by omega)]
  first | refine x_if_eqB (pc := 4) (tgt := 20) d_M_meaning_4 rfl ?_ ?_ | refine x_if_eqL (pc := 4) (tgt := 20) d_M_meaning_4 rfl ?_ ?_ | refine x_if_eqN (pc := 4) (tgt := 20) d_M_meaning_4 rfl (by omega) ?_ ?_ | refine x_if_eq (pc := 4) (tgt := 20) d_M_meaning_4 rfl ?_ ?_
  · intro h4
    have g4 := of_decide_eq_false h4
    refine x_iload_n (pc := 20) d_M_meaning_20 1 rfl ?_
    refine x_callSN_I (pc := 21) d_M_meaning_21 k_M_88 ws_C_isLambda w_C_isLambda ini_C wd_C_isLambda ⟨by decide, by decide⟩ ⟨rfl, rfl⟩ ⟨Nat.zero_le _, Nat.zero_le _⟩ (t_C_isLambda) rfl rfl (Nat.le_of_ble_eq_true rfl) ?_
    rw [lo_nI (by omega) (by omega) (by omega)]
    first | refine x_if_eqB (pc := 24) (tgt := 40) d_M_meaning_24 rfl ?_ ?_ | refine x_if_eqL (pc := 24) (tgt := 40) d_M_meaning_24 rfl ?_ ?_ | refine x_if_eqN (pc := 24) (tgt := 40) d_M_meaning_24 rfl (by omega) ?_ ?_ | refine x_if_eq (pc := 24) (tgt := 40) d_M_meaning_24 rfl ?_ ?_
    · intro h24
      have g24 := of_decide_eq_false h24
      refine x_iload_n (pc := 40) d_M_meaning_40 1 rfl ?_
      refine x_iret (pc := 41) d_M_meaning_41 rfl ?_
      unfold mval
      first | exact ⟨by rw [if_neg g4, if_pos g24], rfl⟩ | exact ⟨by rw [if_neg g4, if_neg g24], rfl⟩
    · intro h24
      have g24 := of_decide_eq_true h24
      refine x_aload_n (pc := 27) d_M_meaning_27 0 rfl ?_
      refine x_get (pc := 28) (ci := 1) d_M_meaning_28 in_M rfl 6 (by decide) k_M_35 2 rfl rfl ?_
      refine x_sipush (pc := 31) (nI 1000) d_M_meaning_31 (by decide) ?_
      first | refine x_imulN (pc := 34) d_M_meaning_34 ?_ | refine x_imul (pc := 34) d_M_meaning_34 ?_
      refine x_iload_n (pc := 35) d_M_meaning_35 1 rfl ?_
      first | refine x_iaddN (pc := 36) d_M_meaning_36 ?_ | refine x_iadd (pc := 36) d_M_meaning_36 ?_
      refine x_goto (pc := 37) (tgt := 41) d_M_meaning_37 rfl ?_
      refine x_iret (pc := 41) d_M_meaning_41 rfl ?_
      unfold mval
      first | exact ⟨by rw [if_neg g4, if_pos g24], rfl⟩ | exact ⟨by rw [if_neg g4, if_neg g24], rfl⟩
  · intro h4
    have g4 := of_decide_eq_true h4
    refine x_aload_n (pc := 7) d_M_meaning_7 0 rfl ?_
    refine x_iload_n (pc := 8) d_M_meaning_8 1 rfl ?_
    refine x_callSN_I (pc := 9) d_M_meaning_9 k_M_79 ws_C_lambdaOfParameter w_C_lambdaOfParameter ini_C wd_C_lambdaOfParameter ⟨by decide, by decide⟩ ⟨rfl, rfl⟩ ⟨Nat.zero_le _, Nat.zero_le _⟩ (t_C_lambdaOfParameter g4.1 (by omega)) rfl rfl (Nat.le_of_ble_eq_true rfl) ?_
    refine x_iload_n (pc := 12) d_M_meaning_12 1 rfl ?_
    refine x_callSN_I (pc := 13) d_M_meaning_13 k_M_82 ws_C_indexOfParameter w_C_indexOfParameter ini_C wd_C_indexOfParameter ⟨by decide, by decide⟩ ⟨rfl, rfl⟩ ⟨Nat.zero_le _, Nat.zero_le _⟩ (t_C_indexOfParameter g4.1 (by omega)) rfl rfl (Nat.le_of_ble_eq_true rfl) ?_
    refine x_callV_I (pc := 16) (ci := 1) d_M_meaning_16 k_M_85 wi_M_bound wv_M_bound w_M_bound ini_M wd_M_bound ⟨by decide, by decide⟩ ⟨rfl, rfl⟩ ⟨Nat.zero_le _, Nat.zero_le _⟩ 2 rfl rfl (t_M_bound hw hm) rfl rfl (Nat.le_of_ble_eq_true rfl) ?_
    refine x_iret (pc := 19) d_M_meaning_19 rfl ?_
    exact ⟨by rw [bval_mval hw hm hb g4.1 g4.2], rfl⟩
end MACH
end
section
section MACH2
variable {l : Launch} {D : va_G} {ad : Nat → Nat} {cI cL : ClassId} {par : Nat → Int32} {prm : Nat → Nat} {lin : Nat → Int32} {siz atm : Nat → Nat} {cnt : Nat} {own out bnd : Nat → Nat} {cal : Nat → Int32} {opr : Nat → Nat} {n ph oc : Nat} {P : Nat → Int32} {Q : Nat → Int64} {OC : Nat → Int32} {OP : Nat → Int64} {F : Nat → Int32} {S : Int64} {R : Int32} {vis nc : Nat} {gr md : Bool}
set_option maxHeartbeats 4000000 in
set_option maxRecDepth 100000 in
theorem t_M_enter {mm e k xx : Nat} (hn : n ≤ 64) (ho : own n < 8) (hm8 : mm < 32) (hk : k ≤ 3) : CT l y_M_enter c_M_enter 5 none (rmm 1 20) (gG D cI cL) [.ref (ad 2), .int (nI mm), .int (nI e), .int (nI k)] (wC ad cI cL par prm lin siz atm cnt own out bnd cal opr n ph oc P Q OC OP F S R vis nc gr md) (fun v w2 => v = none ∧ ∃ s2, s2 = mdo (2, mm, e, k, xx) (fun i => opr (1 + i)) (n, own, out, bnd, cal, ph, oc) ∧ w2 = (wC ad cI cL par prm lin siz atm cnt s2.2.1 s2.2.2.1 s2.2.2.2.1 s2.2.2.2.2.1 opr s2.1 s2.2.2.2.2.2.1 s2.2.2.2.2.2.2 P Q OC OP F S R vis nc gr md)) := by
  refine CT.of R_M (by decide) rfl (Nat.le_of_ble_eq_true rfl) ?_
  intro E A hname
  refine x_aload_n (pc := 0) d_M_enter_0 0 rfl ?_
  refine x_get (pc := 1) (ci := 1) d_M_enter_1 in_M rfl 6 (by decide) k_M_35 2 rfl rfl ?_
  refine x_bipush (pc := 4) (nI 64) d_M_enter_4 (by decide) ?_
  first | refine x_icmp_neN (pc := 6) (tgt := 15) d_M_enter_6 rfl (by omega) (by omega) ?_ ?_ | refine x_icmp_ne (pc := 6) (tgt := 15) d_M_enter_6 rfl ?_ ?_
  · intro h6
    refine x_aload_n (pc := 15) d_M_enter_15 0 rfl ?_
    refine x_get (pc := 16) (ci := 1) d_M_enter_16 in_M rfl 4 (by decide) k_M_21 2 rfl rfl ?_
    refine x_aload_n (pc := 19) d_M_enter_19 0 rfl ?_
    refine x_callV_I (pc := 20) (ci := 1) d_M_enter_20 k_M_56 wi_M_place wv_M_place w_M_place ini_M wd_M_place ⟨by decide, by decide⟩ ⟨rfl, rfl⟩ ⟨Nat.zero_le _, Nat.zero_le _⟩ 2 rfl rfl (t_M_place hn) rfl rfl (Nat.le_of_ble_eq_true rfl) ?_
    refine x_dup2 (pc := 23) d_M_enter_23 rfl rfl ?_
    refine x_ialdN (pc := 24) d_M_enter_24 12 0 rfl rfl (by omega) (by omega) ?_
    refine x_iconst (pc := 25) (nI 1) d_M_enter_25 (by decide) ?_
    refine x_iload_n (pc := 26) d_M_enter_26 1 rfl ?_
    refine x_ishl (pc := 27) d_M_enter_27 ?_
    refine x_ior (pc := 28) d_M_enter_28 ?_
    first | refine x_iastU (pc := 29) d_M_enter_29 12 0 rfl rfl (by omega) (by omega) ?_ | refine x_iastN (pc := 29) d_M_enter_29 12 0 rfl rfl (by omega) (by omega) _ rfl ?_
    refine x_aload_n (pc := 30) d_M_enter_30 0 rfl ?_
    refine x_dup (pc := 31) d_M_enter_31 rfl ?_
    refine x_get (pc := 32) (ci := 1) d_M_enter_32 in_M rfl 6 (by decide) k_M_35 2 rfl rfl ?_
    refine x_iconst (pc := 35) (nI 1) d_M_enter_35 (by decide) ?_
    first | refine x_iaddN (pc := 36) d_M_enter_36 ?_ | refine x_iadd (pc := 36) d_M_enter_36 ?_
    refine x_put (pc := 37) (ci := 1) (ty := .int) d_M_enter_37 in_M t_M ty_M nm_M rfl 6 (by decide) k_M_35 rfl (by decide +kernel) rfl rfl 2 rfl (Nat.le_of_ble_eq_true rfl) (_) (rfl) ?_
    refine x_aload_n (pc := 40) d_M_enter_40 0 rfl ?_
    refine x_get (pc := 41) (ci := 1) d_M_enter_41 in_M rfl 1 (by decide) k_M_11 2 rfl rfl ?_
    refine x_aload_n (pc := 44) d_M_enter_44 0 rfl ?_
    refine x_get (pc := 45) (ci := 1) d_M_enter_45 in_M rfl 6 (by decide) k_M_35 2 rfl rfl ?_
    refine x_iload_n (pc := 48) d_M_enter_48 1 rfl ?_
    first | refine x_iastU (pc := 49) d_M_enter_49 9 0 rfl rfl (by omega) (by omega) ?_ | refine x_iastN (pc := 49) d_M_enter_49 9 0 rfl rfl (by omega) (by omega) _ rfl ?_
    refine x_aload_n (pc := 50) d_M_enter_50 0 rfl ?_
    refine x_get (pc := 51) (ci := 1) d_M_enter_51 in_M rfl 2 (by decide) k_M_15 2 rfl rfl ?_
    refine x_aload_n (pc := 54) d_M_enter_54 0 rfl ?_
    refine x_get (pc := 55) (ci := 1) d_M_enter_55 in_M rfl 6 (by decide) k_M_35 2 rfl rfl ?_
    refine x_iload_n (pc := 58) d_M_enter_58 2 rfl ?_
    first | refine x_iastU (pc := 59) d_M_enter_59 10 0 rfl rfl (by omega) (by omega) ?_ | refine x_iastN (pc := 59) d_M_enter_59 10 0 rfl rfl (by omega) (by omega) _ rfl ?_
    refine x_iconst (pc := 60) (nI 0) d_M_enter_60 (by decide) ?_
    refine x_istore (pc := 61) d_M_enter_61 (by decide) [(4, _), (0, _), (1, _), (2, _), (3, _)] rfl ?_
    have hlp : ∀ (fuel : Nat) (i : Nat), k - i < fuel → (i ≤ k) → xj E l (rmm 1 20) c_M_enter 5 none R_M (gG D cI cL) A 0 0 (fun v w2 => v = none ∧ ∃ s2, s2 = mdo (2, mm, e, k, xx) (fun i => opr (1 + i)) (n, own, out, bnd, cal, ph, oc) ∧ w2 = (wC ad cI cL par prm lin siz atm cnt s2.2.1 s2.2.2.1 s2.2.2.2.1 s2.2.2.2.2.1 opr s2.1 s2.2.2.2.2.2.1 s2.2.2.2.2.2.2 P Q OC OP F S R vis nc gr md)) 0 0 (wC ad cI cL par prm lin siz atm cnt (un own (n + 1) mm) (un out (n + 1) e) (bst bnd (3 * (n + 1)) (fun i => opr (1 + i)) i) (upd cal (own n) (cal (own n) ||| 1 <<< (nI mm &&& 31))) opr (n + 1) ph oc P Q OC OP F S R vis nc gr md) 63 [(4, .int (nI i)), (0, .ref (ad 2)), (1, .int (nI mm)), (2, .int (nI e)), (3, .int (nI k))] [] := by
      intro fuel
      induction fuel with
      | zero => intro i hf; exact absurd hf (Nat.not_lt_zero _)
      | succ fuel ih =>
        intro i hf hi
        refine x_iload (pc := 63) d_M_enter_63 0 rfl ?_
        refine x_iload_n (pc := 65) d_M_enter_65 4 rfl ?_
        first | refine x_icmp_geN (pc := 66) (tgt := 98) d_M_enter_66 rfl (by omega) (by omega) ?_ ?_ | refine x_icmp_ge (pc := 66) (tgt := 98) d_M_enter_66 rfl ?_ ?_
        · intro h66
          refine x_vret (pc := 98) d_M_enter_98 rfl ?_
          have e1 : i = k := by omega
          subst e1
          exact ⟨rfl, _, (mdo_enter h6).symm, rfl⟩
        · intro h66
          refine x_aload_n (pc := 69) d_M_enter_69 1 rfl ?_
          refine x_get (pc := 70) (ci := 1) d_M_enter_70 in_M rfl 3 (by decide) k_M_18 2 rfl rfl ?_
          refine x_aload_n (pc := 73) d_M_enter_73 1 rfl ?_
          refine x_get (pc := 74) (ci := 1) d_M_enter_74 in_M rfl 6 (by decide) k_M_35 2 rfl rfl ?_
          refine x_iconst (pc := 77) (nI 3) d_M_enter_77 (by decide) ?_
          first | refine x_imulN (pc := 78) d_M_enter_78 ?_ | refine x_imul (pc := 78) d_M_enter_78 ?_
          refine x_iload (pc := 79) d_M_enter_79 0 rfl ?_
          first | refine x_iaddN (pc := 81) d_M_enter_81 ?_ | refine x_iadd (pc := 81) d_M_enter_81 ?_
          refine x_aload_n (pc := 82) d_M_enter_82 1 rfl ?_
          refine x_get (pc := 83) (ci := 1) d_M_enter_83 in_M rfl 5 (by decide) k_M_24 2 rfl rfl ?_
          refine x_iconst (pc := 86) (nI 1) d_M_enter_86 (by decide) ?_
          refine x_iload (pc := 87) d_M_enter_87 0 rfl ?_
          first | refine x_iaddN (pc := 89) d_M_enter_89 ?_ | refine x_iadd (pc := 89) d_M_enter_89 ?_
          refine x_ialdN (pc := 90) d_M_enter_90 13 0 rfl rfl (by omega) (by omega) ?_
          rw [Nat.mul_comm (n + 1) 3]
          first | refine x_iastU (pc := 91) d_M_enter_91 11 0 rfl rfl (by omega) (by omega) ?_ | refine x_iastN (pc := 91) d_M_enter_91 11 0 rfl rfl (by omega) (by omega) _ rfl ?_
          refine x_iincN (pc := 92) d_M_enter_92 0 rfl (by decide) [(4, _), (0, _), (1, _), (2, _), (3, _)] rfl ?_
          refine x_goto (pc := 95) (tgt := 63) d_M_enter_95 rfl ?_
          refine x_sub [0, 1, 2, 3, 4] _ rfl ?_
          exact ih (i + 1) (by omega) (by omega)
    refine x_sub [0, 1, 2, 3, 4] _ rfl ?_
    exact hlp (k + 1) 0 (by omega) (by omega)
  · intro h6
    refine x_aload_n (pc := 9) d_M_enter_9 0 rfl ?_
    refine x_iconst (pc := 10) (nI 4) d_M_enter_10 (by decide) ?_
    refine x_put (pc := 11) (ci := 1) (ty := .int) d_M_enter_11 in_M t_M ty_M nm_M rfl 7 (by decide) k_M_31 rfl (by decide +kernel) rfl rfl 2 rfl (Nat.le_of_ble_eq_true rfl) (_) (rfl) ?_
    refine x_vret (pc := 14) d_M_enter_14 rfl ?_
    exact ⟨rfl, _, (mdo_full h6).symm, rfl⟩
set_option maxHeartbeats 4000000 in
set_option maxRecDepth 100000 in
theorem t_M_applyDirectly {f k : Nat} (hn : n ≤ 64) (ho : own n < 8) (hp : ∀ l, l < 8 → prm l ≤ 3) (hf : f < 2147483648) (hk : k ≤ 3) : CT l y_M_applyDirectly c_M_applyDirectly 4 none (rmm 2 44) (gG D cI cL) [.ref (ad 2), .int (nI f), .int (nI k)] (wC ad cI cL par prm lin siz atm cnt own out bnd cal opr n ph oc P Q OC OP F S R vis nc gr md) (fun v w2 => v = none ∧ ∃ s2, s2 = mdo (mdir prm f k (opr 1)) (fun i => opr (1 + i)) (n, own, out, bnd, cal, ph, oc) ∧ w2 = (wC ad cI cL par prm lin siz atm cnt s2.2.1 s2.2.2.1 s2.2.2.2.1 s2.2.2.2.2.1 opr s2.1 s2.2.2.2.2.2.1 s2.2.2.2.2.2.2 P Q OC OP F S R vis nc gr md)) := by
  refine CT.of R_M (by decide) rfl (Nat.le_of_ble_eq_true rfl) ?_
  intro E A hname
  refine x_iload_n (pc := 0) d_M_applyDirectly_0 1 rfl ?_
  refine x_callSN_I (pc := 1) d_M_applyDirectly_1 k_M_98 ws_C_told w_C_told ini_C wd_C_told ⟨by decide, by decide⟩ ⟨rfl, rfl⟩ ⟨Nat.zero_le _, Nat.zero_le _⟩ (t_C_told) rfl rfl (Nat.le_of_ble_eq_true rfl) ?_
  rw [nI_rem (by omega) (by omega)]
  refine x_istore_n (pc := 4) d_M_applyDirectly_4 rfl (by decide) [(3, _), (0, _), (1, _), (2, _)] rfl ?_
  refine x_iload_n (pc := 5) d_M_applyDirectly_5 0 rfl ?_
  refine x_callSN_I (pc := 6) d_M_applyDirectly_6 k_M_88 ws_C_isLambda w_C_isLambda ini_C wd_C_isLambda ⟨by decide, by decide⟩ ⟨rfl, rfl⟩ ⟨Nat.zero_le _, Nat.zero_le _⟩ (t_C_isLambda) rfl rfl (Nat.le_of_ble_eq_true rfl) ?_
  rw [lo_nI (by omega) (by omega) (by omega)]
  first | refine x_if_eqB (pc := 9) (tgt := 46) d_M_applyDirectly_9 rfl ?_ ?_ | refine x_if_eqL (pc := 9) (tgt := 46) d_M_applyDirectly_9 rfl ?_ ?_ | refine x_if_eqN (pc := 9) (tgt := 46) d_M_applyDirectly_9 rfl (by omega) ?_ ?_ | refine x_if_eq (pc := 9) (tgt := 46) d_M_applyDirectly_9 rfl ?_ ?_
  · intro h9
    have g9 := of_decide_eq_false h9
    refine x_iload_n (pc := 46) d_M_applyDirectly_46 2 rfl ?_
    refine x_sipush (pc := 47) (nI 300) d_M_applyDirectly_47 (by decide) ?_
    first | refine x_icmp_neN (pc := 50) (tgt := 76) d_M_applyDirectly_50 rfl (by omega) (by omega) ?_ ?_ | refine x_icmp_ne (pc := 50) (tgt := 76) d_M_applyDirectly_50 rfl ?_ ?_
    · intro h50
      refine x_aload_n (pc := 76) d_M_applyDirectly_76 1 rfl ?_
      refine x_iconst (pc := 77) (nI 3) d_M_applyDirectly_77 (by decide) ?_
      refine x_put (pc := 78) (ci := 1) (ty := .int) d_M_applyDirectly_78 in_M t_M ty_M nm_M rfl 7 (by decide) k_M_31 rfl (by decide +kernel) rfl rfl 2 rfl (Nat.le_of_ble_eq_true rfl) (_) (rfl) ?_
      refine x_vret (pc := 81) d_M_applyDirectly_81 rfl ?_
      first
        | exact ⟨rfl, s2, by rw [mdir_2 g9 h25]; exact hs, rfl⟩
        | exact ⟨rfl, (n, own, out, bnd, cal, 2, opr 1), by rw [mdir_1 h50 h55]; rfl, rfl⟩
        | exact ⟨rfl, (n, own, out, bnd, cal, 3, oc), by rw [mdir_0 (fun q => g9 q.1) (fun q => h50 q.1)]; rfl, rfl⟩
        | exact ⟨rfl, (n, own, out, bnd, cal, 3, oc), by rw [mdir_0 (fun q => g9 q.1) (fun q => h55 q.2)]; rfl, rfl⟩
        | exact ⟨rfl, (n, own, out, bnd, cal, 3, oc), by rw [mdir_0 (fun q => h25 q.2) (fun q => h50 q.1)]; rfl, rfl⟩
        | exact ⟨rfl, (n, own, out, bnd, cal, 3, oc), by rw [mdir_0 (fun q => h25 q.2) (fun q => h55 q.2)]; rfl, rfl⟩
    · intro h50
      refine x_iload_n (pc := 53) d_M_applyDirectly_53 3 rfl ?_
      refine x_iconst (pc := 54) (nI 1) d_M_applyDirectly_54 (by decide) ?_
      first | refine x_icmp_neN (pc := 55) (tgt := 76) d_M_applyDirectly_55 rfl (by omega) (by omega) ?_ ?_ | refine x_icmp_ne (pc := 55) (tgt := 76) d_M_applyDirectly_55 rfl ?_ ?_
      · intro h55
        refine x_aload_n (pc := 76) d_M_applyDirectly_76 1 rfl ?_
        refine x_iconst (pc := 77) (nI 3) d_M_applyDirectly_77 (by decide) ?_
        refine x_put (pc := 78) (ci := 1) (ty := .int) d_M_applyDirectly_78 in_M t_M ty_M nm_M rfl 7 (by decide) k_M_31 rfl (by decide +kernel) rfl rfl 2 rfl (Nat.le_of_ble_eq_true rfl) (_) (rfl) ?_
        refine x_vret (pc := 81) d_M_applyDirectly_81 rfl ?_
        first
          | exact ⟨rfl, s2, by rw [mdir_2 g9 h25]; exact hs, rfl⟩
          | exact ⟨rfl, (n, own, out, bnd, cal, 2, opr 1), by rw [mdir_1 h50 h55]; rfl, rfl⟩
          | exact ⟨rfl, (n, own, out, bnd, cal, 3, oc), by rw [mdir_0 (fun q => g9 q.1) (fun q => h50 q.1)]; rfl, rfl⟩
          | exact ⟨rfl, (n, own, out, bnd, cal, 3, oc), by rw [mdir_0 (fun q => g9 q.1) (fun q => h55 q.2)]; rfl, rfl⟩
          | exact ⟨rfl, (n, own, out, bnd, cal, 3, oc), by rw [mdir_0 (fun q => h25 q.2) (fun q => h50 q.1)]; rfl, rfl⟩
          | exact ⟨rfl, (n, own, out, bnd, cal, 3, oc), by rw [mdir_0 (fun q => h25 q.2) (fun q => h55 q.2)]; rfl, rfl⟩
      · intro h55
        refine x_aload_n (pc := 58) d_M_applyDirectly_58 1 rfl ?_
        refine x_aload_n (pc := 59) d_M_applyDirectly_59 1 rfl ?_
        refine x_get (pc := 60) (ci := 1) d_M_applyDirectly_60 in_M rfl 5 (by decide) k_M_24 2 rfl rfl ?_
        refine x_iconst (pc := 63) (nI 1) d_M_applyDirectly_63 (by decide) ?_
        refine x_ialdN (pc := 64) d_M_applyDirectly_64 13 0 rfl rfl (by omega) (by omega) ?_
        refine x_put (pc := 65) (ci := 1) (ty := .int) d_M_applyDirectly_65 in_M t_M ty_M nm_M rfl 8 (by decide) k_M_44 rfl (by decide +kernel) rfl rfl 2 rfl (Nat.le_of_ble_eq_true rfl) (_) (rfl) ?_
        refine x_aload_n (pc := 68) d_M_applyDirectly_68 1 rfl ?_
        refine x_iconst (pc := 69) (nI 2) d_M_applyDirectly_69 (by decide) ?_
        refine x_put (pc := 70) (ci := 1) (ty := .int) d_M_applyDirectly_70 in_M t_M ty_M nm_M rfl 7 (by decide) k_M_31 rfl (by decide +kernel) rfl rfl 2 rfl (Nat.le_of_ble_eq_true rfl) (_) (rfl) ?_
        refine x_goto (pc := 73) (tgt := 81) d_M_applyDirectly_73 rfl ?_
        refine x_vret (pc := 81) d_M_applyDirectly_81 rfl ?_
        first
          | exact ⟨rfl, s2, by rw [mdir_2 g9 h25]; exact hs, rfl⟩
          | exact ⟨rfl, (n, own, out, bnd, cal, 2, opr 1), by rw [mdir_1 h50 h55]; rfl, rfl⟩
          | exact ⟨rfl, (n, own, out, bnd, cal, 3, oc), by rw [mdir_0 (fun q => g9 q.1) (fun q => h50 q.1)]; rfl, rfl⟩
          | exact ⟨rfl, (n, own, out, bnd, cal, 3, oc), by rw [mdir_0 (fun q => g9 q.1) (fun q => h55 q.2)]; rfl, rfl⟩
          | exact ⟨rfl, (n, own, out, bnd, cal, 3, oc), by rw [mdir_0 (fun q => h25 q.2) (fun q => h50 q.1)]; rfl, rfl⟩
          | exact ⟨rfl, (n, own, out, bnd, cal, 3, oc), by rw [mdir_0 (fun q => h25 q.2) (fun q => h55 q.2)]; rfl, rfl⟩
  · intro h9
    have g9 := of_decide_eq_true h9
    have hpp := hp (f % 1000 - 200) (by omega)
    refine x_aload_n (pc := 12) d_M_applyDirectly_12 1 rfl ?_
    refine x_get (pc := 13) (ci := 1) d_M_applyDirectly_13 in_M rfl 0 (by decide) k_M_27 2 rfl rfl ?_
    refine x_iload_n (pc := 16) d_M_applyDirectly_16 0 rfl ?_
    refine x_sipush (pc := 17) (nI 200) d_M_applyDirectly_17 (by decide) ?_
    first | refine x_isubN (pc := 20) d_M_applyDirectly_20 (by omega) ?_ | refine x_isub (pc := 20) d_M_applyDirectly_20 ?_
    refine x_callV_I (pc := 21) (ci := 2) d_M_applyDirectly_21 k_M_101 wi_P_paramsOf wv_P_paramsOf w_P_paramsOf ini_P wd_P_paramsOf ⟨by decide, by decide⟩ ⟨rfl, rfl⟩ ⟨Nat.zero_le _, Nat.zero_le _⟩ 1 rfl rfl (t_P_paramsOf (by omega)) rfl rfl (Nat.le_of_ble_eq_true rfl) ?_
    refine x_iload_n (pc := 24) d_M_applyDirectly_24 3 rfl ?_
    first | refine x_icmp_neN (pc := 25) (tgt := 46) d_M_applyDirectly_25 rfl (by omega) (by omega) ?_ ?_ | refine x_icmp_ne (pc := 25) (tgt := 46) d_M_applyDirectly_25 rfl ?_ ?_
    · intro h25
      refine x_iload_n (pc := 46) d_M_applyDirectly_46 2 rfl ?_
      refine x_sipush (pc := 47) (nI 300) d_M_applyDirectly_47 (by decide) ?_
      first | refine x_icmp_neN (pc := 50) (tgt := 76) d_M_applyDirectly_50 rfl (by omega) (by omega) ?_ ?_ | refine x_icmp_ne (pc := 50) (tgt := 76) d_M_applyDirectly_50 rfl ?_ ?_
      · intro h50
        refine x_aload_n (pc := 76) d_M_applyDirectly_76 1 rfl ?_
        refine x_iconst (pc := 77) (nI 3) d_M_applyDirectly_77 (by decide) ?_
        refine x_put (pc := 78) (ci := 1) (ty := .int) d_M_applyDirectly_78 in_M t_M ty_M nm_M rfl 7 (by decide) k_M_31 rfl (by decide +kernel) rfl rfl 2 rfl (Nat.le_of_ble_eq_true rfl) (_) (rfl) ?_
        refine x_vret (pc := 81) d_M_applyDirectly_81 rfl ?_
        first
          | exact ⟨rfl, s2, by rw [mdir_2 g9 h25]; exact hs, rfl⟩
          | exact ⟨rfl, (n, own, out, bnd, cal, 2, opr 1), by rw [mdir_1 h50 h55]; rfl, rfl⟩
          | exact ⟨rfl, (n, own, out, bnd, cal, 3, oc), by rw [mdir_0 (fun q => g9 q.1) (fun q => h50 q.1)]; rfl, rfl⟩
          | exact ⟨rfl, (n, own, out, bnd, cal, 3, oc), by rw [mdir_0 (fun q => g9 q.1) (fun q => h55 q.2)]; rfl, rfl⟩
          | exact ⟨rfl, (n, own, out, bnd, cal, 3, oc), by rw [mdir_0 (fun q => h25 q.2) (fun q => h50 q.1)]; rfl, rfl⟩
          | exact ⟨rfl, (n, own, out, bnd, cal, 3, oc), by rw [mdir_0 (fun q => h25 q.2) (fun q => h55 q.2)]; rfl, rfl⟩
      · intro h50
        refine x_iload_n (pc := 53) d_M_applyDirectly_53 3 rfl ?_
        refine x_iconst (pc := 54) (nI 1) d_M_applyDirectly_54 (by decide) ?_
        first | refine x_icmp_neN (pc := 55) (tgt := 76) d_M_applyDirectly_55 rfl (by omega) (by omega) ?_ ?_ | refine x_icmp_ne (pc := 55) (tgt := 76) d_M_applyDirectly_55 rfl ?_ ?_
        · intro h55
          refine x_aload_n (pc := 76) d_M_applyDirectly_76 1 rfl ?_
          refine x_iconst (pc := 77) (nI 3) d_M_applyDirectly_77 (by decide) ?_
          refine x_put (pc := 78) (ci := 1) (ty := .int) d_M_applyDirectly_78 in_M t_M ty_M nm_M rfl 7 (by decide) k_M_31 rfl (by decide +kernel) rfl rfl 2 rfl (Nat.le_of_ble_eq_true rfl) (_) (rfl) ?_
          refine x_vret (pc := 81) d_M_applyDirectly_81 rfl ?_
          first
            | exact ⟨rfl, s2, by rw [mdir_2 g9 h25]; exact hs, rfl⟩
            | exact ⟨rfl, (n, own, out, bnd, cal, 2, opr 1), by rw [mdir_1 h50 h55]; rfl, rfl⟩
            | exact ⟨rfl, (n, own, out, bnd, cal, 3, oc), by rw [mdir_0 (fun q => g9 q.1) (fun q => h50 q.1)]; rfl, rfl⟩
            | exact ⟨rfl, (n, own, out, bnd, cal, 3, oc), by rw [mdir_0 (fun q => g9 q.1) (fun q => h55 q.2)]; rfl, rfl⟩
            | exact ⟨rfl, (n, own, out, bnd, cal, 3, oc), by rw [mdir_0 (fun q => h25 q.2) (fun q => h50 q.1)]; rfl, rfl⟩
            | exact ⟨rfl, (n, own, out, bnd, cal, 3, oc), by rw [mdir_0 (fun q => h25 q.2) (fun q => h55 q.2)]; rfl, rfl⟩
        · intro h55
          refine x_aload_n (pc := 58) d_M_applyDirectly_58 1 rfl ?_
          refine x_aload_n (pc := 59) d_M_applyDirectly_59 1 rfl ?_
          refine x_get (pc := 60) (ci := 1) d_M_applyDirectly_60 in_M rfl 5 (by decide) k_M_24 2 rfl rfl ?_
          refine x_iconst (pc := 63) (nI 1) d_M_applyDirectly_63 (by decide) ?_
          refine x_ialdN (pc := 64) d_M_applyDirectly_64 13 0 rfl rfl (by omega) (by omega) ?_
          refine x_put (pc := 65) (ci := 1) (ty := .int) d_M_applyDirectly_65 in_M t_M ty_M nm_M rfl 8 (by decide) k_M_44 rfl (by decide +kernel) rfl rfl 2 rfl (Nat.le_of_ble_eq_true rfl) (_) (rfl) ?_
          refine x_aload_n (pc := 68) d_M_applyDirectly_68 1 rfl ?_
          refine x_iconst (pc := 69) (nI 2) d_M_applyDirectly_69 (by decide) ?_
          refine x_put (pc := 70) (ci := 1) (ty := .int) d_M_applyDirectly_70 in_M t_M ty_M nm_M rfl 7 (by decide) k_M_31 rfl (by decide +kernel) rfl rfl 2 rfl (Nat.le_of_ble_eq_true rfl) (_) (rfl) ?_
          refine x_goto (pc := 73) (tgt := 81) d_M_applyDirectly_73 rfl ?_
          refine x_vret (pc := 81) d_M_applyDirectly_81 rfl ?_
          first
            | exact ⟨rfl, s2, by rw [mdir_2 g9 h25]; exact hs, rfl⟩
            | exact ⟨rfl, (n, own, out, bnd, cal, 2, opr 1), by rw [mdir_1 h50 h55]; rfl, rfl⟩
            | exact ⟨rfl, (n, own, out, bnd, cal, 3, oc), by rw [mdir_0 (fun q => g9 q.1) (fun q => h50 q.1)]; rfl, rfl⟩
            | exact ⟨rfl, (n, own, out, bnd, cal, 3, oc), by rw [mdir_0 (fun q => g9 q.1) (fun q => h55 q.2)]; rfl, rfl⟩
            | exact ⟨rfl, (n, own, out, bnd, cal, 3, oc), by rw [mdir_0 (fun q => h25 q.2) (fun q => h50 q.1)]; rfl, rfl⟩
            | exact ⟨rfl, (n, own, out, bnd, cal, 3, oc), by rw [mdir_0 (fun q => h25 q.2) (fun q => h55 q.2)]; rfl, rfl⟩
    · intro h25
      refine x_aload_n (pc := 28) d_M_applyDirectly_28 1 rfl ?_
      refine x_iload_n (pc := 29) d_M_applyDirectly_29 0 rfl ?_
      refine x_sipush (pc := 30) (nI 200) d_M_applyDirectly_30 (by decide) ?_
      first | refine x_isubN (pc := 33) d_M_applyDirectly_33 (by omega) ?_ | refine x_isub (pc := 33) d_M_applyDirectly_33 ?_
      refine x_iload_n (pc := 34) d_M_applyDirectly_34 2 rfl ?_
      refine x_sipush (pc := 35) (nI 1000) d_M_applyDirectly_35 (by decide) ?_
      first | refine x_idivN (pc := 38) d_M_applyDirectly_38 (by omega) (by omega) (by omega) ?_ | refine x_idiv (pc := 38) d_M_applyDirectly_38 (by decide) ?_
      refine x_iload_n (pc := 39) d_M_applyDirectly_39 3 rfl ?_
      refine x_callV_X (pc := 40) (ci := 1) d_M_applyDirectly_40 k_M_104 wi_M_enter wv_M_enter w_M_enter ini_M wd_M_enter ⟨by decide, by decide⟩ ⟨rfl, rfl⟩ ⟨Nat.zero_le _, Nat.zero_le _⟩ 2 rfl rfl (t_M_enter (xx := opr 1) hn ho (by omega) hk) rfl rfl (Nat.le_of_ble_eq_true rfl) (fun v40 w40 hp40 => ?_)
      obtain ⟨rfl, s2, hs, rfl⟩ := hp40
      refine x_goto (pc := 43) (tgt := 81) d_M_applyDirectly_43 rfl ?_
      refine x_vret (pc := 81) d_M_applyDirectly_81 rfl ?_
      first
        | exact ⟨rfl, s2, by rw [mdir_2 g9 h25]; exact hs, rfl⟩
        | exact ⟨rfl, (n, own, out, bnd, cal, 2, opr 1), by rw [mdir_1 h50 h55]; rfl, rfl⟩
        | exact ⟨rfl, (n, own, out, bnd, cal, 3, oc), by rw [mdir_0 (fun q => g9 q.1) (fun q => h50 q.1)]; rfl, rfl⟩
        | exact ⟨rfl, (n, own, out, bnd, cal, 3, oc), by rw [mdir_0 (fun q => g9 q.1) (fun q => h55 q.2)]; rfl, rfl⟩
        | exact ⟨rfl, (n, own, out, bnd, cal, 3, oc), by rw [mdir_0 (fun q => h25 q.2) (fun q => h50 q.1)]; rfl, rfl⟩
        | exact ⟨rfl, (n, own, out, bnd, cal, 3, oc), by rw [mdir_0 (fun q => h25 q.2) (fun q => h55 q.2)]; rfl, rfl⟩
set_option maxHeartbeats 4000000 in
set_option maxRecDepth 100000 in
theorem t_M_applyOperator {k : Nat} (hn : n ≤ 64) (ho : own n < 8) (hp : ∀ l, l < 8 → prm l ≤ 3) (hopr : ∀ i, i < 4 → opr i < 100000) (hk : k ≤ 3) : CT l y_M_applyOperator c_M_applyOperator 3 none (rmm 3 67) (gG D cI cL) [.ref (ad 2), .int (nI k)] (wC ad cI cL par prm lin siz atm cnt own out bnd cal opr n ph oc P Q OC OP F S R vis nc gr md) (fun v w2 => v = none ∧ ∃ s2 o2, s2 = mdo (mact prm (k + 1) opr) (mar opr (mfst (k + 1) opr)) (n, own, out, bnd, cal, ph, oc) ∧ (∀ i, i < 4 → o2 i < 100000) ∧ w2 = (wC ad cI cL par prm lin siz atm cnt s2.2.1 s2.2.2.1 s2.2.2.2.1 s2.2.2.2.2.1 o2 s2.1 s2.2.2.2.2.2.1 s2.2.2.2.2.2.2 P Q OC OP F S R vis nc gr md)) := by
  refine CT.of R_M (by decide) rfl (Nat.le_of_ble_eq_true rfl) ?_
  intro E A hname
  have ho0 := hopr 0 (by omega)
  have ho1 := hopr 1 (by omega)
  have ho2 := hopr 2 (by omega)
  have ho3 := hopr 3 (by omega)
  refine x_iload_n (pc := 0) d_M_applyOperator_0 1 rfl ?_
  refine x_iconst (pc := 1) (nI 3) d_M_applyOperator_1 (by decide) ?_
  first | refine x_icmp_neN (pc := 2) (tgt := 21) d_M_applyOperator_2 rfl (by omega) (by omega) ?_ ?_ | refine x_icmp_ne (pc := 2) (tgt := 21) d_M_applyOperator_2 rfl ?_ ?_
  · intro h2
    refine x_iconst (pc := 21) (nI 0) d_M_applyOperator_21 (by decide) ?_
    refine x_istore_n (pc := 22) d_M_applyOperator_22 rfl (by decide) [(2, _), (0, _), (1, _)] rfl ?_
    refine x_iload_n (pc := 23) d_M_applyOperator_23 0 rfl ?_
    refine x_if_eqN (pc := 24) (tgt := 71) d_M_applyOperator_24 rfl (by decide) (fun _ => ?_) (fun q => absurd rfl q)
    refine x_iload_n (pc := 71) d_M_applyOperator_71 0 rfl ?_
    refine x_if_eqN (pc := 72) (tgt := 135) d_M_applyOperator_72 rfl (by decide) (fun _ => ?_) (fun q => absurd rfl q)
    refine x_aload_n (pc := 135) d_M_applyOperator_135 1 rfl ?_
    refine x_aload_n (pc := 136) d_M_applyOperator_136 1 rfl ?_
    refine x_get (pc := 137) (ci := 1) d_M_applyOperator_137 in_M rfl 5 (by decide) k_M_24 2 rfl rfl ?_
    refine x_iconst (pc := 140) (nI 0) d_M_applyOperator_140 (by decide) ?_
    refine x_ialdN (pc := 141) d_M_applyOperator_141 13 0 rfl rfl (by omega) (by omega) ?_
    refine x_iload_n (pc := 142) d_M_applyOperator_142 2 rfl ?_
    refine x_callV_X (pc := 143) (ci := 1) d_M_applyOperator_143 k_M_94 wi_M_applyDirectly wv_M_applyDirectly w_M_applyDirectly ini_M wd_M_applyDirectly ⟨by decide, by decide⟩ ⟨rfl, rfl⟩ ⟨Nat.zero_le _, Nat.zero_le _⟩ 2 rfl rfl (t_M_applyDirectly hn ho hp (by omega) hk) rfl rfl (Nat.le_of_ble_eq_true rfl) (fun v143 w143 hp143 => ?_)
    obtain ⟨rfl, s2, hs, rfl⟩ := hp143
    refine x_vret (pc := 146) d_M_applyOperator_146 rfl ?_
    refine ⟨rfl, s2, _, ?_, by first | exact hopr | exact un_small hopr (by omega), rfl⟩
    rw [hs]
    first
      | exact (mact_if (by omega) (by omega) (by omega) (by first | exact (if_pos (by omega)).symm | exact (if_neg (by omega)).symm)).symm
      | exact (mact_add (by omega) (by omega) (by omega) (by omega)).symm
      | exact (mact_oth (by omega) (by omega)).symm
  · intro h2
    refine x_aload_n (pc := 5) d_M_applyOperator_5 0 rfl ?_
    refine x_get (pc := 6) (ci := 1) d_M_applyOperator_6 in_M rfl 5 (by decide) k_M_24 2 rfl rfl ?_
    refine x_iconst (pc := 9) (nI 1) d_M_applyOperator_9 (by decide) ?_
    refine x_ialdN (pc := 10) d_M_applyOperator_10 13 0 rfl rfl (by omega) (by omega) ?_
    refine x_callSN_I (pc := 11) d_M_applyOperator_11 k_M_91 ws_C_isNumber w_C_isNumber ini_C wd_C_isNumber ⟨by decide, by decide⟩ ⟨rfl, rfl⟩ ⟨Nat.zero_le _, Nat.zero_le _⟩ (t_C_isNumber) rfl rfl (Nat.le_of_ble_eq_true rfl) ?_
    rw [lo_nI (by omega) (by omega) (by omega)]
    first | refine x_if_eqB (pc := 14) (tgt := 21) d_M_applyOperator_14 rfl ?_ ?_ | refine x_if_eqL (pc := 14) (tgt := 21) d_M_applyOperator_14 rfl ?_ ?_ | refine x_if_eqN (pc := 14) (tgt := 21) d_M_applyOperator_14 rfl (by omega) ?_ ?_ | refine x_if_eq (pc := 14) (tgt := 21) d_M_applyOperator_14 rfl ?_ ?_
    · intro h14
      have g14 := of_decide_eq_false h14
      refine x_iconst (pc := 21) (nI 0) d_M_applyOperator_21 (by decide) ?_
      refine x_istore_n (pc := 22) d_M_applyOperator_22 rfl (by decide) [(2, _), (0, _), (1, _)] rfl ?_
      refine x_iload_n (pc := 23) d_M_applyOperator_23 0 rfl ?_
      refine x_if_eqN (pc := 24) (tgt := 71) d_M_applyOperator_24 rfl (by decide) (fun _ => ?_) (fun q => absurd rfl q)
      refine x_iload_n (pc := 71) d_M_applyOperator_71 0 rfl ?_
      refine x_if_eqN (pc := 72) (tgt := 135) d_M_applyOperator_72 rfl (by decide) (fun _ => ?_) (fun q => absurd rfl q)
      refine x_aload_n (pc := 135) d_M_applyOperator_135 1 rfl ?_
      refine x_aload_n (pc := 136) d_M_applyOperator_136 1 rfl ?_
      refine x_get (pc := 137) (ci := 1) d_M_applyOperator_137 in_M rfl 5 (by decide) k_M_24 2 rfl rfl ?_
      refine x_iconst (pc := 140) (nI 0) d_M_applyOperator_140 (by decide) ?_
      refine x_ialdN (pc := 141) d_M_applyOperator_141 13 0 rfl rfl (by omega) (by omega) ?_
      refine x_iload_n (pc := 142) d_M_applyOperator_142 2 rfl ?_
      refine x_callV_X (pc := 143) (ci := 1) d_M_applyOperator_143 k_M_94 wi_M_applyDirectly wv_M_applyDirectly w_M_applyDirectly ini_M wd_M_applyDirectly ⟨by decide, by decide⟩ ⟨rfl, rfl⟩ ⟨Nat.zero_le _, Nat.zero_le _⟩ 2 rfl rfl (t_M_applyDirectly hn ho hp (by omega) hk) rfl rfl (Nat.le_of_ble_eq_true rfl) (fun v143 w143 hp143 => ?_)
      obtain ⟨rfl, s2, hs, rfl⟩ := hp143
      refine x_vret (pc := 146) d_M_applyOperator_146 rfl ?_
      refine ⟨rfl, s2, _, ?_, by first | exact hopr | exact un_small hopr (by omega), rfl⟩
      rw [hs]
      first
        | exact (mact_if (by omega) (by omega) (by omega) (by first | exact (if_pos (by omega)).symm | exact (if_neg (by omega)).symm)).symm
        | exact (mact_add (by omega) (by omega) (by omega) (by omega)).symm
        | exact (mact_oth (by omega) (by omega)).symm
    · intro h14
      have g14 := of_decide_eq_true h14
      refine x_iconst (pc := 17) (nI 1) d_M_applyOperator_17 (by decide) ?_
      refine x_goto (pc := 18) (tgt := 22) d_M_applyOperator_18 rfl ?_
      refine x_istore_n (pc := 22) d_M_applyOperator_22 rfl (by decide) [(2, _), (0, _), (1, _)] rfl ?_
      refine x_iload_n (pc := 23) d_M_applyOperator_23 0 rfl ?_
      refine x_if_eqN (pc := 24) (tgt := 71) d_M_applyOperator_24 rfl (by decide) (fun q => absurd q (by decide)) (fun _ => ?_)
      refine x_aload_n (pc := 27) d_M_applyOperator_27 1 rfl ?_
      refine x_get (pc := 28) (ci := 1) d_M_applyOperator_28 in_M rfl 5 (by decide) k_M_24 2 rfl rfl ?_
      refine x_iconst (pc := 31) (nI 0) d_M_applyOperator_31 (by decide) ?_
      refine x_ialdN (pc := 32) d_M_applyOperator_32 13 0 rfl rfl (by omega) (by omega) ?_
      refine x_sipush (pc := 33) (nI 302) d_M_applyOperator_33 (by decide) ?_
      first | refine x_icmp_neN (pc := 36) (tgt := 71) d_M_applyOperator_36 rfl (by omega) (by omega) ?_ ?_ | refine x_icmp_ne (pc := 36) (tgt := 71) d_M_applyOperator_36 rfl ?_ ?_
      · intro h36
        refine x_iload_n (pc := 71) d_M_applyOperator_71 0 rfl ?_
        refine x_if_eqN (pc := 72) (tgt := 135) d_M_applyOperator_72 rfl (by decide) (fun q => absurd q (by decide)) (fun _ => ?_)
        refine x_aload_n (pc := 75) d_M_applyOperator_75 1 rfl ?_
        refine x_get (pc := 76) (ci := 1) d_M_applyOperator_76 in_M rfl 5 (by decide) k_M_24 2 rfl rfl ?_
        refine x_iconst (pc := 79) (nI 0) d_M_applyOperator_79 (by decide) ?_
        refine x_ialdN (pc := 80) d_M_applyOperator_80 13 0 rfl rfl (by omega) (by omega) ?_
        refine x_sipush (pc := 81) (nI 301) d_M_applyOperator_81 (by decide) ?_
        first | refine x_icmp_neN (pc := 84) (tgt := 135) d_M_applyOperator_84 rfl (by omega) (by omega) ?_ ?_ | refine x_icmp_ne (pc := 84) (tgt := 135) d_M_applyOperator_84 rfl ?_ ?_
        · intro h84
          refine x_aload_n (pc := 135) d_M_applyOperator_135 1 rfl ?_
          refine x_aload_n (pc := 136) d_M_applyOperator_136 1 rfl ?_
          refine x_get (pc := 137) (ci := 1) d_M_applyOperator_137 in_M rfl 5 (by decide) k_M_24 2 rfl rfl ?_
          refine x_iconst (pc := 140) (nI 0) d_M_applyOperator_140 (by decide) ?_
          refine x_ialdN (pc := 141) d_M_applyOperator_141 13 0 rfl rfl (by omega) (by omega) ?_
          refine x_iload_n (pc := 142) d_M_applyOperator_142 2 rfl ?_
          refine x_callV_X (pc := 143) (ci := 1) d_M_applyOperator_143 k_M_94 wi_M_applyDirectly wv_M_applyDirectly w_M_applyDirectly ini_M wd_M_applyDirectly ⟨by decide, by decide⟩ ⟨rfl, rfl⟩ ⟨Nat.zero_le _, Nat.zero_le _⟩ 2 rfl rfl (t_M_applyDirectly hn ho hp (by omega) hk) rfl rfl (Nat.le_of_ble_eq_true rfl) (fun v143 w143 hp143 => ?_)
          obtain ⟨rfl, s2, hs, rfl⟩ := hp143
          refine x_vret (pc := 146) d_M_applyOperator_146 rfl ?_
          refine ⟨rfl, s2, _, ?_, by first | exact hopr | exact un_small hopr (by omega), rfl⟩
          rw [hs]
          first
            | exact (mact_if (by omega) (by omega) (by omega) (by first | exact (if_pos (by omega)).symm | exact (if_neg (by omega)).symm)).symm
            | exact (mact_add (by omega) (by omega) (by omega) (by omega)).symm
            | exact (mact_oth (by omega) (by omega)).symm
        · intro h84
          refine x_aload_n (pc := 87) d_M_applyOperator_87 1 rfl ?_
          refine x_get (pc := 88) (ci := 1) d_M_applyOperator_88 in_M rfl 5 (by decide) k_M_24 2 rfl rfl ?_
          refine x_iconst (pc := 91) (nI 2) d_M_applyOperator_91 (by decide) ?_
          refine x_ialdN (pc := 92) d_M_applyOperator_92 13 0 rfl rfl (by omega) (by omega) ?_
          refine x_callSN_I (pc := 93) d_M_applyOperator_93 k_M_91 ws_C_isNumber w_C_isNumber ini_C wd_C_isNumber ⟨by decide, by decide⟩ ⟨rfl, rfl⟩ ⟨Nat.zero_le _, Nat.zero_le _⟩ (t_C_isNumber) rfl rfl (Nat.le_of_ble_eq_true rfl) ?_
          rw [lo_nI (by omega) (by omega) (by omega)]
          first | refine x_if_eqB (pc := 96) (tgt := 135) d_M_applyOperator_96 rfl ?_ ?_ | refine x_if_eqL (pc := 96) (tgt := 135) d_M_applyOperator_96 rfl ?_ ?_ | refine x_if_eqN (pc := 96) (tgt := 135) d_M_applyOperator_96 rfl (by omega) ?_ ?_ | refine x_if_eq (pc := 96) (tgt := 135) d_M_applyOperator_96 rfl ?_ ?_
          · intro h96
            have g96 := of_decide_eq_false h96
            refine x_aload_n (pc := 135) d_M_applyOperator_135 1 rfl ?_
            refine x_aload_n (pc := 136) d_M_applyOperator_136 1 rfl ?_
            refine x_get (pc := 137) (ci := 1) d_M_applyOperator_137 in_M rfl 5 (by decide) k_M_24 2 rfl rfl ?_
            refine x_iconst (pc := 140) (nI 0) d_M_applyOperator_140 (by decide) ?_
            refine x_ialdN (pc := 141) d_M_applyOperator_141 13 0 rfl rfl (by omega) (by omega) ?_
            refine x_iload_n (pc := 142) d_M_applyOperator_142 2 rfl ?_
            refine x_callV_X (pc := 143) (ci := 1) d_M_applyOperator_143 k_M_94 wi_M_applyDirectly wv_M_applyDirectly w_M_applyDirectly ini_M wd_M_applyDirectly ⟨by decide, by decide⟩ ⟨rfl, rfl⟩ ⟨Nat.zero_le _, Nat.zero_le _⟩ 2 rfl rfl (t_M_applyDirectly hn ho hp (by omega) hk) rfl rfl (Nat.le_of_ble_eq_true rfl) (fun v143 w143 hp143 => ?_)
            obtain ⟨rfl, s2, hs, rfl⟩ := hp143
            refine x_vret (pc := 146) d_M_applyOperator_146 rfl ?_
            refine ⟨rfl, s2, _, ?_, by first | exact hopr | exact un_small hopr (by omega), rfl⟩
            rw [hs]
            first
              | exact (mact_if (by omega) (by omega) (by omega) (by first | exact (if_pos (by omega)).symm | exact (if_neg (by omega)).symm)).symm
              | exact (mact_add (by omega) (by omega) (by omega) (by omega)).symm
              | exact (mact_oth (by omega) (by omega)).symm
          · intro h96
            have g96 := of_decide_eq_true h96
            refine x_aload_n (pc := 99) d_M_applyOperator_99 1 rfl ?_
            refine x_get (pc := 100) (ci := 1) d_M_applyOperator_100 in_M rfl 5 (by decide) k_M_24 2 rfl rfl ?_
            refine x_iconst (pc := 103) (nI 1) d_M_applyOperator_103 (by decide) ?_
            refine x_aload_n (pc := 104) d_M_applyOperator_104 1 rfl ?_
            refine x_get (pc := 105) (ci := 1) d_M_applyOperator_105 in_M rfl 5 (by decide) k_M_24 2 rfl rfl ?_
            refine x_iconst (pc := 108) (nI 1) d_M_applyOperator_108 (by decide) ?_
            refine x_ialdN (pc := 109) d_M_applyOperator_109 13 0 rfl rfl (by omega) (by omega) ?_
            refine x_aload_n (pc := 110) d_M_applyOperator_110 1 rfl ?_
            refine x_get (pc := 111) (ci := 1) d_M_applyOperator_111 in_M rfl 5 (by decide) k_M_24 2 rfl rfl ?_
            refine x_iconst (pc := 114) (nI 2) d_M_applyOperator_114 (by decide) ?_
            refine x_ialdN (pc := 115) d_M_applyOperator_115 13 0 rfl rfl (by omega) (by omega) ?_
            first | refine x_iaddN (pc := 116) d_M_applyOperator_116 ?_ | refine x_iadd (pc := 116) d_M_applyOperator_116 ?_
            refine x_bipush (pc := 117) (nI 10) d_M_applyOperator_117 (by decide) ?_
            first | refine x_iremN (pc := 119) d_M_applyOperator_119 (by omega) (by omega) (by omega) ?_ | refine x_irem (pc := 119) d_M_applyOperator_119 (by decide) ?_
            first | refine x_iastU (pc := 120) d_M_applyOperator_120 13 0 rfl rfl (by omega) (by omega) ?_ | refine x_iastN (pc := 120) d_M_applyOperator_120 13 0 rfl rfl (by omega) (by omega) _ rfl ?_
            refine x_aload_n (pc := 121) d_M_applyOperator_121 1 rfl ?_
            refine x_aload_n (pc := 122) d_M_applyOperator_122 1 rfl ?_
            refine x_get (pc := 123) (ci := 1) d_M_applyOperator_123 in_M rfl 5 (by decide) k_M_24 2 rfl rfl ?_
            refine x_iconst (pc := 126) (nI 3) d_M_applyOperator_126 (by decide) ?_
            refine x_ialdN (pc := 127) d_M_applyOperator_127 13 0 rfl rfl (by omega) (by omega) ?_
            refine x_iconst (pc := 128) (nI 1) d_M_applyOperator_128 (by decide) ?_
            refine x_callV_X (pc := 129) (ci := 1) d_M_applyOperator_129 k_M_94 wi_M_applyDirectly wv_M_applyDirectly w_M_applyDirectly ini_M wd_M_applyDirectly ⟨by decide, by decide⟩ ⟨rfl, rfl⟩ ⟨Nat.zero_le _, Nat.zero_le _⟩ 2 rfl rfl (t_M_applyDirectly hn ho hp (by rw [un_ne _ _ (by decide)]; omega) (by omega)) rfl rfl (Nat.le_of_ble_eq_true rfl) (fun v129 w129 hp129 => ?_)
            obtain ⟨rfl, s2, hs, rfl⟩ := hp129
            refine x_goto (pc := 132) (tgt := 146) d_M_applyOperator_132 rfl ?_
            refine x_vret (pc := 146) d_M_applyOperator_146 rfl ?_
            refine ⟨rfl, s2, _, ?_, by first | exact hopr | exact un_small hopr (by omega), rfl⟩
            rw [hs]
            first
              | exact (mact_if (by omega) (by omega) (by omega) (by first | exact (if_pos (by omega)).symm | exact (if_neg (by omega)).symm)).symm
              | exact (mact_add (by omega) (by omega) (by omega) (by omega)).symm
              | exact (mact_oth (by omega) (by omega)).symm
      · intro h36
        refine x_aload_n (pc := 39) d_M_applyOperator_39 1 rfl ?_
        refine x_aload_n (pc := 40) d_M_applyOperator_40 1 rfl ?_
        refine x_get (pc := 41) (ci := 1) d_M_applyOperator_41 in_M rfl 5 (by decide) k_M_24 2 rfl rfl ?_
        refine x_iconst (pc := 44) (nI 1) d_M_applyOperator_44 (by decide) ?_
        refine x_ialdN (pc := 45) d_M_applyOperator_45 13 0 rfl rfl (by omega) (by omega) ?_
        first | refine x_if_neB (pc := 46) (tgt := 58) d_M_applyOperator_46 rfl ?_ ?_ | refine x_if_neL (pc := 46) (tgt := 58) d_M_applyOperator_46 rfl ?_ ?_ | refine x_if_neN (pc := 46) (tgt := 58) d_M_applyOperator_46 rfl (by omega) ?_ ?_ | refine x_if_ne (pc := 46) (tgt := 58) d_M_applyOperator_46 rfl ?_ ?_
        · intro h46
          refine x_aload_n (pc := 58) d_M_applyOperator_58 1 rfl ?_
          refine x_get (pc := 59) (ci := 1) d_M_applyOperator_59 in_M rfl 5 (by decide) k_M_24 2 rfl rfl ?_
          refine x_iconst (pc := 62) (nI 3) d_M_applyOperator_62 (by decide) ?_
          refine x_ialdN (pc := 63) d_M_applyOperator_63 13 0 rfl rfl (by omega) (by omega) ?_
          refine x_iconst (pc := 64) (nI 0) d_M_applyOperator_64 (by decide) ?_
          refine x_callV_X (pc := 65) (ci := 1) d_M_applyOperator_65 k_M_94 wi_M_applyDirectly wv_M_applyDirectly w_M_applyDirectly ini_M wd_M_applyDirectly ⟨by decide, by decide⟩ ⟨rfl, rfl⟩ ⟨Nat.zero_le _, Nat.zero_le _⟩ 2 rfl rfl (t_M_applyDirectly hn ho hp (by omega) (by omega)) rfl rfl (Nat.le_of_ble_eq_true rfl) (fun v65 w65 hp65 => ?_)
          obtain ⟨rfl, s2, hs, rfl⟩ := hp65
          refine x_goto (pc := 68) (tgt := 146) d_M_applyOperator_68 rfl ?_
          refine x_vret (pc := 146) d_M_applyOperator_146 rfl ?_
          refine ⟨rfl, s2, _, ?_, by first | exact hopr | exact un_small hopr (by omega), rfl⟩
          rw [hs]
          first
            | exact (mact_if (by omega) (by omega) (by omega) (by first | exact (if_pos (by omega)).symm | exact (if_neg (by omega)).symm)).symm
            | exact (mact_add (by omega) (by omega) (by omega) (by omega)).symm
            | exact (mact_oth (by omega) (by omega)).symm
        · intro h46
          refine x_aload_n (pc := 49) d_M_applyOperator_49 1 rfl ?_
          refine x_get (pc := 50) (ci := 1) d_M_applyOperator_50 in_M rfl 5 (by decide) k_M_24 2 rfl rfl ?_
          refine x_iconst (pc := 53) (nI 2) d_M_applyOperator_53 (by decide) ?_
          refine x_ialdN (pc := 54) d_M_applyOperator_54 13 0 rfl rfl (by omega) (by omega) ?_
          refine x_goto (pc := 55) (tgt := 64) d_M_applyOperator_55 rfl ?_
          refine x_iconst (pc := 64) (nI 0) d_M_applyOperator_64 (by decide) ?_
          refine x_callV_X (pc := 65) (ci := 1) d_M_applyOperator_65 k_M_94 wi_M_applyDirectly wv_M_applyDirectly w_M_applyDirectly ini_M wd_M_applyDirectly ⟨by decide, by decide⟩ ⟨rfl, rfl⟩ ⟨Nat.zero_le _, Nat.zero_le _⟩ 2 rfl rfl (t_M_applyDirectly hn ho hp (by omega) (by omega)) rfl rfl (Nat.le_of_ble_eq_true rfl) (fun v65 w65 hp65 => ?_)
          obtain ⟨rfl, s2, hs, rfl⟩ := hp65
          refine x_goto (pc := 68) (tgt := 146) d_M_applyOperator_68 rfl ?_
          refine x_vret (pc := 146) d_M_applyOperator_146 rfl ?_
          refine ⟨rfl, s2, _, ?_, by first | exact hopr | exact un_small hopr (by omega), rfl⟩
          rw [hs]
          first
            | exact (mact_if (by omega) (by omega) (by omega) (by first | exact (if_pos (by omega)).symm | exact (if_neg (by omega)).symm)).symm
            | exact (mact_add (by omega) (by omega) (by omega) (by omega)).symm
            | exact (mact_oth (by omega) (by omega)).symm
end MACH2
end
section
/-! The machine's steps keep its rules -/
def swf (cnt : Nat) (par : Nat → Int32) (prm : Nat → Nat) (s : AM) : Prop := mwf cnt par prm s.1 s.2.1 s.2.2.1 s.2.2.2.1 ∧ s.2.2.2.2.2.1 ≤ 4 ∧ (s.2.2.2.2.2.1 = 2 → vok cnt par s.1 s.2.1 s.2.2.2.2.2.2)
section MW
variable {cnt : Nat} {par : Nat → Int32} {prm siz atm : Nat → Nat}
theorem vok_lt {n : Nat} {own : Nat → Nat} {v : Nat} (hn : n ≤ 64) (h : vok cnt par n own v) : v < 100000 := by
  rcases h with q | q | q <;> omega
theorem vok_mono {n m : Nat} {own : Nat → Nat} {v : Nat} (h : vok cnt par n own v) : vok cnt par (n + 1) (un own (n + 1) m) v := by
  rcases h with q | q | ⟨q1, q2, q3, q4, q5, q6⟩
  · exact Or.inl q
  · exact Or.inr (Or.inl q)
  · refine Or.inr (Or.inr ⟨q1, q2, q3, q4, by omega, ?_⟩)
    rw [un_ne _ _ (by omega)]
    exact q6
theorem mdir_wf (hw : pwf cnt par prm siz atm) {s : AM} (hs : swf cnt par prm s) {f k x : Nat} {g : Nat → Nat} (hf : vok cnt par s.1 s.2.1 f) (hg : ∀ i, i < k → vok cnt par s.1 s.2.1 (g i)) (hx : k = 1 → vok cnt par s.1 s.2.1 x) : swf cnt par prm (mdo (mdir prm f k x) g s) := by
  obtain ⟨n, own, out, bnd, cal, ph, oc⟩ := s
  obtain ⟨hm, hph, hoc⟩ := hs
  have hm : mwf cnt par prm n own out bnd := hm
  have hf : vok cnt par n own f := hf
  have hg : ∀ i, i < k → vok cnt par n own (g i) := hg
  have hx : k = 1 → vok cnt par n own x := hx
  have hoc : ph = 2 → vok cnt par n own oc := hoc
  have hph : ph ≤ 4 := hph
  have hc8 : cnt ≤ 8 := hw.2.1
  by_cases h1 : 200 ≤ f % 1000 ∧ f % 1000 < 208
  · by_cases h2 : prm (f % 1000 - 200) = k
    · rw [mdir_2 h1 h2]
      by_cases h6 : n = 64
      · rw [mdo_full h6]
        exact ⟨hm, Nat.le_refl 4, fun q => absurd q (show ¬ 4 = 2 by decide)⟩
      · rw [mdo_enter h6]
        have hf3 : 0 < f % 1000 - 200 ∧ f % 1000 - 200 < cnt ∧ f / 1000 ≤ n ∧ par (f % 1000 - 200) = nI (own (f / 1000)) := by
          rcases hf with q | q | ⟨_, _, q3, q4, q5, q6⟩
          · omega
          · omega
          · exact ⟨q3, q4, q5, q6⟩
        obtain ⟨a1, a2, a3, a4, a5⟩ := hm
        obtain ⟨b1, b2, b3, b4⟩ := hf3
        refine ⟨⟨by show n + 1 ≤ 64; omega, ?_, ?_, fun j j0 j1 => ?_, fun j i j1 hi => ?_⟩, hph, fun q => vok_mono (hoc q)⟩
        · show un own (n + 1) (f % 1000 - 200) 0 = 0
          rw [un_ne _ _ (by omega)]
          exact a2
        · show un out (n + 1) (f / 1000) 0 = 0
          rw [un_ne _ _ (by omega)]
          exact a3
        · have j1 : j ≤ n + 1 := j1
          show 0 < un own (n + 1) (f % 1000 - 200) j ∧ un own (n + 1) (f % 1000 - 200) j < cnt ∧ un out (n + 1) (f / 1000) j < j ∧ par (un own (n + 1) (f % 1000 - 200) j) = nI (un own (n + 1) (f % 1000 - 200) (un out (n + 1) (f / 1000) j))
          by_cases e : j = n + 1
          · subst e
            rw [un_self, un_self, un_ne _ _ (by omega)]
            exact ⟨b1, b2, by omega, b4⟩
          · obtain ⟨c1, c2, c3, c4⟩ := a4 j j0 (by omega)
            rw [un_ne _ _ e, un_ne _ _ e, un_ne _ _ (by omega)]
            exact ⟨c1, c2, c3, c4⟩
        · have j1 : j ≤ n + 1 := j1
          have hi : i < prm (un own (n + 1) (f % 1000 - 200) j) := hi
          show vok cnt par (n + 1) (un own (n + 1) (f % 1000 - 200)) (bst bnd (3 * (n + 1)) g k (3 * j + i))
          by_cases e : j = n + 1
          · subst e
            rw [un_self, h2] at hi
            rw [bst_in k hi]
            exact vok_mono (hg i hi)
          · rw [un_ne _ _ e] at hi
            have ho := mwf.own_lt (⟨a1, a2, a3, a4, a5⟩ : mwf cnt par prm n own out bnd) hw.1 (j := j) (by omega)
            have := hw.2.2.2.1 (own j) (by omega)
            rw [bst_out k (by omega)]
            exact vok_mono (a5 j i (by omega) hi)
    · rw [mdir_0 (fun q => h2 q.2) (fun q => by omega)]
      exact ⟨hm, by show 3 ≤ 4; omega, fun q => absurd q (show ¬ 3 = 2 by decide)⟩
  · by_cases h3 : f = 300 ∧ k = 1
    · rw [mdir_1 h3.1 h3.2]
      exact ⟨hm, by show 2 ≤ 4; omega, fun _ => hx h3.2⟩
    · rw [mdir_0 (fun q => h1 q.1) h3]
      exact ⟨hm, by show 3 ≤ 4; omega, fun q => absurd q (show ¬ 3 = 2 by decide)⟩
theorem mops_ok (hw : pwf cnt par prm siz atm) {s : AM} (hm : mwf cnt par prm s.1 s.2.1 s.2.2.1 s.2.2.2.1) {i : Nat} (hi : i < siz (s.2.1 s.1)) : vok cnt par s.1 s.2.1 (mops atm s i) :=
  mval.ok hm hw.2.2.1 hw.2.1 hw.1 (hw.2.2.2.2.2.2 _ i (hm.own_lt hw.1 (Nat.le_refl _)) hi)
theorem mstep_wf (hw : pwf cnt par prm siz atm) {s : AM} (hs : swf cnt par prm s) : swf cnt par prm (mstep prm siz atm s) := by
  have ho : ∀ i, i < siz (s.2.1 s.1) → vok cnt par s.1 s.2.1 (mops atm s i) := fun i hi => mops_ok hw hs.1 hi
  have hl4 := hw.2.2.2.2.2.1 (s.2.1 s.1) (by have := hs.1.own_lt hw.1 (Nat.le_refl _); have := hw.2.1; omega)
  unfold mstep
  generalize siz (s.2.1 s.1) = len at *
  generalize mops atm s = o at *
  rcases Nat.eq_zero_or_pos len with e0 | e0
  · subst e0
    have : mact prm 0 o = (0, 0, 0, 0, 0) := rfl
    rw [this]
    exact ⟨hs.1, by show 3 ≤ 4; omega, fun q => absurd q (show ¬ 3 = 2 by decide)⟩
  · obtain ⟨k, rfl⟩ : ∃ k, len = k + 1 := ⟨len - 1, by omega⟩
    by_cases h1 : (k = 3 ∧ o 1 < 10) ∧ o 0 = 302
    · rw [mact_if h1.1.1 h1.1.2 h1.2 rfl]
      refine mdir_wf hw hs ?_ (fun i hi => absurd hi (Nat.not_lt_zero i)) (fun q => absurd q (by decide))
      split
      · exact ho 2 (by omega)
      · exact ho 3 (by omega)
    · by_cases h2 : ((k = 3 ∧ o 1 < 10) ∧ o 0 = 301) ∧ o 2 < 10
      · rw [mact_add h2.1.1.1 h2.1.1.2 h2.1.2 h2.2]
        refine mdir_wf hw hs ?_ (fun i hi => ?_) (fun _ => ?_)
        · rw [un_ne _ _ (by decide)]
          exact ho 3 (by omega)
        · have : i = 0 := by omega
          subst this
          rw [un_self]
          exact Or.inl (by omega)
        · rw [un_self]
          exact Or.inl (by omega)
      · rw [mact_oth h1 h2]
        exact mdir_wf hw hs (ho 0 (by omega)) (fun i hi => ho (1 + i) (by omega)) (fun q => ho 1 (by omega))
end MW
theorem madv_0 {prm siz atm : Nat → Nat} {s : AM} : madv prm siz atm 0 s = (s, 0) := rfl
theorem madv_stop {prm siz atm : Nat → Nat} {k : Nat} {s : AM} (h : ¬ s.2.2.2.2.2.1 = 1) : madv prm siz atm (k + 1) s = (s, 0) := by
  unfold madv
  rw [if_neg h]
theorem madv_full {prm siz atm : Nat → Nat} {k : Nat} {s : AM} (h : s.2.2.2.2.2.1 = 1) (h4 : (mstep prm siz atm s).2.2.2.2.2.1 = 4) : madv prm siz atm (k + 1) s = (mstep prm siz atm s, 0) := by
  unfold madv
  rw [if_pos h, if_pos h4]
theorem madv_go {prm siz atm : Nat → Nat} {k : Nat} {s : AM} (h : s.2.2.2.2.2.1 = 1) (h4 : ¬ (mstep prm siz atm s).2.2.2.2.2.1 = 4) : madv prm siz atm (k + 1) s = ((madv prm siz atm k (mstep prm siz atm s)).1, (madv prm siz atm k (mstep prm siz atm s)).2 + 1) := by
  conv => lhs; unfold madv
  rw [if_pos h, if_neg h4]
theorem madv_le {prm siz atm : Nat → Nat} : ∀ (k : Nat) (s : AM), (madv prm siz atm k s).2 ≤ k
  | 0, s => Nat.le_refl 0
  | k + 1, s => by
    by_cases h : s.2.2.2.2.2.1 = 1
    · by_cases h4 : (mstep prm siz atm s).2.2.2.2.2.1 = 4
      · rw [madv_full h h4]
        exact Nat.zero_le _
      · rw [madv_go h h4]
        have := madv_le (prm := prm) (siz := siz) (atm := atm) k (mstep prm siz atm s)
        show _ + 1 ≤ k + 1
        omega
    · rw [madv_stop h]
      exact Nat.zero_le _
end
section
section MACH3
variable {l : Launch} {D : va_G} {ad : Nat → Nat} {cI cL : ClassId} {par : Nat → Int32} {prm : Nat → Nat} {lin : Nat → Int32} {siz atm : Nat → Nat} {cnt : Nat} {own out bnd : Nat → Nat} {cal : Nat → Int32} {opr : Nat → Nat} {n ph oc : Nat} {P : Nat → Int32} {Q : Nat → Int64} {OC : Nat → Int32} {OP : Nat → Int64} {F : Nat → Int32} {S : Int64} {R : Int32} {vis nc : Nat} {gr md : Bool}
set_option maxHeartbeats 4000000 in
set_option maxRecDepth 100000 in
theorem t_M_tryStep (hw : pwf cnt par prm siz atm) (hm : mwf cnt par prm n own out bnd) (hopr : ∀ i, i < 4 → opr i < 100000) : CT l y_M_tryStep c_M_tryStep 3 none (rmm 4 89) (gG D cI cL) [.ref (ad 2)] (wC ad cI cL par prm lin siz atm cnt own out bnd cal opr n ph oc P Q OC OP F S R vis nc gr md) (fun v w2 => v = none ∧ ∃ s2 o2, s2 = mstep prm siz atm (n, own, out, bnd, cal, ph, oc) ∧ (∀ i, i < 4 → o2 i < 100000) ∧ w2 = (wC ad cI cL par prm lin siz atm cnt s2.2.1 s2.2.2.1 s2.2.2.2.1 s2.2.2.2.2.1 o2 s2.1 s2.2.2.2.2.2.1 s2.2.2.2.2.2.2 P Q OC OP F S R vis nc gr md)) := by
  refine CT.of R_M (by decide) rfl (Nat.le_of_ble_eq_true rfl) ?_
  intro E A hname
  have hc8 : cnt ≤ 8 := hw.2.1
  have hn : n ≤ 64 := hm.1
  have ho := hm.own_lt hw.1 (Nat.le_refl n)
  have hz := hw.2.2.2.2.2.1 (own n) (by omega)
  refine x_aload_n (pc := 0) d_M_tryStep_0 0 rfl ?_
  refine x_get (pc := 1) (ci := 1) d_M_tryStep_1 in_M rfl 0 (by decide) k_M_27 2 rfl rfl ?_
  refine x_aload_n (pc := 4) d_M_tryStep_4 0 rfl ?_
  refine x_callV_I (pc := 5) (ci := 1) d_M_tryStep_5 k_M_56 wi_M_place wv_M_place w_M_place ini_M wd_M_place ⟨by decide, by decide⟩ ⟨rfl, rfl⟩ ⟨Nat.zero_le _, Nat.zero_le _⟩ 2 rfl rfl (t_M_place hn) rfl rfl (Nat.le_of_ble_eq_true rfl) ?_
  refine x_callV_I (pc := 8) (ci := 2) d_M_tryStep_8 k_M_60 wi_P_callLength wv_P_callLength w_P_callLength ini_P wd_P_callLength ⟨by decide, by decide⟩ ⟨rfl, rfl⟩ ⟨Nat.zero_le _, Nat.zero_le _⟩ 1 rfl rfl (t_P_callLength (by omega)) rfl rfl (Nat.le_of_ble_eq_true rfl) ?_
  refine x_istore_n (pc := 11) d_M_tryStep_11 rfl (by decide) [(1, _), (0, _)] rfl ?_
  refine x_iload_n (pc := 12) d_M_tryStep_12 0 rfl ?_
  first | refine x_if_neB (pc := 13) (tgt := 22) d_M_tryStep_13 rfl ?_ ?_ | refine x_if_neL (pc := 13) (tgt := 22) d_M_tryStep_13 rfl ?_ ?_ | refine x_if_neN (pc := 13) (tgt := 22) d_M_tryStep_13 rfl (by omega) ?_ ?_ | refine x_if_ne (pc := 13) (tgt := 22) d_M_tryStep_13 rfl ?_ ?_
  · intro h13
    refine x_iconst (pc := 22) (nI 0) d_M_tryStep_22 (by decide) ?_
    refine x_istore_n (pc := 23) d_M_tryStep_23 rfl (by decide) [(2, _), (1, _), (0, _)] rfl ?_
    have hlp : ∀ (fuel : Nat) (i : Nat), siz (own n) - i < fuel → (i ≤ siz (own n)) → xj E l (rmm 4 89) c_M_tryStep 3 none R_M (gG D cI cL) A 0 0 (fun v w2 => v = none ∧ ∃ s2 o2, s2 = mstep prm siz atm (n, own, out, bnd, cal, ph, oc) ∧ (∀ i, i < 4 → o2 i < 100000) ∧ w2 = (wC ad cI cL par prm lin siz atm cnt s2.2.1 s2.2.2.1 s2.2.2.2.1 s2.2.2.2.2.1 o2 s2.1 s2.2.2.2.2.2.1 s2.2.2.2.2.2.2 P Q OC OP F S R vis nc gr md)) 0 0 (wC ad cI cL par prm lin siz atm cnt own out bnd cal (bst opr 0 (mops atm (n, own, out, bnd, cal, ph, oc)) i) n ph oc P Q OC OP F S R vis nc gr md) 24 [(2, .int (nI i)), (0, .ref (ad 2)), (1, .int (nI (siz (own n))))] [] := by
      intro fuel
      induction fuel with
      | zero => intro i hf; exact absurd hf (Nat.not_lt_zero _)
      | succ fuel ih =>
        intro i hf hi
        refine x_iload_n (pc := 24) d_M_tryStep_24 0 rfl ?_
        refine x_iload_n (pc := 25) d_M_tryStep_25 2 rfl ?_
        first | refine x_icmp_geN (pc := 26) (tgt := 57) d_M_tryStep_26 rfl (by omega) (by omega) ?_ ?_ | refine x_icmp_ge (pc := 26) (tgt := 57) d_M_tryStep_26 rfl ?_ ?_
        · intro h26
          refine x_aload_n (pc := 57) d_M_tryStep_57 1 rfl ?_
          refine x_iload_n (pc := 58) d_M_tryStep_58 2 rfl ?_
          refine x_iconst (pc := 59) (nI 1) d_M_tryStep_59 (by decide) ?_
          first | refine x_isubN (pc := 60) d_M_tryStep_60 (by omega) ?_ | refine x_isub (pc := 60) d_M_tryStep_60 ?_
          refine x_callV_X (pc := 61) (ci := 1) d_M_tryStep_61 k_M_71 wi_M_applyOperator wv_M_applyOperator w_M_applyOperator ini_M wd_M_applyOperator ⟨by decide, by decide⟩ ⟨rfl, rfl⟩ ⟨Nat.zero_le _, Nat.zero_le _⟩ 2 rfl rfl (t_M_applyOperator hn (by omega) hw.2.2.2.1 (bst_small hopr i (fun j hj => vok_lt hn (mops_ok hw (s := (n, own, out, bnd, cal, ph, oc)) hm (i := j) (show j < siz (own n) by omega)))) (by omega)) rfl rfl (Nat.le_of_ble_eq_true rfl) (fun v61 w61 hp61 => ?_)
          obtain ⟨rfl, s2, o2, hs, ho2, rfl⟩ := hp61
          refine x_vret (pc := 64) d_M_tryStep_64 rfl ?_
          refine ⟨rfl, s2, o2, ?_, ho2, rfl⟩
          rw [hs, show siz (own n) - 1 + 1 = siz (own n) by omega]
          refine mdo_congr (by omega) (fun j hj => ?_)
          have e1 : i = siz (own n) := by omega
          have e2 := bst_in (bnd := opr) (b := 0) (f := mops atm (n, own, out, bnd, cal, ph, oc)) (i := j) i (by omega)
          rw [Nat.zero_add] at e2
          exact e2
        · intro h26
          refine x_aload_n (pc := 29) d_M_tryStep_29 1 rfl ?_
          refine x_get (pc := 30) (ci := 1) d_M_tryStep_30 in_M rfl 5 (by decide) k_M_24 2 rfl rfl ?_
          refine x_iload_n (pc := 33) d_M_tryStep_33 0 rfl ?_
          refine x_aload_n (pc := 34) d_M_tryStep_34 1 rfl ?_
          refine x_aload_n (pc := 35) d_M_tryStep_35 1 rfl ?_
          refine x_get (pc := 36) (ci := 1) d_M_tryStep_36 in_M rfl 0 (by decide) k_M_27 2 rfl rfl ?_
          refine x_aload_n (pc := 39) d_M_tryStep_39 1 rfl ?_
          refine x_callV_I (pc := 40) (ci := 1) d_M_tryStep_40 k_M_56 wi_M_place wv_M_place w_M_place ini_M wd_M_place ⟨by decide, by decide⟩ ⟨rfl, rfl⟩ ⟨Nat.zero_le _, Nat.zero_le _⟩ 2 rfl rfl (t_M_place hn) rfl rfl (Nat.le_of_ble_eq_true rfl) ?_
          refine x_iload_n (pc := 43) d_M_tryStep_43 0 rfl ?_
          refine x_callV_I (pc := 44) (ci := 2) d_M_tryStep_44 k_M_64 wi_P_atomOf wv_P_atomOf w_P_atomOf ini_P wd_P_atomOf ⟨by decide, by decide⟩ ⟨rfl, rfl⟩ ⟨Nat.zero_le _, Nat.zero_le _⟩ 1 rfl rfl (t_P_atomOf (by omega) (by omega)) rfl rfl (Nat.le_of_ble_eq_true rfl) ?_
          refine x_callV_I (pc := 47) (ci := 1) d_M_tryStep_47 k_M_68 wi_M_meaning wv_M_meaning w_M_meaning ini_M wd_M_meaning ⟨by decide, by decide⟩ ⟨rfl, rfl⟩ ⟨Nat.zero_le _, Nat.zero_le _⟩ 2 rfl rfl (t_M_meaning hw hm (hw.2.2.2.2.2.2 (own n) i (by omega) (by omega))) rfl rfl (Nat.le_of_ble_eq_true rfl) ?_
          first | refine x_iastU (pc := 50) d_M_tryStep_50 13 0 rfl rfl (by omega) (by omega) ?_ | refine x_iastN (pc := 50) d_M_tryStep_50 13 0 rfl rfl (by omega) (by omega) _ rfl ?_
          refine x_iincN (pc := 51) d_M_tryStep_51 0 rfl (by decide) [(2, _), (0, _), (1, _)] rfl ?_
          refine x_goto (pc := 54) (tgt := 24) d_M_tryStep_54 rfl ?_
          refine x_sub [0, 1, 2] _ rfl ?_
          refine x_w (w2 := (wC ad cI cL par prm lin siz atm cnt own out bnd cal (bst opr 0 (mops atm (n, own, out, bnd, cal, ph, oc)) (i + 1)) n ph oc P Q OC OP F S R vis nc gr md)) (by rw [bst_s0]; rfl) ?_
          exact ih (i + 1) (by omega) (by omega)
    refine x_sub [0, 2, 1] _ rfl ?_
    exact hlp (siz (own n) + 1) 0 (by omega) (by omega)
  · intro h13
    refine x_aload_n (pc := 16) d_M_tryStep_16 1 rfl ?_
    refine x_iconst (pc := 17) (nI 3) d_M_tryStep_17 (by decide) ?_
    refine x_put (pc := 18) (ci := 1) (ty := .int) d_M_tryStep_18 in_M t_M ty_M nm_M rfl 7 (by decide) k_M_31 rfl (by decide +kernel) rfl rfl 2 rfl (Nat.le_of_ble_eq_true rfl) (_) (rfl) ?_
    refine x_vret (pc := 21) d_M_tryStep_21 rfl ?_
    refine ⟨rfl, (n, own, out, bnd, cal, 3, oc), opr, ?_, hopr, rfl⟩
    unfold mstep
    have e0 : siz (own n) = 0 := h13
    show _ = mdo (mact prm (siz (own n)) _) _ _
    rw [e0]
    rfl
set_option maxHeartbeats 4000000 in
set_option maxRecDepth 100000 in
theorem t_M_advance {x : Nat} (hw : pwf cnt par prm siz atm) (hs : swf cnt par prm (n, own, out, bnd, cal, ph, oc)) (hopr : ∀ i, i < 4 → opr i < 100000) (hx : x ≤ 100) : CT l y_M_advance c_M_advance 3 (some .int) (rmm 5 111) (gG D cI cL) [.ref (ad 2), .int (nI x)] (wC ad cI cL par prm lin siz atm cnt own out bnd cal opr n ph oc P Q OC OP F S R vis nc gr md) (fun v w2 => ∃ s2 o2, s2 = (madv prm siz atm x (n, own, out, bnd, cal, ph, oc)).1 ∧ swf cnt par prm s2 ∧ (∀ i, i < 4 → o2 i < 100000) ∧ v = some (.int (nI (madv prm siz atm x (n, own, out, bnd, cal, ph, oc)).2)) ∧ w2 = (wC ad cI cL par prm lin siz atm cnt s2.2.1 s2.2.2.1 s2.2.2.2.1 s2.2.2.2.2.1 o2 s2.1 s2.2.2.2.2.2.1 s2.2.2.2.2.2.2 P Q OC OP F S R vis nc gr md)) := by
  refine CT.of R_M (by decide) rfl (Nat.le_of_ble_eq_true rfl) ?_
  intro E A hname
  refine x_iconst (pc := 0) (nI 0) d_M_advance_0 (by decide) ?_
  refine x_istore_n (pc := 1) d_M_advance_1 rfl (by decide) [(2, _), (0, _), (1, _)] rfl ?_
  have hlp : ∀ (fuel : Nat) (j : Nat) (s : AM) (o : Nat → Nat), x - j < fuel → (j ≤ x) → (swf cnt par prm s) → (∀ i, i < 4 → o i < 100000) → (madv prm siz atm x (n, own, out, bnd, cal, ph, oc) = ((madv prm siz atm (x - j) s).1, (madv prm siz atm (x - j) s).2 + j)) → xj E l (rmm 5 111) c_M_advance 3 (some .int) R_M (gG D cI cL) A 0 0 (fun v w2 => ∃ s2 o2, s2 = (madv prm siz atm x (n, own, out, bnd, cal, ph, oc)).1 ∧ swf cnt par prm s2 ∧ (∀ i, i < 4 → o2 i < 100000) ∧ v = some (.int (nI (madv prm siz atm x (n, own, out, bnd, cal, ph, oc)).2)) ∧ w2 = (wC ad cI cL par prm lin siz atm cnt s2.2.1 s2.2.2.1 s2.2.2.2.1 s2.2.2.2.2.1 o2 s2.1 s2.2.2.2.2.2.1 s2.2.2.2.2.2.2 P Q OC OP F S R vis nc gr md)) 0 0 (wC ad cI cL par prm lin siz atm cnt s.2.1 s.2.2.1 s.2.2.2.1 s.2.2.2.2.1 o s.1 s.2.2.2.2.2.1 s.2.2.2.2.2.2 P Q OC OP F S R vis nc gr md) 2 [(2, .int (nI j)), (0, .ref (ad 2)), (1, .int (nI x))] [] := by
    intro fuel
    induction fuel with
    | zero => intro j s o hf; exact absurd hf (Nat.not_lt_zero _)
    | succ fuel ih =>
      intro j s o hf hj hs ho hq
      have hph := hs.2.1
      refine x_iload_n (pc := 2) d_M_advance_2 0 rfl ?_
      refine x_iload_n (pc := 3) d_M_advance_3 2 rfl ?_
      first | refine x_icmp_geN (pc := 4) (tgt := 37) d_M_advance_4 rfl (by omega) (by omega) ?_ ?_ | refine x_icmp_ge (pc := 4) (tgt := 37) d_M_advance_4 rfl ?_ ?_
      · intro h4
        refine x_iload_n (pc := 37) d_M_advance_37 2 rfl ?_
        refine x_iret (pc := 38) d_M_advance_38 rfl ?_
        have e1 : x - j = 0 := by omega
        have e2 : j = x := by omega
        rw [hq, e1, madv_0]
        exact ⟨s, o, rfl, hs, ho, by rw [Nat.zero_add, e2], rfl⟩
      · intro h4
        refine x_aload_n (pc := 7) d_M_advance_7 1 rfl ?_
        refine x_get (pc := 8) (ci := 1) d_M_advance_8 in_M rfl 7 (by decide) k_M_31 2 rfl rfl ?_
        refine x_iconst (pc := 11) (nI 1) d_M_advance_11 (by decide) ?_
        first | refine x_icmp_eqN (pc := 12) (tgt := 17) d_M_advance_12 rfl (by omega) (by omega) ?_ ?_ | refine x_icmp_eq (pc := 12) (tgt := 17) d_M_advance_12 rfl ?_ ?_
        · intro h12
          refine x_aload_n (pc := 17) d_M_advance_17 1 rfl ?_
          refine x_callV_X (pc := 18) (ci := 1) d_M_advance_18 k_M_53 wi_M_tryStep wv_M_tryStep w_M_tryStep ini_M wd_M_tryStep ⟨by decide, by decide⟩ ⟨rfl, rfl⟩ ⟨Nat.zero_le _, Nat.zero_le _⟩ 2 rfl rfl (t_M_tryStep hw hs.1 ho) rfl rfl (Nat.le_of_ble_eq_true rfl) (fun v18 w18 hp18 => ?_)
          obtain ⟨rfl, s2, o2, hst, ho2, rfl⟩ := hp18
          have hst : s2 = mstep prm siz atm s := hst
          have hs2 : swf cnt par prm s2 := by rw [hst]; exact mstep_wf hw hs
          have hph2 := hs2.2.1
          refine x_aload_n (pc := 21) d_M_advance_21 1 rfl ?_
          refine x_get (pc := 22) (ci := 1) d_M_advance_22 in_M rfl 7 (by decide) k_M_31 2 rfl rfl ?_
          refine x_iconst (pc := 25) (nI 4) d_M_advance_25 (by decide) ?_
          first | refine x_icmp_neN (pc := 26) (tgt := 31) d_M_advance_26 rfl (by omega) (by omega) ?_ ?_ | refine x_icmp_ne (pc := 26) (tgt := 31) d_M_advance_26 rfl ?_ ?_
          · intro h26
            refine x_iincN (pc := 31) d_M_advance_31 0 rfl (by decide) [(2, _), (0, _), (1, _)] rfl ?_
            refine x_goto (pc := 34) (tgt := 2) d_M_advance_34 rfl ?_
            refine x_sub [0, 1, 2] _ rfl ?_
            refine ih (j + 1) s2 o2 (by omega) (by omega) hs2 ho2 ?_
            have e1 : x - j = (x - (j + 1)) + 1 := by omega
            rw [hq, e1, madv_go h12 (by rw [← hst]; exact h26), ← hst]
            show (_, _ + 1 + j) = (_, _ + (j + 1))
            rw [Nat.add_assoc, Nat.add_comm 1 j]
          · intro h26
            refine x_iload_n (pc := 29) d_M_advance_29 0 rfl ?_
            refine x_iret (pc := 30) d_M_advance_30 rfl ?_
            have e1 : x - j = (x - (j + 1)) + 1 := by omega
            rw [hq, e1, madv_full h12 (by rw [← hst]; exact h26), ← hst]
            exact ⟨s2, o2, rfl, hs2, ho2, by rw [Nat.zero_add], rfl⟩
        · intro h12
          refine x_iload_n (pc := 15) d_M_advance_15 0 rfl ?_
          refine x_iret (pc := 16) d_M_advance_16 rfl ?_
          have e1 : x - j = (x - (j + 1)) + 1 := by omega
          rw [hq, e1, madv_stop h12]
          exact ⟨s, o, rfl, hs, ho, by rw [Nat.zero_add], rfl⟩
  refine x_sub [0, 1, 2] _ rfl ?_
  exact hlp (x + 1) 0 (n, own, out, bnd, cal, ph, oc) opr (by omega) (by omega) hs hopr rfl
end MACH3
end
section
/-! Rows for the analysis's contracts -/
def lP (q : Nat) : Int64 := 1 <<< ((nI q).toInt64 &&& 63)
theorem lP_bl {q : Nat} (h : q < 64) (i : Nat) : bl (lP q) i = decide (i = q) := l_one q h i
def cin (p : Int64) (m : Nat) : Int32 := (p.toUInt64 >>> ((nI (8 * m)).toInt64.toUInt64 &&& Int64.toUInt64 63)).toInt64.toInt32 &&& nI 255
def cbit (a : Nat) : Nat := if a < 10 then a else a - 290
theorem l_orq {S v : Int64} {q : Nat} (hv : ∀ i, bl v i = decide (i = q)) : S ||| v = S ↔ bl S q = true := by
  constructor
  · intro h
    exact l_old h (by rw [hv]; simp)
  · intro h
    refine l_ext (fun i _ => ?_)
    rw [l_or, hv]
    by_cases e : i = q
    · subst e
      simp [h]
    · simp [e]
def acar (prm : Nat → Nat) (m e to i : Nat) (X Y : AX) : Prop := (∀ b, X.1 (sl m i e) b → Y.1 (sl m i to) b) ∧ ∀ b, X.2.1 (sl m i e) b → Y.2.1 (sl m i to) b
theorem acar.amon (prm : Nat → Nat) (m e to i : Nat) : amon (acar prm m e to i) := fun _ _ _ _ a b q => ⟨fun x hx => b.1 _ _ (q.1 x (a.1 _ _ hx)), fun x hx => b.2.1 _ _ (q.2 x (a.2.1 _ _ hx))⟩
theorem sl_lt {m i c : Nat} (hm : m < 8) (hi : i < 3) (hc : c < 8) : sl m i c < 192 := by
  unfold sl
  omega
theorem apc.car {prm : Nat → Nat} {m e to i : Nat} {g g' : Bool} {P : Nat → Int32} {Q : Nat → Int64} {S : Int64} {F : Nat → Int32} {R : Int32} {Y : AX} (hs : sl m i e < 192) (h : apc (awid (sl m i to) (P (sl m i e)) (Q (sl m i e))) g (ofw P Q S F R) g' Y) : apc (acar prm m e to i) g (ofw P Q S F R) g' Y :=
  h.conv (fun Z hZ hM => ⟨fun b hb => hM.1 b (hZ.1 _ _ ⟨hs, hb⟩), fun b hb => hM.2 b (hZ.2.1 _ _ ⟨hs, hb⟩)⟩) (fun hN => ⟨fun b hb => hN.1 b hb.2, fun b hb => hN.2 b hb.2⟩)
/-- who is around whom -/
def anc (par : Nat → Int32) (a m : Nat) : Prop := a < m ∧ aos par a m
theorem aenter {par : Nat → Int32} {prm : Nat → Nat} {lin : Nat → Int32} {cnt l m e to : Nat} {OC : Nat → Int32} {OP : Nat → Int64} {first : Nat} {g g1 g2 g3 g4 : Bool} {X X1 X2 X3 X4 : AX} (hl : linok cnt par lin) (hm : m < cnt) (h8 : cnt ≤ 8)
    (h1 : apc (aflo l m) g X g1 X1) (h2 : apc (asta (8 * m + to)) g1 X1 g2 X2) (h3 : apc (fun X Y => ∀ j, j < prm m → awid (sl m j to) (OC (first + j)) (OP (first + j)) X Y) g2 X2 g3 X3)
    (h4 : apc (fun X Y => ∀ a, a < m → bt (lin m) a = true → ∀ i, i < prm a → acar prm a e to i X Y) g3 X3 g4 X4) : apc (acall (anc par) prm l m e to (fun i b => bt (OC (first + i)) b = true) (fun i b => bl (OP (first + i)) b = true)) g X g4 X4 := by
  have m3 : amon (fun X Y => ∀ j, j < prm m → awid (sl m j to) (OC (first + j)) (OP (first + j)) X Y) := amon.all (fun j => (awid.amon _ _ _).imp)
  have m4 : amon (fun X Y => ∀ a, a < m → bt (lin m) a = true → ∀ i, i < prm a → acar prm a e to i X Y) := amon.all (fun a => (((amon.all (fun i => (acar.amon prm a e to i).imp)).imp).imp))
  refine (apc.seq (amon.and (amon.and (aflo.amon l m) (asta.amon _)) m3) m4 (apc.seq (amon.and (aflo.amon l m) (asta.amon _)) m3 (apc.seq (aflo.amon l m) (asta.amon _) h1 h2) h3) h4).conv (fun Z _ q => ⟨⟨⟨q.1, q.2.1⟩, fun j hj => q.2.2.1 j hj⟩, fun a ha hb i hi => q.2.2.2 a ⟨ha, (hl m a hm (by omega)).mp hb⟩ i hi⟩) (fun q => ⟨q.1.1.1, q.1.1.2, fun i hi => q.1.2 i hi, fun a ha i hi => q.2 a ha.1 ((hl m a hm (by have := ha.1; omega)).mpr ha.2) i hi⟩)
end
section
section ANA
variable {l : Launch} {D : va_G} {ad : Nat → Nat} {cI cL : ClassId} {par : Nat → Int32} {prm : Nat → Nat} {lin : Nat → Int32} {siz atm : Nat → Nat} {cnt : Nat} {own out bnd : Nat → Nat} {cal : Nat → Int32} {opr : Nat → Nat} {n ph oc : Nat} {P : Nat → Int32} {Q : Nat → Int64} {OC : Nat → Int32} {OP : Nat → Int64} {F : Nat → Int32} {S : Int64} {R : Int32} {vis nc : Nat} {gr md : Bool}
set_option maxHeartbeats 4000000 in
set_option maxRecDepth 100000 in
theorem t_A_slot {w : va_W} {m i c : Nat} : CT l y_A_slot c_A_slot 3 (some .int) (rmm 0 0) (gG D cI cL) [.int (nI m), .int (nI i), .int (nI c)] w (pI (nI (sl m i c)) w) := by
  refine CT.of R_A (by decide) rfl (Nat.le_of_ble_eq_true rfl) ?_
  intro E A hname
  refine x_iload_n (pc := 0) d_A_slot_0 0 rfl ?_
  refine x_iconst (pc := 1) (nI 3) d_A_slot_1 (by decide) ?_
  first | refine x_imulN (pc := 2) d_A_slot_2 ?_ | refine x_imul (pc := 2) d_A_slot_2 ?_
  refine x_iload_n (pc := 3) d_A_slot_3 1 rfl ?_
  first | refine x_iaddN (pc := 4) d_A_slot_4 ?_ | refine x_iadd (pc := 4) d_A_slot_4 ?_
  refine x_bipush (pc := 5) (nI 8) d_A_slot_5 (by decide) ?_
  first | refine x_imulN (pc := 7) d_A_slot_7 ?_ | refine x_imul (pc := 7) d_A_slot_7 ?_
  refine x_iload_n (pc := 8) d_A_slot_8 2 rfl ?_
  first | refine x_iaddN (pc := 9) d_A_slot_9 ?_ | refine x_iadd (pc := 9) d_A_slot_9 ?_
  refine x_iret (pc := 10) d_A_slot_10 rfl ?_
  exact ⟨rfl, rfl⟩
set_option maxHeartbeats 4000000 in
set_option maxRecDepth 100000 in
theorem t_A_pair {w : va_W} {m c : Nat} : CT l y_A_pair c_A_pair 2 (some .long) (rmm 0 0) (gG D cI cL) [.int (nI m), .int (nI c)] w (pL (lP (8 * m + c)) w) := by
  refine CT.of R_A (by decide) rfl (Nat.le_of_ble_eq_true rfl) ?_
  intro E A hname
  refine x_lconst (pc := 0) 1 d_A_pair_0 (by decide) ?_
  refine x_bipush (pc := 1) (nI 8) d_A_pair_1 (by decide) ?_
  refine x_iload_n (pc := 3) d_A_pair_3 0 rfl ?_
  first | refine x_imulN (pc := 4) d_A_pair_4 ?_ | refine x_imul (pc := 4) d_A_pair_4 ?_
  refine x_iload_n (pc := 5) d_A_pair_5 1 rfl ?_
  first | refine x_iaddN (pc := 6) d_A_pair_6 ?_ | refine x_iadd (pc := 6) d_A_pair_6 ?_
  refine x_lshl (pc := 7) d_A_pair_7 ?_
  refine x_lret (pc := 8) d_A_pair_8 rfl ?_
  exact ⟨rfl, rfl⟩
set_option maxHeartbeats 4000000 in
set_option maxRecDepth 100000 in
theorem t_A_hasPair {w : va_W} {p : Int64} {q : Nat} (hq : q < 64) : CT l y_A_hasPair c_A_hasPair 3 (some .boolean) (rmm 0 0) (gG D cI cL) [.long p, .int (nI q)] w (pI (bI (bl p q)) w) := by
  refine CT.of R_A (by decide) rfl (Nat.le_of_ble_eq_true rfl) ?_
  intro E A hname
  refine x_lload_n (pc := 0) d_A_hasPair_0 0 rfl ?_
  refine x_iload_n (pc := 1) d_A_hasPair_1 1 rfl ?_
  refine x_lushr (pc := 2) d_A_hasPair_2 ?_
  refine x_lconst (pc := 3) 1 d_A_hasPair_3 (by decide) ?_
  refine x_land (pc := 4) d_A_hasPair_4 ?_
  refine x_lconst (pc := 5) 0 d_A_hasPair_5 (by decide) ?_
  refine x_lcmp (pc := 6) d_A_hasPair_6 ?_
  first | refine x_if_eqB (pc := 7) (tgt := 14) d_A_hasPair_7 rfl ?_ ?_ | refine x_if_eqL (pc := 7) (tgt := 14) d_A_hasPair_7 rfl ?_ ?_ | refine x_if_eqN (pc := 7) (tgt := 14) d_A_hasPair_7 rfl (by omega) ?_ ?_ | refine x_if_eq (pc := 7) (tgt := 14) d_A_hasPair_7 rfl ?_ ?_
  · intro h7
    refine x_iconst (pc := 14) (nI 0) d_A_hasPair_14 (by decide) ?_
    refine x_zret (pc := 15) d_A_hasPair_15 rfl (by first | rfl | exact bI_narrow _) ?_
    first | exact zt (Bool.of_not_eq_false (fun z => absurd ((l_has hq).mpr z) h7)) | exact zf ((l_has hq).mp h7)
  · intro h7
    refine x_iconst (pc := 10) (nI 1) d_A_hasPair_10 (by decide) ?_
    refine x_goto (pc := 11) (tgt := 15) d_A_hasPair_11 rfl ?_
    refine x_zret (pc := 15) d_A_hasPair_15 rfl (by first | rfl | exact bI_narrow _) ?_
    first | exact zt (Bool.of_not_eq_false (fun z => absurd ((l_has hq).mpr z) h7)) | exact zf ((l_has hq).mp h7)
set_option maxHeartbeats 4000000 in
set_option maxRecDepth 100000 in
theorem t_A_contoursIn {w : va_W} {p : Int64} {m : Nat} : CT l y_A_contoursIn c_A_contoursIn 3 (some .int) (rmm 0 0) (gG D cI cL) [.long p, .int (nI m)] w (pI (cin p m) w) := by
  refine CT.of R_A (by decide) rfl (Nat.le_of_ble_eq_true rfl) ?_
  intro E A hname
  refine x_lload_n (pc := 0) d_A_contoursIn_0 0 rfl ?_
  refine x_bipush (pc := 1) (nI 8) d_A_contoursIn_1 (by decide) ?_
  refine x_iload_n (pc := 3) d_A_contoursIn_3 1 rfl ?_
  first | refine x_imulN (pc := 4) d_A_contoursIn_4 ?_ | refine x_imul (pc := 4) d_A_contoursIn_4 ?_
  refine x_lushr (pc := 5) d_A_contoursIn_5 ?_
  refine x_l2i (pc := 6) d_A_contoursIn_6 ?_
  refine x_sipush (pc := 7) (nI 255) d_A_contoursIn_7 (by decide) ?_
  refine x_iand (pc := 10) d_A_contoursIn_10 ?_
  refine x_iret (pc := 11) d_A_contoursIn_11 rfl ?_
  exact ⟨rfl, rfl⟩
set_option maxHeartbeats 4000000 in
set_option maxRecDepth 100000 in
theorem t_A_constantBit {w : va_W} {x : Nat} (h1 : x < 10 ∨ 300 ≤ x) (h2 : x < 1000) : CT l y_A_constantBit c_A_constantBit 1 (some .int) (rmm 1 20) (gG D cI cL) [.int (nI x)] w (pI (nI (cbit x)) w) := by
  refine CT.of R_A (by decide) rfl (Nat.le_of_ble_eq_true rfl) ?_
  intro E A hname
  refine x_iload_n (pc := 0) d_A_constantBit_0 0 rfl ?_
  refine x_callSN_I (pc := 1) d_A_constantBit_1 k_A_151 ws_C_isNumber w_C_isNumber ini_C wd_C_isNumber ⟨by decide, by decide⟩ ⟨rfl, rfl⟩ ⟨Nat.zero_le _, Nat.zero_le _⟩ (t_C_isNumber) rfl rfl (Nat.le_of_ble_eq_true rfl) ?_
  rw [lo_nI (by omega) (by omega) (by omega)]
  first | refine x_if_eqB (pc := 4) (tgt := 11) d_A_constantBit_4 rfl ?_ ?_ | refine x_if_eqL (pc := 4) (tgt := 11) d_A_constantBit_4 rfl ?_ ?_ | refine x_if_eqN (pc := 4) (tgt := 11) d_A_constantBit_4 rfl (by omega) ?_ ?_ | refine x_if_eq (pc := 4) (tgt := 11) d_A_constantBit_4 rfl ?_ ?_
  · intro h4
    have g4 := of_decide_eq_false h4
    refine x_bipush (pc := 11) (nI 10) d_A_constantBit_11 (by decide) ?_
    refine x_iload_n (pc := 13) d_A_constantBit_13 0 rfl ?_
    first | refine x_iaddN (pc := 14) d_A_constantBit_14 ?_ | refine x_iadd (pc := 14) d_A_constantBit_14 ?_
    refine x_sipush (pc := 15) (nI 300) d_A_constantBit_15 (by decide) ?_
    first | refine x_isubN (pc := 18) d_A_constantBit_18 (by omega) ?_ | refine x_isub (pc := 18) d_A_constantBit_18 ?_
    refine x_iret (pc := 19) d_A_constantBit_19 rfl ?_
    unfold cbit
    first | exact ⟨by rw [if_pos g4.2], rfl⟩ | exact ⟨by rw [if_neg (by omega), show 10 + x - 300 = x - 290 by omega], rfl⟩
  · intro h4
    have g4 := of_decide_eq_true h4
    refine x_iload_n (pc := 7) d_A_constantBit_7 0 rfl ?_
    refine x_goto (pc := 8) (tgt := 19) d_A_constantBit_8 rfl ?_
    refine x_iret (pc := 19) d_A_constantBit_19 rfl ?_
    unfold cbit
    first | exact ⟨by rw [if_pos g4.2], rfl⟩ | exact ⟨by rw [if_neg (by omega), show 10 + x - 300 = x - 290 by omega], rfl⟩
set_option maxHeartbeats 4000000 in
set_option maxRecDepth 100000 in
theorem t_A_forget  : CT l y_A_forget c_A_forget 1 none (rmm 0 0) (gG D cI cL) [.ref (ad 3)] (wC ad cI cL par prm lin siz atm cnt own out bnd cal opr n ph oc P Q OC OP F S R vis nc gr md) (pV (wC ad cI cL par prm lin siz atm cnt own out bnd cal opr n ph oc P Q OC OP F S R vis nc gr false)) := by
  refine CT.of R_A (by decide) rfl (Nat.le_of_ble_eq_true rfl) ?_
  intro E A hname
  refine x_aload_n (pc := 0) d_A_forget_0 0 rfl ?_
  refine x_iconst (pc := 1) (nI 0) d_A_forget_1 (by decide) ?_
  refine x_put (pc := 2) (ci := 0) (ty := .boolean) d_A_forget_2 in_A t_A ty_A nm_A rfl 11 (by decide) k_A_32 rfl (by decide +kernel) rfl rfl 3 rfl (Nat.le_of_ble_eq_true rfl) (_) (rfl) ?_
  refine x_vret (pc := 5) d_A_forget_5 rfl ?_
  exact ⟨rfl, rfl⟩
set_option maxHeartbeats 4000000 in
set_option maxRecDepth 100000 in
theorem t_A_isMade  : CT l y_A_isMade c_A_isMade 1 (some .boolean) (rmm 0 0) (gG D cI cL) [.ref (ad 3)] (wC ad cI cL par prm lin siz atm cnt own out bnd cal opr n ph oc P Q OC OP F S R vis nc gr md) (pI (bI md) (wC ad cI cL par prm lin siz atm cnt own out bnd cal opr n ph oc P Q OC OP F S R vis nc gr md)) := by
  refine CT.of R_A (by decide) rfl (Nat.le_of_ble_eq_true rfl) ?_
  intro E A hname
  refine x_aload_n (pc := 0) d_A_isMade_0 0 rfl ?_
  refine x_get (pc := 1) (ci := 0) d_A_isMade_1 in_A rfl 11 (by decide) k_A_32 3 rfl rfl ?_
  refine x_zret (pc := 4) d_A_isMade_4 rfl (by first | rfl | exact bI_narrow _) ?_
  exact ⟨rfl, rfl⟩
set_option maxHeartbeats 4000000 in
set_option maxRecDepth 100000 in
theorem t_A_outcomes  : CT l y_A_outcomes c_A_outcomes 1 (some .int) (rmm 0 0) (gG D cI cL) [.ref (ad 3)] (wC ad cI cL par prm lin siz atm cnt own out bnd cal opr n ph oc P Q OC OP F S R vis nc gr md) (pI R (wC ad cI cL par prm lin siz atm cnt own out bnd cal opr n ph oc P Q OC OP F S R vis nc gr md)) := by
  refine CT.of R_A (by decide) rfl (Nat.le_of_ble_eq_true rfl) ?_
  intro E A hname
  refine x_aload_n (pc := 0) d_A_outcomes_0 0 rfl ?_
  refine x_get (pc := 1) (ci := 0) d_A_outcomes_1 in_A rfl 7 (by decide) k_A_44 3 rfl rfl ?_
  refine x_iret (pc := 4) d_A_outcomes_4 rfl ?_
  exact ⟨rfl, rfl⟩
set_option maxHeartbeats 4000000 in
set_option maxRecDepth 100000 in
theorem t_A_flowFrom {x : Nat} (hx : x < 8) : CT l y_A_flowFrom c_A_flowFrom 2 (some .int) (rmm 0 0) (gG D cI cL) [.ref (ad 3), .int (nI x)] (wC ad cI cL par prm lin siz atm cnt own out bnd cal opr n ph oc P Q OC OP F S R vis nc gr md) (pI (F x) (wC ad cI cL par prm lin siz atm cnt own out bnd cal opr n ph oc P Q OC OP F S R vis nc gr md)) := by
  refine CT.of R_A (by decide) rfl (Nat.le_of_ble_eq_true rfl) ?_
  intro E A hname
  refine x_aload_n (pc := 0) d_A_flowFrom_0 0 rfl ?_
  refine x_get (pc := 1) (ci := 0) d_A_flowFrom_1 in_A rfl 5 (by decide) k_A_25 3 rfl rfl ?_
  refine x_iload_n (pc := 4) d_A_flowFrom_4 1 rfl ?_
  refine x_ialdN (pc := 5) d_A_flowFrom_5 18 0 rfl rfl (by omega) (by omega) ?_
  refine x_iret (pc := 6) d_A_flowFrom_6 rfl ?_
  exact ⟨rfl, rfl⟩
set_option maxHeartbeats 4000000 in
set_option maxRecDepth 100000 in
theorem t_A_contoursOf {x : Nat} : CT l y_A_contoursOf c_A_contoursOf 2 (some .int) (rmm 1 22) (gG D cI cL) [.ref (ad 3), .int (nI x)] (wC ad cI cL par prm lin siz atm cnt own out bnd cal opr n ph oc P Q OC OP F S R vis nc gr md) (pI (cin S x) (wC ad cI cL par prm lin siz atm cnt own out bnd cal opr n ph oc P Q OC OP F S R vis nc gr md)) := by
  refine CT.of R_A (by decide) rfl (Nat.le_of_ble_eq_true rfl) ?_
  intro E A hname
  refine x_aload_n (pc := 0) d_A_contoursOf_0 0 rfl ?_
  refine x_get (pc := 1) (ci := 0) d_A_contoursOf_1 in_A rfl 6 (by decide) k_A_36 3 rfl rfl ?_
  refine x_iload_n (pc := 4) d_A_contoursOf_4 1 rfl ?_
  refine x_callS_I (pc := 5) d_A_contoursOf_5 k_A_40 ws_A_contoursIn w_A_contoursIn ini_A wd_A_contoursIn ⟨by decide, by decide⟩ ⟨rfl, rfl⟩ ⟨Nat.zero_le _, Nat.zero_le _⟩ (t_A_contoursIn) rfl rfl (Nat.le_of_ble_eq_true rfl) ?_
  refine x_iret (pc := 8) d_A_contoursOf_8 rfl ?_
  exact ⟨rfl, rfl⟩
set_option maxHeartbeats 4000000 in
set_option maxRecDepth 100000 in
theorem t_A_addState {m : Nat} (hm : m < 8) (hnc : nc < 8) : CT l y_A_addState c_A_addState 4 none (rmm 1 21) (gG D cI cL) [.ref (ad 3), .int (nI m)] (wC ad cI cL par prm lin siz atm cnt own out bnd cal opr n ph oc P Q OC OP F S R vis nc gr md) (fun v w2 => v = none ∧ ∃ P2 Q2 S2 F2 R2 g2, apc (asta (8 * m + nc)) gr (ofw P Q S F R) g2 (ofw P2 Q2 S2 F2 R2) ∧ w2 = (wC ad cI cL par prm lin siz atm cnt own out bnd cal opr n ph oc P2 Q2 OC OP F2 S2 R2 vis nc g2 md)) := by
  refine CT.of R_A (by decide) rfl (Nat.le_of_ble_eq_true rfl) ?_
  intro E A hname
  refine x_aload_n (pc := 0) d_A_addState_0 0 rfl ?_
  refine x_get (pc := 1) (ci := 0) d_A_addState_1 in_A rfl 6 (by decide) k_A_36 3 rfl rfl ?_
  refine x_iload_n (pc := 4) d_A_addState_4 1 rfl ?_
  refine x_aload_n (pc := 5) d_A_addState_5 0 rfl ?_
  refine x_get (pc := 6) (ci := 0) d_A_addState_6 in_A rfl 9 (by decide) k_A_94 3 rfl rfl ?_
  refine x_callS_L (pc := 9) d_A_addState_9 k_A_55 ws_A_pair w_A_pair ini_A wd_A_pair ⟨by decide, by decide⟩ ⟨rfl, rfl⟩ ⟨Nat.zero_le _, Nat.zero_le _⟩ (t_A_pair) rfl rfl (Nat.le_of_ble_eq_true rfl) ?_
  refine x_lor (pc := 12) d_A_addState_12 ?_
  refine x_lstore_n (pc := 13) d_A_addState_13 rfl (by decide) [(2, _), (0, _), (1, _)] rfl ?_
  refine x_lload_n (pc := 14) d_A_addState_14 0 rfl ?_
  refine x_aload_n (pc := 15) d_A_addState_15 1 rfl ?_
  refine x_get (pc := 16) (ci := 0) d_A_addState_16 in_A rfl 6 (by decide) k_A_36 3 rfl rfl ?_
  refine x_lcmp (pc := 19) d_A_addState_19 ?_
  first | refine x_if_eqB (pc := 20) (tgt := 33) d_A_addState_20 rfl ?_ ?_ | refine x_if_eqL (pc := 20) (tgt := 33) d_A_addState_20 rfl ?_ ?_ | refine x_if_eqN (pc := 20) (tgt := 33) d_A_addState_20 rfl (by omega) ?_ ?_ | refine x_if_eq (pc := 20) (tgt := 33) d_A_addState_20 rfl ?_ ?_
  · intro h20
    refine x_vret (pc := 33) d_A_addState_33 rfl ?_
    first | exact ⟨rfl, P, Q, S, F, R, gr, apc.staS gr ((l_orq (lP_bl (by omega))).mp h20), rfl⟩ | exact ⟨rfl, P, Q, _, F, R, true, apc.staN (by omega) gr (lP_bl (by omega)) (Bool.of_not_eq_true (fun z => h20 ((l_orq (lP_bl (by omega))).mpr z))), rfl⟩
  · intro h20
    refine x_aload_n (pc := 23) d_A_addState_23 1 rfl ?_
    refine x_lload_n (pc := 24) d_A_addState_24 0 rfl ?_
    refine x_put (pc := 25) (ci := 0) (ty := .long) d_A_addState_25 in_A t_A ty_A nm_A rfl 6 (by decide) k_A_36 rfl (by decide +kernel) rfl rfl 3 rfl (Nat.le_of_ble_eq_true rfl) (_) (rfl) ?_
    refine x_aload_n (pc := 28) d_A_addState_28 1 rfl ?_
    refine x_iconst (pc := 29) (nI 1) d_A_addState_29 (by decide) ?_
    refine x_put (pc := 30) (ci := 0) (ty := .boolean) d_A_addState_30 in_A t_A ty_A nm_A rfl 10 (by decide) k_A_59 rfl (by decide +kernel) rfl rfl 3 rfl (Nat.le_of_ble_eq_true rfl) (_) (rfl) ?_
    refine x_vret (pc := 33) d_A_addState_33 rfl ?_
    first | exact ⟨rfl, P, Q, S, F, R, gr, apc.staS gr ((l_orq (lP_bl (by omega))).mp h20), rfl⟩ | exact ⟨rfl, P, Q, _, F, R, true, apc.staN (by omega) gr (lP_bl (by omega)) (Bool.of_not_eq_true (fun z => h20 ((l_orq (lP_bl (by omega))).mpr z))), rfl⟩
set_option maxHeartbeats 4000000 in
set_option maxRecDepth 100000 in
theorem t_A_widen {s : Nat} {c : Int32} {p : Int64} (hs : s < 192) : CT l y_A_widen c_A_widen 8 none (rmm 0 0) (gG D cI cL) [.ref (ad 3), .int (nI s), .int c, .long p] (wC ad cI cL par prm lin siz atm cnt own out bnd cal opr n ph oc P Q OC OP F S R vis nc gr md) (fun v w2 => v = none ∧ ∃ P2 Q2 S2 F2 R2 g2, apc (awid s c p) gr (ofw P Q S F R) g2 (ofw P2 Q2 S2 F2 R2) ∧ w2 = (wC ad cI cL par prm lin siz atm cnt own out bnd cal opr n ph oc P2 Q2 OC OP F2 S2 R2 vis nc g2 md)) := by
  refine CT.of R_A (by decide) rfl (Nat.le_of_ble_eq_true rfl) ?_
  intro E A hname
  refine x_aload_n (pc := 0) d_A_widen_0 0 rfl ?_
  refine x_get (pc := 1) (ci := 0) d_A_widen_1 in_A rfl 1 (by decide) k_A_11 3 rfl rfl ?_
  refine x_iload_n (pc := 4) d_A_widen_4 1 rfl ?_
  refine x_ialdN (pc := 5) d_A_widen_5 14 0 rfl rfl (by omega) (by omega) ?_
  refine x_iload_n (pc := 6) d_A_widen_6 2 rfl ?_
  refine x_ior (pc := 7) d_A_widen_7 ?_
  refine x_istore (pc := 8) d_A_widen_8 (by decide) [(5, _), (0, _), (1, _), (2, _), (3, _)] rfl ?_
  refine x_aload_n (pc := 10) d_A_widen_10 1 rfl ?_
  refine x_get (pc := 11) (ci := 0) d_A_widen_11 in_A rfl 2 (by decide) k_A_15 3 rfl rfl ?_
  refine x_iload_n (pc := 14) d_A_widen_14 2 rfl ?_
  refine x_laldN (pc := 15) d_A_widen_15 15 1 rfl rfl (by omega) (by omega) ?_
  refine x_lload_n (pc := 16) d_A_widen_16 4 rfl ?_
  refine x_lor (pc := 17) d_A_widen_17 ?_
  refine x_lstore (pc := 18) d_A_widen_18 (by decide) [(6, _), (5, _), (0, _), (1, _), (2, _), (3, _)] rfl ?_
  refine x_iload (pc := 20) d_A_widen_20 1 rfl ?_
  refine x_aload_n (pc := 22) d_A_widen_22 2 rfl ?_
  refine x_get (pc := 23) (ci := 0) d_A_widen_23 in_A rfl 1 (by decide) k_A_11 3 rfl rfl ?_
  refine x_iload_n (pc := 26) d_A_widen_26 3 rfl ?_
  refine x_ialdN (pc := 27) d_A_widen_27 14 0 rfl rfl (by omega) (by omega) ?_
  refine x_icmp_ne (pc := 28) (tgt := 43) d_A_widen_28 rfl ?_ ?_
  · intro h28
    refine x_aload_n (pc := 43) d_A_widen_43 2 rfl ?_
    refine x_get (pc := 44) (ci := 0) d_A_widen_44 in_A rfl 1 (by decide) k_A_11 3 rfl rfl ?_
    refine x_iload_n (pc := 47) d_A_widen_47 3 rfl ?_
    refine x_iload (pc := 48) d_A_widen_48 1 rfl ?_
    first | refine x_iastU (pc := 50) d_A_widen_50 14 0 rfl rfl (by omega) (by omega) ?_ | refine x_iastN (pc := 50) d_A_widen_50 14 0 rfl rfl (by omega) (by omega) _ rfl ?_
    refine x_aload_n (pc := 51) d_A_widen_51 2 rfl ?_
    refine x_get (pc := 52) (ci := 0) d_A_widen_52 in_A rfl 2 (by decide) k_A_15 3 rfl rfl ?_
    refine x_iload_n (pc := 55) d_A_widen_55 3 rfl ?_
    refine x_lload (pc := 56) d_A_widen_56 0 rfl ?_
    refine x_lastN (pc := 58) d_A_widen_58 15 1 rfl rfl (by omega) (by omega) (_) (rfl) ?_
    refine x_aload_n (pc := 59) d_A_widen_59 2 rfl ?_
    refine x_iconst (pc := 60) (nI 1) d_A_widen_60 (by decide) ?_
    refine x_put (pc := 61) (ci := 0) (ty := .boolean) d_A_widen_61 in_A t_A ty_A nm_A rfl 10 (by decide) k_A_59 rfl (by decide +kernel) rfl rfl 3 rfl (Nat.le_of_ble_eq_true rfl) (_) (rfl) ?_
    refine x_vret (pc := 64) d_A_widen_64 rfl ?_
    first | exact ⟨rfl, P, Q, S, F, R, gr, apc.widS hs gr h28 h40, rfl⟩ | exact ⟨rfl, _, _, S, F, R, true, apc.widN hs gr (Or.inl h28), rfl⟩ | exact ⟨rfl, _, _, S, F, R, true, apc.widN hs gr (Or.inr h40), rfl⟩
  · intro h28
    refine x_lload (pc := 31) d_A_widen_31 0 rfl ?_
    refine x_aload_n (pc := 33) d_A_widen_33 2 rfl ?_
    refine x_get (pc := 34) (ci := 0) d_A_widen_34 in_A rfl 2 (by decide) k_A_15 3 rfl rfl ?_
    refine x_iload_n (pc := 37) d_A_widen_37 3 rfl ?_
    refine x_laldN (pc := 38) d_A_widen_38 15 1 rfl rfl (by omega) (by omega) ?_
    refine x_lcmp (pc := 39) d_A_widen_39 ?_
    first | refine x_if_eqB (pc := 40) (tgt := 64) d_A_widen_40 rfl ?_ ?_ | refine x_if_eqL (pc := 40) (tgt := 64) d_A_widen_40 rfl ?_ ?_ | refine x_if_eqN (pc := 40) (tgt := 64) d_A_widen_40 rfl (by omega) ?_ ?_ | refine x_if_eq (pc := 40) (tgt := 64) d_A_widen_40 rfl ?_ ?_
    · intro h40
      refine x_vret (pc := 64) d_A_widen_64 rfl ?_
      first | exact ⟨rfl, P, Q, S, F, R, gr, apc.widS hs gr h28 h40, rfl⟩ | exact ⟨rfl, _, _, S, F, R, true, apc.widN hs gr (Or.inl h28), rfl⟩ | exact ⟨rfl, _, _, S, F, R, true, apc.widN hs gr (Or.inr h40), rfl⟩
    · intro h40
      refine x_aload_n (pc := 43) d_A_widen_43 2 rfl ?_
      refine x_get (pc := 44) (ci := 0) d_A_widen_44 in_A rfl 1 (by decide) k_A_11 3 rfl rfl ?_
      refine x_iload_n (pc := 47) d_A_widen_47 3 rfl ?_
      refine x_iload (pc := 48) d_A_widen_48 1 rfl ?_
      first | refine x_iastU (pc := 50) d_A_widen_50 14 0 rfl rfl (by omega) (by omega) ?_ | refine x_iastN (pc := 50) d_A_widen_50 14 0 rfl rfl (by omega) (by omega) _ rfl ?_
      refine x_aload_n (pc := 51) d_A_widen_51 2 rfl ?_
      refine x_get (pc := 52) (ci := 0) d_A_widen_52 in_A rfl 2 (by decide) k_A_15 3 rfl rfl ?_
      refine x_iload_n (pc := 55) d_A_widen_55 3 rfl ?_
      refine x_lload (pc := 56) d_A_widen_56 0 rfl ?_
      refine x_lastN (pc := 58) d_A_widen_58 15 1 rfl rfl (by omega) (by omega) (_) (rfl) ?_
      refine x_aload_n (pc := 59) d_A_widen_59 2 rfl ?_
      refine x_iconst (pc := 60) (nI 1) d_A_widen_60 (by decide) ?_
      refine x_put (pc := 61) (ci := 0) (ty := .boolean) d_A_widen_61 in_A t_A ty_A nm_A rfl 10 (by decide) k_A_59 rfl (by decide +kernel) rfl rfl 3 rfl (Nat.le_of_ble_eq_true rfl) (_) (rfl) ?_
      refine x_vret (pc := 64) d_A_widen_64 rfl ?_
      first | exact ⟨rfl, P, Q, S, F, R, gr, apc.widS hs gr h28 h40, rfl⟩ | exact ⟨rfl, _, _, S, F, R, true, apc.widN hs gr (Or.inl h28), rfl⟩ | exact ⟨rfl, _, _, S, F, R, true, apc.widN hs gr (Or.inr h40), rfl⟩
set_option maxHeartbeats 4000000 in
set_option maxRecDepth 100000 in
theorem t_A_carryOver {m e : Nat} (hm : m < 8) (he : e < 8) (hnc : nc < 8) (hp : prm m ≤ 3) : CT l y_A_carryOver c_A_carryOver 5 none (rmm 1 27) (gG D cI cL) [.ref (ad 3), .int (nI m), .int (nI e)] (wC ad cI cL par prm lin siz atm cnt own out bnd cal opr n ph oc P Q OC OP F S R vis nc gr md) (fun v w2 => v = none ∧ ∃ P2 Q2 S2 F2 R2 g2, apc (fun X Y => ∀ i, i < prm m → acar prm m e nc i X Y) gr (ofw P Q S F R) g2 (ofw P2 Q2 S2 F2 R2) ∧ w2 = (wC ad cI cL par prm lin siz atm cnt own out bnd cal opr n ph oc P2 Q2 OC OP F2 S2 R2 vis nc g2 md)) := by
  refine CT.of R_A (by decide) rfl (Nat.le_of_ble_eq_true rfl) ?_
  intro E A hname
  refine x_iconst (pc := 0) (nI 0) d_A_carryOver_0 (by decide) ?_
  refine x_istore_n (pc := 1) d_A_carryOver_1 rfl (by decide) [(3, _), (0, _), (1, _), (2, _)] rfl ?_
  have hlp : ∀ (fuel : Nat) (i : Nat) (P1 : Nat → Int32) (Q1 : Nat → Int64) (S1 : Int64) (F1 : Nat → Int32) (R1 : Int32) (g1 : Bool), prm m - i < fuel → (i ≤ prm m) → (apc (fun X Y => ∀ j, j < i → acar prm m e nc j X Y) gr (ofw P Q S F R) g1 (ofw P1 Q1 S1 F1 R1)) → xj E l (rmm 1 27) c_A_carryOver 5 none R_A (gG D cI cL) A 0 0 (fun v w2 => v = none ∧ ∃ P2 Q2 S2 F2 R2 g2, apc (fun X Y => ∀ i, i < prm m → acar prm m e nc i X Y) gr (ofw P Q S F R) g2 (ofw P2 Q2 S2 F2 R2) ∧ w2 = (wC ad cI cL par prm lin siz atm cnt own out bnd cal opr n ph oc P2 Q2 OC OP F2 S2 R2 vis nc g2 md)) 0 0 (wC ad cI cL par prm lin siz atm cnt own out bnd cal opr n ph oc P1 Q1 OC OP F1 S1 R1 vis nc g1 md) 2 [(3, .int (nI i)), (0, .ref (ad 3)), (1, .int (nI m)), (2, .int (nI e))] [] := by
    intro fuel
    induction fuel with
    | zero => intro i P1 Q1 S1 F1 R1 g1 hf; exact absurd hf (Nat.not_lt_zero _)
    | succ fuel ih =>
      intro i P1 Q1 S1 F1 R1 g1 hf hi hq
      refine x_iload_n (pc := 2) d_A_carryOver_2 0 rfl ?_
      refine x_aload_n (pc := 3) d_A_carryOver_3 1 rfl ?_
      refine x_get (pc := 4) (ci := 0) d_A_carryOver_4 in_A rfl 0 (by decide) k_A_28 3 rfl rfl ?_
      refine x_iload_n (pc := 7) d_A_carryOver_7 2 rfl ?_
      refine x_callV_I (pc := 8) (ci := 2) d_A_carryOver_8 k_A_130 wi_P_paramsOf wv_P_paramsOf w_P_paramsOf ini_P wd_P_paramsOf ⟨by decide, by decide⟩ ⟨rfl, rfl⟩ ⟨Nat.zero_le _, Nat.zero_le _⟩ 1 rfl rfl (t_P_paramsOf hm) rfl rfl (Nat.le_of_ble_eq_true rfl) ?_
      first | refine x_icmp_geN (pc := 11) (tgt := 55) d_A_carryOver_11 rfl (by omega) (by omega) ?_ ?_ | refine x_icmp_ge (pc := 11) (tgt := 55) d_A_carryOver_11 rfl ?_ ?_
      · intro h11
        refine x_vret (pc := 55) d_A_carryOver_55 rfl ?_
        have e1 : i = prm m := by omega
        rw [e1] at hq
        exact ⟨rfl, P1, Q1, S1, F1, R1, g1, hq, rfl⟩
      · intro h11
        refine x_iload_n (pc := 14) d_A_carryOver_14 2 rfl ?_
        refine x_iload_n (pc := 15) d_A_carryOver_15 0 rfl ?_
        refine x_iload_n (pc := 16) d_A_carryOver_16 3 rfl ?_
        refine x_callS_I (pc := 17) d_A_carryOver_17 k_A_48 ws_A_slot w_A_slot ini_A wd_A_slot ⟨by decide, by decide⟩ ⟨rfl, rfl⟩ ⟨Nat.zero_le _, Nat.zero_le _⟩ (t_A_slot) rfl rfl (Nat.le_of_ble_eq_true rfl) ?_
        have hs1 := sl_lt (i := i) hm (by omega) he
        have hs2 := sl_lt (i := i) hm (by omega) hnc
        refine x_istore (pc := 20) d_A_carryOver_20 (by decide) [(4, _), (3, _), (0, _), (1, _), (2, _)] rfl ?_
        refine x_aload_n (pc := 22) d_A_carryOver_22 2 rfl ?_
        refine x_iload_n (pc := 23) d_A_carryOver_23 3 rfl ?_
        refine x_iload_n (pc := 24) d_A_carryOver_24 1 rfl ?_
        refine x_aload_n (pc := 25) d_A_carryOver_25 2 rfl ?_
        refine x_get (pc := 26) (ci := 0) d_A_carryOver_26 in_A rfl 9 (by decide) k_A_94 3 rfl rfl ?_
        refine x_callS_I (pc := 29) d_A_carryOver_29 k_A_48 ws_A_slot w_A_slot ini_A wd_A_slot ⟨by decide, by decide⟩ ⟨rfl, rfl⟩ ⟨Nat.zero_le _, Nat.zero_le _⟩ (t_A_slot) rfl rfl (Nat.le_of_ble_eq_true rfl) ?_
        refine x_aload_n (pc := 32) d_A_carryOver_32 2 rfl ?_
        refine x_get (pc := 33) (ci := 0) d_A_carryOver_33 in_A rfl 1 (by decide) k_A_11 3 rfl rfl ?_
        refine x_iload (pc := 36) d_A_carryOver_36 0 rfl ?_
        refine x_ialdN (pc := 38) d_A_carryOver_38 14 0 rfl rfl (by omega) (by omega) ?_
        refine x_aload_n (pc := 39) d_A_carryOver_39 2 rfl ?_
        refine x_get (pc := 40) (ci := 0) d_A_carryOver_40 in_A rfl 2 (by decide) k_A_15 3 rfl rfl ?_
        refine x_iload (pc := 43) d_A_carryOver_43 0 rfl ?_
        refine x_laldN (pc := 45) d_A_carryOver_45 15 1 rfl rfl (by omega) (by omega) ?_
        refine x_callV_X (pc := 46) (ci := 0) d_A_carryOver_46 k_A_140 wi_A_widen wv_A_widen w_A_widen ini_A wd_A_widen ⟨by decide, by decide⟩ ⟨rfl, rfl⟩ ⟨Nat.zero_le _, Nat.zero_le _⟩ 3 rfl rfl (t_A_widen hs2) rfl rfl (Nat.le_of_ble_eq_true rfl) (fun v46 w46 hp46 => ?_)
        obtain ⟨rfl, P2, Q2, S2, F2, R2, g2, hap2, rfl⟩ := hp46
        refine x_iincN (pc := 49) d_A_carryOver_49 1 rfl (by decide) [(3, _), (4, _), (0, _), (1, _), (2, _)] rfl ?_
        refine x_goto (pc := 52) (tgt := 2) d_A_carryOver_52 rfl ?_
        refine x_sub [0, 2, 3, 4] _ rfl ?_
        exact ih (i + 1) P2 Q2 S2 F2 R2 g2 (by omega) (by omega) (apc.next (fun j => acar.amon prm m e nc j) hq (apc.car (sl_lt hm (by omega) he) hap2))
  refine x_sub [0, 1, 2, 3] _ rfl ?_
  exact hlp (prm m + 1) 0 P Q S F R gr (by omega) (by omega) (apc.zero gr _)
set_option maxHeartbeats 4000000 in
set_option maxRecDepth 100000 in
theorem t_A_enter {m e first : Nat} (hw : pwf cnt par prm siz atm) (hli : linok cnt par lin) (hm : m < cnt) (he : e < 8) (hnc : nc < 8) (hvi : vis < 8) (hfi : first + prm m ≤ 5) : CT l y_A_enter c_A_enter 6 none (rmm 2 51) (gG D cI cL) [.ref (ad 3), .int (nI m), .int (nI e), .int (nI first)] (wC ad cI cL par prm lin siz atm cnt own out bnd cal opr n ph oc P Q OC OP F S R vis nc gr md) (fun v w2 => v = none ∧ ∃ P2 Q2 S2 F2 R2 g2, apc (acall (anc par) prm vis m e nc (fun i b => bt (OC (first + i)) b = true) (fun i b => bl (OP (first + i)) b = true)) gr (ofw P Q S F R) g2 (ofw P2 Q2 S2 F2 R2) ∧ w2 = (wC ad cI cL par prm lin siz atm cnt own out bnd cal opr n ph oc P2 Q2 OC OP F2 S2 R2 vis nc g2 md)) := by
  refine CT.of R_A (by decide) rfl (Nat.le_of_ble_eq_true rfl) ?_
  intro E A hname
  have hc8 : cnt ≤ 8 := hw.2.1
  have hpm := hw.2.2.2.1 m (by omega)
  refine x_aload_n (pc := 0) d_A_enter_0 0 rfl ?_
  refine x_get (pc := 1) (ci := 0) d_A_enter_1 in_A rfl 5 (by decide) k_A_25 3 rfl rfl ?_
  refine x_aload_n (pc := 4) d_A_enter_4 0 rfl ?_
  refine x_get (pc := 5) (ci := 0) d_A_enter_5 in_A rfl 8 (by decide) k_A_91 3 rfl rfl ?_
  refine x_dup2 (pc := 8) d_A_enter_8 rfl rfl ?_
  refine x_ialdN (pc := 9) d_A_enter_9 18 0 rfl rfl (by omega) (by omega) ?_
  refine x_iconst (pc := 10) (nI 1) d_A_enter_10 (by decide) ?_
  refine x_iload_n (pc := 11) d_A_enter_11 1 rfl ?_
  refine x_ishl (pc := 12) d_A_enter_12 ?_
  refine x_ior (pc := 13) d_A_enter_13 ?_
  first | refine x_iastU (pc := 14) d_A_enter_14 18 0 rfl rfl (by omega) (by omega) ?_ | refine x_iastN (pc := 14) d_A_enter_14 18 0 rfl rfl (by omega) (by omega) _ rfl ?_
  refine x_aload_n (pc := 15) d_A_enter_15 0 rfl ?_
  refine x_iload_n (pc := 16) d_A_enter_16 1 rfl ?_
  refine x_callV_X (pc := 17) (ci := 0) d_A_enter_17 k_A_136 wi_A_addState wv_A_addState w_A_addState ini_A wd_A_addState ⟨by decide, by decide⟩ ⟨rfl, rfl⟩ ⟨Nat.zero_le _, Nat.zero_le _⟩ 3 rfl rfl (t_A_addState (by omega) hnc) rfl rfl (Nat.le_of_ble_eq_true rfl) (fun v17 w17 hp17 => ?_)
  obtain ⟨rfl, Pa, Qa, Sa, Fa, Ra, ga, ha2, rfl⟩ := hp17
  have ha1 : apc (aflo vis m) gr (ofw P Q S F R) gr (ofw P Q S (upd F vis (F vis ||| 1 <<< (nI m &&& 31))) R) := apc.flo hvi gr gr (b_one m (by omega)) (Or.inl rfl)
  refine x_iconst (pc := 20) (nI 0) d_A_enter_20 (by decide) ?_
  refine x_istore (pc := 21) d_A_enter_21 (by decide) [(4, _), (0, _), (1, _), (2, _), (3, _)] rfl ?_
  have hlp : ∀ (fuel : Nat) (i : Nat) (P1 : Nat → Int32) (Q1 : Nat → Int64) (S1 : Int64) (F1 : Nat → Int32) (R1 : Int32) (g1 : Bool), prm m - i < fuel → (i ≤ prm m) → (apc (fun X Y => ∀ j, j < i → awid (sl m j nc) (OC (first + j)) (OP (first + j)) X Y) ga (ofw Pa Qa Sa Fa Ra) g1 (ofw P1 Q1 S1 F1 R1)) → xj E l (rmm 2 51) c_A_enter 6 none R_A (gG D cI cL) A 0 0 (fun v w2 => v = none ∧ ∃ P2 Q2 S2 F2 R2 g2, apc (acall (anc par) prm vis m e nc (fun i b => bt (OC (first + i)) b = true) (fun i b => bl (OP (first + i)) b = true)) gr (ofw P Q S F R) g2 (ofw P2 Q2 S2 F2 R2) ∧ w2 = (wC ad cI cL par prm lin siz atm cnt own out bnd cal opr n ph oc P2 Q2 OC OP F2 S2 R2 vis nc g2 md)) 0 0 (wC ad cI cL par prm lin siz atm cnt own out bnd cal opr n ph oc P1 Q1 OC OP F1 S1 R1 vis nc g1 md) 23 [(4, .int (nI i)), (0, .ref (ad 3)), (1, .int (nI m)), (2, .int (nI e)), (3, .int (nI first))] [] := by
    intro fuel
    induction fuel with
    | zero => intro i P1 Q1 S1 F1 R1 g1 hf; exact absurd hf (Nat.not_lt_zero _)
    | succ fuel ih =>
      intro i P1 Q1 S1 F1 R1 g1 hf hi hq
      refine x_iload (pc := 23) d_A_enter_23 0 rfl ?_
      refine x_aload_n (pc := 25) d_A_enter_25 1 rfl ?_
      refine x_get (pc := 26) (ci := 0) d_A_enter_26 in_A rfl 0 (by decide) k_A_28 3 rfl rfl ?_
      refine x_iload_n (pc := 29) d_A_enter_29 2 rfl ?_
      refine x_callV_I (pc := 30) (ci := 2) d_A_enter_30 k_A_130 wi_P_paramsOf wv_P_paramsOf w_P_paramsOf ini_P wd_P_paramsOf ⟨by decide, by decide⟩ ⟨rfl, rfl⟩ ⟨Nat.zero_le _, Nat.zero_le _⟩ 1 rfl rfl (t_P_paramsOf (by omega)) rfl rfl (Nat.le_of_ble_eq_true rfl) ?_
      first | refine x_icmp_geN (pc := 33) (tgt := 76) d_A_enter_33 rfl (by omega) (by omega) ?_ ?_ | refine x_icmp_ge (pc := 33) (tgt := 76) d_A_enter_33 rfl ?_ ?_
      · intro h33
        refine x_aload_n (pc := 76) d_A_enter_76 1 rfl ?_
        refine x_get (pc := 77) (ci := 0) d_A_enter_77 in_A rfl 0 (by decide) k_A_28 3 rfl rfl ?_
        refine x_iload_n (pc := 80) d_A_enter_80 2 rfl ?_
        refine x_callV_I (pc := 81) (ci := 2) d_A_enter_81 k_A_144 wi_P_lineageOf wv_P_lineageOf w_P_lineageOf ini_P wd_P_lineageOf ⟨by decide, by decide⟩ ⟨rfl, rfl⟩ ⟨Nat.zero_le _, Nat.zero_le _⟩ 1 rfl rfl (t_P_lineageOf (by omega)) rfl rfl (Nat.le_of_ble_eq_true rfl) ?_
        have e1 : i = prm m := by omega
        rw [e1] at hq
        clear ih hf
        refine x_istore (pc := 84) d_A_enter_84 (by decide) [(4, _), (0, _), (1, _), (2, _), (3, _)] rfl ?_
        refine x_iconst (pc := 86) (nI 0) d_A_enter_86 (by decide) ?_
        refine x_istore (pc := 87) d_A_enter_87 (by decide) [(5, _), (4, _), (0, _), (1, _), (2, _), (3, _)] rfl ?_
        have hlo : ∀ (fuel : Nat) (a : Nat) (P3 : Nat → Int32) (Q3 : Nat → Int64) (S3 : Int64) (F3 : Nat → Int32) (R3 : Int32) (g3 : Bool), m - a < fuel → (a ≤ m) → (apc (fun X Y => ∀ z, z < a → bt (lin m) z = true → ∀ i, i < prm z → acar prm z e nc i X Y) g1 (ofw P1 Q1 S1 F1 R1) g3 (ofw P3 Q3 S3 F3 R3)) → xj E l (rmm 2 51) c_A_enter 6 none R_A (gG D cI cL) A 0 0 (fun v w2 => v = none ∧ ∃ P2 Q2 S2 F2 R2 g2, apc (acall (anc par) prm vis m e nc (fun i b => bt (OC (first + i)) b = true) (fun i b => bl (OP (first + i)) b = true)) gr (ofw P Q S F R) g2 (ofw P2 Q2 S2 F2 R2) ∧ w2 = (wC ad cI cL par prm lin siz atm cnt own out bnd cal opr n ph oc P2 Q2 OC OP F2 S2 R2 vis nc g2 md)) 0 0 (wC ad cI cL par prm lin siz atm cnt own out bnd cal opr n ph oc P3 Q3 OC OP F3 S3 R3 vis nc g3 md) 89 [(5, .int (nI a)), (4, .int (lin m)), (0, .ref (ad 3)), (1, .int (nI m)), (2, .int (nI e)), (3, .int (nI first))] [] := by
          intro fuel
          induction fuel with
          | zero => intro a P3 Q3 S3 F3 R3 g3 hf; exact absurd hf (Nat.not_lt_zero _)
          | succ fuel ih =>
            intro a P3 Q3 S3 F3 R3 g3 hf ha hr
            refine x_iload (pc := 89) d_A_enter_89 0 rfl ?_
            refine x_iload_n (pc := 91) d_A_enter_91 3 rfl ?_
            first | refine x_icmp_geN (pc := 92) (tgt := 118) d_A_enter_92 rfl (by omega) (by omega) ?_ ?_ | refine x_icmp_ge (pc := 92) (tgt := 118) d_A_enter_92 rfl ?_ ?_
            · intro h92
              refine x_vret (pc := 118) d_A_enter_118 rfl ?_
              have e2 : a = m := by omega
              rw [e2] at hr
              exact ⟨rfl, P3, Q3, S3, F3, R3, g3, aenter hli hm hc8 ha1 ha2 hq hr, rfl⟩
            · intro h92
              refine x_iload (pc := 95) d_A_enter_95 1 rfl ?_
              refine x_iload (pc := 97) d_A_enter_97 0 rfl ?_
              refine x_callSN_I (pc := 99) d_A_enter_99 k_A_110 ws_C_has w_C_has ini_C wd_C_has ⟨by decide, by decide⟩ ⟨rfl, rfl⟩ ⟨Nat.zero_le _, Nat.zero_le _⟩ (t_C_has (by omega)) rfl rfl (Nat.le_of_ble_eq_true rfl) ?_
              first | refine x_if_eqB (pc := 102) (tgt := 112) d_A_enter_102 rfl ?_ ?_ | refine x_if_eqL (pc := 102) (tgt := 112) d_A_enter_102 rfl ?_ ?_ | refine x_if_eqN (pc := 102) (tgt := 112) d_A_enter_102 rfl (by omega) ?_ ?_ | refine x_if_eq (pc := 102) (tgt := 112) d_A_enter_102 rfl ?_ ?_
              · intro h102
                refine x_iincN (pc := 112) d_A_enter_112 0 rfl (by decide) [(5, _), (4, _), (0, _), (1, _), (2, _), (3, _)] rfl ?_
                refine x_goto (pc := 115) (tgt := 89) d_A_enter_115 rfl ?_
                refine x_sub [0, 1, 2, 3, 4, 5] _ rfl ?_
                first
                  | exact ih (a + 1) P4 Q4 S4 F4 R4 g4 (by omega) (by omega) (apc.next (N := fun a X Y => bt (lin m) a = true → ∀ i, i < prm a → acar prm a e nc i X Y) (fun a => (amon.all (fun i => (acar.amon prm a e nc i).imp)).imp) hr (hap4.conv (fun Z _ q => q h102) (fun q _ => q)))
                  | exact ih (a + 1) P3 Q3 S3 F3 R3 g3 (by omega) (by omega) (apc.next (N := fun a X Y => bt (lin m) a = true → ∀ i, i < prm a → acar prm a e nc i X Y) (fun a => (amon.all (fun i => (acar.amon prm a e nc i).imp)).imp) hr ((apc.skip g3 _).conv (fun _ _ _ => trivial) (fun _ q => by rw [h102] at q; cases q)))
              · intro h102
                refine x_aload_n (pc := 105) d_A_enter_105 2 rfl ?_
                refine x_iload (pc := 106) d_A_enter_106 0 rfl ?_
                refine x_iload_n (pc := 108) d_A_enter_108 4 rfl ?_
                refine x_callV_X (pc := 109) (ci := 0) d_A_enter_109 k_A_147 wi_A_carryOver wv_A_carryOver w_A_carryOver ini_A wd_A_carryOver ⟨by decide, by decide⟩ ⟨rfl, rfl⟩ ⟨Nat.zero_le _, Nat.zero_le _⟩ 3 rfl rfl (t_A_carryOver (by omega) he hnc (hw.2.2.2.1 a (by omega))) rfl rfl (Nat.le_of_ble_eq_true rfl) (fun v109 w109 hp109 => ?_)
                obtain ⟨rfl, P4, Q4, S4, F4, R4, g4, hap4, rfl⟩ := hp109
                refine x_iincN (pc := 112) d_A_enter_112 0 rfl (by decide) [(5, _), (4, _), (0, _), (1, _), (2, _), (3, _)] rfl ?_
                refine x_goto (pc := 115) (tgt := 89) d_A_enter_115 rfl ?_
                refine x_sub [0, 1, 2, 3, 4, 5] _ rfl ?_
                first
                  | exact ih (a + 1) P4 Q4 S4 F4 R4 g4 (by omega) (by omega) (apc.next (N := fun a X Y => bt (lin m) a = true → ∀ i, i < prm a → acar prm a e nc i X Y) (fun a => (amon.all (fun i => (acar.amon prm a e nc i).imp)).imp) hr (hap4.conv (fun Z _ q => q h102) (fun q _ => q)))
                  | exact ih (a + 1) P3 Q3 S3 F3 R3 g3 (by omega) (by omega) (apc.next (N := fun a X Y => bt (lin m) a = true → ∀ i, i < prm a → acar prm a e nc i X Y) (fun a => (amon.all (fun i => (acar.amon prm a e nc i).imp)).imp) hr ((apc.skip g3 _).conv (fun _ _ _ => trivial) (fun _ q => by rw [h102] at q; cases q)))
        refine x_sub [0, 1, 2, 3, 4, 5] _ rfl ?_
        exact hlo (m + 1) 0 P1 Q1 S1 F1 R1 g1 (by omega) (by omega) (apc.zero (N := fun a X Y => bt (lin m) a = true → ∀ i, i < prm a → acar prm a e nc i X Y) g1 _)
      · intro h33
        refine x_iload_n (pc := 36) d_A_enter_36 4 rfl ?_
        refine x_iload (pc := 37) d_A_enter_37 0 rfl ?_
        first | refine x_iaddN (pc := 39) d_A_enter_39 ?_ | refine x_iadd (pc := 39) d_A_enter_39 ?_
        refine x_istore (pc := 40) d_A_enter_40 (by decide) [(5, _), (4, _), (0, _), (1, _), (2, _), (3, _)] rfl ?_
        refine x_aload_n (pc := 42) d_A_enter_42 2 rfl ?_
        refine x_iload_n (pc := 43) d_A_enter_43 3 rfl ?_
        refine x_iload (pc := 44) d_A_enter_44 1 rfl ?_
        refine x_aload_n (pc := 46) d_A_enter_46 2 rfl ?_
        refine x_get (pc := 47) (ci := 0) d_A_enter_47 in_A rfl 9 (by decide) k_A_94 3 rfl rfl ?_
        refine x_callS_I (pc := 50) d_A_enter_50 k_A_48 ws_A_slot w_A_slot ini_A wd_A_slot ⟨by decide, by decide⟩ ⟨rfl, rfl⟩ ⟨Nat.zero_le _, Nat.zero_le _⟩ (t_A_slot) rfl rfl (Nat.le_of_ble_eq_true rfl) ?_
        refine x_aload_n (pc := 53) d_A_enter_53 2 rfl ?_
        refine x_get (pc := 54) (ci := 0) d_A_enter_54 in_A rfl 3 (by decide) k_A_19 3 rfl rfl ?_
        refine x_iload (pc := 57) d_A_enter_57 0 rfl ?_
        refine x_ialdN (pc := 59) d_A_enter_59 16 0 rfl rfl (by omega) (by omega) ?_
        refine x_aload_n (pc := 60) d_A_enter_60 2 rfl ?_
        refine x_get (pc := 61) (ci := 0) d_A_enter_61 in_A rfl 4 (by decide) k_A_22 3 rfl rfl ?_
        refine x_iload (pc := 64) d_A_enter_64 0 rfl ?_
        refine x_laldN (pc := 66) d_A_enter_66 17 1 rfl rfl (by omega) (by omega) ?_
        refine x_callV_X (pc := 67) (ci := 0) d_A_enter_67 k_A_140 wi_A_widen wv_A_widen w_A_widen ini_A wd_A_widen ⟨by decide, by decide⟩ ⟨rfl, rfl⟩ ⟨Nat.zero_le _, Nat.zero_le _⟩ 3 rfl rfl (t_A_widen (sl_lt (by omega) (by omega) hnc)) rfl rfl (Nat.le_of_ble_eq_true rfl) (fun v67 w67 hp67 => ?_)
        obtain ⟨rfl, P2, Q2, S2, F2, R2, g2, hap2, rfl⟩ := hp67
        refine x_iincN (pc := 70) d_A_enter_70 1 rfl (by decide) [(4, _), (5, _), (0, _), (1, _), (2, _), (3, _)] rfl ?_
        refine x_goto (pc := 73) (tgt := 23) d_A_enter_73 rfl ?_
        refine x_sub [0, 2, 3, 4, 5] _ rfl ?_
        exact ih (i + 1) P2 Q2 S2 F2 R2 g2 (by omega) (by omega) (apc.next (fun j => awid.amon _ _ _) hq hap2)
  refine x_sub [0, 1, 2, 3, 4] _ rfl ?_
  exact hlp (prm m + 1) 0 Pa Qa Sa Fa Ra ga (by omega) (by omega) (apc.zero ga _)
end ANA
end
section
/-! Rows for applyDirectly, loadOperand, loadSums -/
theorem apc.nextA {N0 : AX → AX → Prop} {N : Nat → AX → AX → Prop} (h0 : amon N0) (hN : ∀ i, amon (N i)) {g g1 g2 : Bool} {X Y Z : AX} {i : Nat} (h : apc (fun X Y => N0 X Y ∧ ∀ j, j < i → N j X Y) g X g1 Y) (k : apc (N i) g1 Y g2 Z) : apc (fun X Y => N0 X Y ∧ ∀ j, j < i + 1 → N j X Y) g X g2 Z := by
  refine apc.conv (apc.seq (amon.and h0 (amon.all (fun j => (hN j).imp))) (hN i) h k) (fun Z _ hz => ⟨⟨hz.1, fun j hj => hz.2 j (by omega)⟩, hz.2 i (by omega)⟩) (fun hz => ⟨hz.1.1, fun j hj => ?_⟩)
  rcases Nat.lt_succ_iff_lt_or_eq.mp hj with h1 | rfl
  · exact hz.1.2 j h1
  · exact hz.2
theorem apc.zeroA {N0 : AX → AX → Prop} {N : Nat → AX → AX → Prop} {g g1 : Bool} {X Y : AX} (h : apc N0 g X g1 Y) : apc (fun X Y => N0 X Y ∧ ∀ j, j < 0 → N j X Y) g X g1 Y := h.conv (fun _ _ q => q.1) (fun q => ⟨q, fun j hj => absurd hj (Nat.not_lt_zero j)⟩)
theorem b_8192 (i : Nat) : bt (nI 8192) i = decide (i = 13) := by
  rcases Nat.lt_or_ge i 32 with h | h
  · exact (by decide +kernel : ∀ i, i < 32 → bt (nI 8192) i = decide (i = 13)) i h
  · rw [b_big h, decide_eq_false (by omega)]
theorem b_n0 (i : Nat) : bt (nI 0) i = false := by rw [nI_0]; exact b_0 i
theorem b_1023 (i : Nat) : bt (nI 1023) i = decide (i < 10) := by
  rcases Nat.lt_or_ge i 32 with h | h
  · exact (by decide +kernel : ∀ i, i < 32 → bt (nI 1023) i = decide (i < 10)) i h
  · rw [b_big h, decide_eq_false (by omega)]
theorem l_ne0 {p : Int64} (h : ¬ p = 0) : ∃ b, bl p b = true := by
  refine Classical.byContradiction (fun hn => h (l_ext (fun i _ => ?_)))
  rw [l_0]
  exact Bool.of_not_eq_true (fun q => hn ⟨i, q⟩)
theorem b_ne0 {p : Int32} (h : ¬ p = 0) : ∃ b, bt p b = true := by
  refine Classical.byContradiction (fun hn => h (b_ext (fun i _ => ?_)))
  rw [b_0]
  exact Bool.of_not_eq_true (fun q => hn ⟨i, q⟩)
section RES
variable {P : Nat → Int32} {Q : Nat → Int64} {S : Int64} {F : Nat → Int32} {R : Int32}
theorem apc.res {g : Bool} {c d : Int32} {B : Nat → Prop} (hd : ∀ b, bt d b = true ↔ (∃ q, B q) ∧ b = 13) : apc (fun _ Y => ares (fun b => bt c b = true) B Y) g (ofw P Q S F R) g (ofw P Q S F ((R ||| c) ||| d)) := by
  refine (apc.seq (aans.amon _) (aans.amon _) (apc.ans g g (v := c) (Or.inl rfl)) (apc.ans g g (v := d) (Or.inl rfl))).conv (fun Z _ q => ⟨q.1, fun b hb => ?_⟩) (fun q => ⟨q.1, fun hb => q.2 13 ((hd 13).mpr ⟨hb, rfl⟩)⟩)
  obtain ⟨h1, rfl⟩ := (hd b).mp hb
  exact q.2 h1
theorem apc.res0 {g : Bool} {c : Int32} {p : Int64} (h : p = 0) : apc (fun _ Y => ares (fun b => bt c b = true) (fun b => bl p b = true) Y) g (ofw P Q S F R) g (ofw P Q S F ((R ||| c) ||| nI 0)) := by
  refine apc.res (fun b => ?_)
  rw [b_n0, h]
  constructor
  · intro q
    cases q
  · intro q
    obtain ⟨⟨z, hz⟩, _⟩ := q
    rw [l_0] at hz
    cases hz
theorem apc.res1 {g : Bool} {c : Int32} {p : Int64} (h : ¬ p = 0) : apc (fun _ Y => ares (fun b => bt c b = true) (fun b => bl p b = true) Y) g (ofw P Q S F R) g (ofw P Q S F ((R ||| c) ||| nI 8192)) := by
  refine apc.res (fun b => ?_)
  rw [b_8192]
  exact ⟨fun q => ⟨l_ne0 h, of_decide_eq_true q⟩, fun q => decide_eq_true q.2⟩
end RES
/-- the pair j of the operator's set -/
def adj (par : Nat → Int32) (prm : Nat → Nat) (l to k : Nat) (O : Int64) (C B : Nat → Nat → Prop) (j : Nat) (X Y : AX) : Prop := bl O j = true → prm (j / 8) = k → acall (anc par) prm l (j / 8) (j % 8) to C B X Y
theorem adj.amon (par : Nat → Int32) (prm : Nat → Nat) (l to k : Nat) (O : Int64) (C B : Nat → Nat → Prop) (j : Nat) : amon (adj par prm l to k O C B j) := fun X0 X Y Z a b q h1 h2 => acall.amon _ _ _ _ _ _ _ _ X0 X Y Z a b (q h1 h2)
/-- what applying the operand set (O, halt) comes to -/
def adir (cnt : Nat) (par : Nat → Int32) (prm : Nat → Nat) (l to k : Nat) (oc : Int32) (O : Int64) (fc : Int32) (fp : Int64) (C B : Nat → Nat → Prop) (X Y : AX) : Prop := (k = 1 → bt oc 10 = true → ares (fun b => bt fc b = true) (fun b => bl fp b = true) Y) ∧ acalls cnt (anc par) prm l to k (fun b => bl O b = true) C B X Y
theorem adir.amon (cnt : Nat) (par : Nat → Int32) (prm : Nat → Nat) (l to k : Nat) (oc : Int32) (O : Int64) (fc : Int32) (fp : Int64) (C B : Nat → Nat → Prop) : amon (adir cnt par prm l to k oc O fc fp C B) := fun X0 X Y Z a b q => ⟨fun h1 h2 => ares.amon _ _ X0 X Y Z a b (q.1 h1 h2), acalls.amon _ _ _ _ _ _ _ _ _ X0 X Y Z a b q.2⟩
theorem adir.of {cnt : Nat} {par : Nat → Int32} {prm : Nat → Nat} {l to k : Nat} {oc : Int32} {O : Int64} {fc : Int32} {fp : Int64} {C B : Nat → Nat → Prop} {g g' : Bool} {X Y : AX} (hO : ∀ q, bl O q = true → q < 8 * cnt) (h8 : cnt ≤ 8)
    (h : apc (fun X Y => (k = 1 → bt oc 10 = true → ares (fun b => bt fc b = true) (fun b => bl fp b = true) Y) ∧ ∀ j, j < 64 → adj par prm l to k O C B j X Y) g X g' Y) : apc (adir cnt par prm l to k oc O fc fp C B) g X g' Y := by
  refine h.conv (fun Z _ q => ⟨q.1, fun j hj hb hp => ?_⟩) (fun q => ⟨q.1, fun m e hm he hb hp => ?_⟩)
  · have h1 := hO j hb
    refine q.2 (j / 8) (j % 8) (by omega) (by omega) ?_ hp
    show bl O (8 * (j / 8) + j % 8) = true
    rw [show 8 * (j / 8) + j % 8 = j by omega]
    exact hb
  · have z := q.2 (8 * m + e) (by omega) hb
    rw [show (8 * m + e) / 8 = m by omega, show (8 * m + e) % 8 = e by omega] at z
    exact z hp
theorem sum_bits {f : Int32} {i : Nat} (hi : i < 10) (hf : ∀ y, bt f y = true → y < 10) (b : Nat) : bt (((f <<< (nI i &&& 31)) ||| ((f <<< (nI i &&& 31)).toUInt32 >>> ((nI 10).toUInt32 &&& Int32.toUInt32 31)).toInt32) &&& nI 1023) b = true ↔ ∃ y, y < 10 ∧ bt f y = true ∧ b = (i + y) % 10 := by
  rw [b_and, b_or, b_ushr 10 (by omega), b_1023]
  constructor
  · intro q
    obtain ⟨q1, q2⟩ := Bool.and_eq_true_iff.mp q
    have q2 := of_decide_eq_true q2
    rw [b_shl i (by omega) f (by omega), b_shl i (by omega) f (by omega)] at q1
    rcases Bool.or_eq_true_iff.mp q1 with q3 | q3
    · obtain ⟨q4, q5⟩ := Bool.and_eq_true_iff.mp q3
      have q4 := of_decide_eq_true q4
      exact ⟨b - i, by omega, q5, by omega⟩
    · obtain ⟨q4, q5⟩ := Bool.and_eq_true_iff.mp q3
      have := hf _ q5
      exact ⟨10 + b - i, by omega, q5, by omega⟩
  · intro q
    obtain ⟨y, y1, y2, y3⟩ := q
    have hb : b < 10 := by omega
    rw [b_shl i (by omega) f (by omega), b_shl i (by omega) f (by omega)]
    refine Bool.and_eq_true_iff.mpr ⟨Bool.or_eq_true_iff.mpr ?_, decide_eq_true hb⟩
    by_cases h : i + y < 10
    · refine Or.inl (Bool.and_eq_true_iff.mpr ⟨decide_eq_true (by omega), ?_⟩)
      rw [show b - i = y by omega]
      exact y2
    · refine Or.inr (Bool.and_eq_true_iff.mpr ⟨decide_eq_true (by omega), ?_⟩)
      rw [show 10 + b - i = y by omega]
      exact y2
/-- what loadOperand leaves in the operand i -/
def ldok (atm : Nat → Nat) (X : AX) (l c i : Nat) (oc : Int32) (op : Int64) : Prop := (∀ b, bt oc b = true ↔ an_c atm X l c i b) ∧ ∀ b, bl op b = true ↔ an_p atm X l c i b
section LD
variable {P : Nat → Int32} {Q : Nat → Int64} {S : Int64} {F : Nat → Int32} {R : Int32} {atm : Nat → Nat} {l c i : Nat}
theorem ldok.par (h1 : 100 ≤ atm (4 * l + i)) (h2 : atm (4 * l + i) < 180) (hs : sl ((atm (4 * l + i) - 100) / 10) ((atm (4 * l + i) - 100) % 10) c < 192) : ldok atm (ofw P Q S F R) l c i (P (sl ((atm (4 * l + i) - 100) / 10) ((atm (4 * l + i) - 100) % 10) c)) (Q (sl ((atm (4 * l + i) - 100) / 10) ((atm (4 * l + i) - 100) % 10) c)) := by
  refine ⟨fun b => ⟨fun q => Or.inr (Or.inr ⟨h1, by omega, hs, q⟩), fun q => ?_⟩, fun b => ⟨fun q => Or.inr ⟨h1, by omega, hs, q⟩, fun q => ?_⟩⟩
  · rcases q with q | q | q
    · omega
    · omega
    · exact q.2.2.2
  · rcases q with q | q
    · omega
    · exact q.2.2.2
theorem ldok.lam (h1 : 200 ≤ atm (4 * l + i)) (h2 : atm (4 * l + i) < 208) (hc : c < 8) : ldok atm (ofw P Q S F R) l c i (nI 0) (lP (8 * (atm (4 * l + i) - 200) + c)) := by
  refine ⟨fun b => ⟨fun q => ?_, fun q => ?_⟩, fun b => ?_⟩
  · rw [b_n0] at q
    cases q
  · rcases q with q | q | q <;> omega
  · rw [lP_bl (by omega)]
    constructor
    · intro q
      exact Or.inl ⟨h1, by omega, of_decide_eq_true q⟩
    · intro q
      rcases q with q | q
      · exact decide_eq_true q.2.2
      · omega
theorem ldok.con (h : atm (4 * l + i) < 10 ∨ (300 ≤ atm (4 * l + i) ∧ atm (4 * l + i) ≤ 302)) : ldok atm (ofw P Q S F R) l c i (nI 1 <<< (nI (cbit (atm (4 * l + i))) &&& 31)) 0 := by
  have hb : cbit (atm (4 * l + i)) < 32 := by
    unfold cbit
    split <;> omega
  refine ⟨fun b => ?_, fun b => ⟨fun q => ?_, fun q => ?_⟩⟩
  · show bt (1 <<< (nI (cbit (atm (4 * l + i))) &&& 31)) b = true ↔ _
    rw [b_one _ hb]
    unfold cbit an_c
    constructor
    · intro q
      have q := of_decide_eq_true q
      split at q
      · exact Or.inl ⟨by assumption, q⟩
      · exact Or.inr (Or.inl ⟨by omega, q⟩)
    · intro q
      refine decide_eq_true ?_
      rcases q with q | q | q
      · rw [if_pos q.1]
        exact q.2
      · rw [if_neg (by omega)]
        exact q.2
      · omega
  · rw [l_0] at q
    cases q
  · rcases q with q | q <;> omega
end LD
theorem sum_next {f1 f2 s : Int32} {i : Nat} (hs : ∀ b, bt s b = true ↔ ∃ x, x < i ∧ bt f1 x = true ∧ ∃ y, y < 10 ∧ bt f2 y = true ∧ b = (x + y) % 10) (h1 : bt f1 i = true) (hi : i < 10) (h2 : ∀ y, bt f2 y = true → y < 10) : ∀ b, bt (s ||| (((f2 <<< (nI i &&& 31)) ||| ((f2 <<< (nI i &&& 31)).toUInt32 >>> ((nI 10).toUInt32 &&& Int32.toUInt32 31)).toInt32) &&& nI 1023)) b = true ↔ ∃ x, x < i + 1 ∧ bt f1 x = true ∧ ∃ y, y < 10 ∧ bt f2 y = true ∧ b = (x + y) % 10 := by
  intro b
  rw [b_or, Bool.or_eq_true_iff, hs b, sum_bits hi h2 b]
  constructor
  · intro q
    rcases q with ⟨x, q1, q2, q3⟩ | q
    · exact ⟨x, by omega, q2, q3⟩
    · exact ⟨i, by omega, h1, q⟩
  · intro q
    obtain ⟨x, q1, q2, q3⟩ := q
    by_cases e : x = i
    · subst e
      exact Or.inr q3
    · exact Or.inl ⟨x, by omega, q2, q3⟩
theorem sum_same {f1 f2 s : Int32} {i : Nat} (hs : ∀ b, bt s b = true ↔ ∃ x, x < i ∧ bt f1 x = true ∧ ∃ y, y < 10 ∧ bt f2 y = true ∧ b = (x + y) % 10) (h1 : bt f1 i = false) : ∀ b, bt s b = true ↔ ∃ x, x < i + 1 ∧ bt f1 x = true ∧ ∃ y, y < 10 ∧ bt f2 y = true ∧ b = (x + y) % 10 := by
  intro b
  rw [hs b]
  constructor
  · intro q
    obtain ⟨x, q1, q2, q3⟩ := q
    exact ⟨x, by omega, q2, q3⟩
  · intro q
    obtain ⟨x, q1, q2, q3⟩ := q
    by_cases e : x = i
    · subst e
      rw [h1] at q2
      cases q2
    · exact ⟨x, by omega, q2, q3⟩
theorem sum_asum {f1 f2 s : Int32} (hs : ∀ b, bt s b = true ↔ ∃ x, x < 10 ∧ bt f1 x = true ∧ ∃ y, y < 10 ∧ bt f2 y = true ∧ b = (x + y) % 10) : ∀ b, bt s b = true ↔ asum (fun x => bt f1 x = true) (fun y => bt f2 y = true) b := by
  intro b
  rw [hs b]
  constructor
  · intro q
    obtain ⟨x, q1, q2, y, q3, q4, q5⟩ := q
    exact ⟨x, y, q1, q3, q2, q4, q5⟩
  · intro q
    obtain ⟨x, y, q1, q3, q2, q4, q5⟩ := q
    exact ⟨x, q1, q2, y, q3, q4, q5⟩
theorem bno {b : Bool} {p : Prop} (h : b = false) (q : b = true) : p := by
  rw [h] at q
  cases q
end
section
section ANA2
variable {l : Launch} {D : va_G} {ad : Nat → Nat} {cI cL : ClassId} {par : Nat → Int32} {prm : Nat → Nat} {lin : Nat → Int32} {siz atm : Nat → Nat} {cnt : Nat} {own out bnd : Nat → Nat} {cal : Nat → Int32} {opr : Nat → Nat} {n ph oc : Nat} {P : Nat → Int32} {Q : Nat → Int64} {OC : Nat → Int32} {OP : Nat → Int64} {F : Nat → Int32} {S : Int64} {R : Int32} {vis nc : Nat} {gr md : Bool}
set_option maxHeartbeats 4000000 in
set_option maxRecDepth 100000 in
theorem t_A_applyDirectly {op first k : Nat} (hw : pwf cnt par prm siz atm) (hli : linok cnt par lin) (hnc : nc < 8) (hvi : vis < 8) (hop : op < 5) (hfi : first < 5) (hfk : first + k ≤ 5) (hO : ∀ q, bl (OP op) q = true → q < 8 * cnt) : CT l y_A_applyDirectly c_A_applyDirectly 7 none (rmm 3 76) (gG D cI cL) [.ref (ad 3), .int (nI op), .int (nI first), .int (nI k)] (wC ad cI cL par prm lin siz atm cnt own out bnd cal opr n ph oc P Q OC OP F S R vis nc gr md) (fun v w2 => v = none ∧ ∃ P2 Q2 S2 F2 R2 g2, apc (adir cnt par prm vis nc k (OC op) (OP op) (OC first) (OP first) (fun i b => bt (OC (first + i)) b = true) (fun i b => bl (OP (first + i)) b = true)) gr (ofw P Q S F R) g2 (ofw P2 Q2 S2 F2 R2) ∧ w2 = (wC ad cI cL par prm lin siz atm cnt own out bnd cal opr n ph oc P2 Q2 OC OP F2 S2 R2 vis nc g2 md)) := by
  refine CT.of R_A (by decide) rfl (Nat.le_of_ble_eq_true rfl) ?_
  intro E A hname
  have hc8 : cnt ≤ 8 := hw.2.1
  have hlp : ∀ (fuel : Nat) (i : Nat) (P1 : Nat → Int32) (Q1 : Nat → Int64) (S1 : Int64) (F1 : Nat → Int32) (R1 : Int32) (g1 : Bool), 64 - i < fuel → (i ≤ 64) → (apc (fun X Y => (k = 1 → bt (OC op) 10 = true → ares (fun b => bt (OC first) b = true) (fun b => bl (OP first) b = true) Y) ∧ ∀ j, j < i → adj par prm vis nc k (OP op) (fun i b => bt (OC (first + i)) b = true) (fun i b => bl (OP (first + i)) b = true) j X Y) gr (ofw P Q S F R) g1 (ofw P1 Q1 S1 F1 R1)) → xj E l (rmm 3 76) c_A_applyDirectly 7 none R_A (gG D cI cL) A 0 0 (fun v w2 => v = none ∧ ∃ P2 Q2 S2 F2 R2 g2, apc (adir cnt par prm vis nc k (OC op) (OP op) (OC first) (OP first) (fun i b => bt (OC (first + i)) b = true) (fun i b => bl (OP (first + i)) b = true)) gr (ofw P Q S F R) g2 (ofw P2 Q2 S2 F2 R2) ∧ w2 = (wC ad cI cL par prm lin siz atm cnt own out bnd cal opr n ph oc P2 Q2 OC OP F2 S2 R2 vis nc g2 md)) 0 0 (wC ad cI cL par prm lin siz atm cnt own out bnd cal opr n ph oc P1 Q1 OC OP F1 S1 R1 vis nc g1 md) 76 [(6, .int (nI i)), (4, .long (OP op)), (0, .ref (ad 3)), (1, .int (nI op)), (2, .int (nI first)), (3, .int (nI k))] [] := by
    intro fuel
    induction fuel with
    | zero => intro i P1 Q1 S1 F1 R1 g1 hf; exact absurd hf (Nat.not_lt_zero _)
    | succ fuel ih =>
      intro i P1 Q1 S1 F1 R1 g1 hf hi hq
      refine x_iload (pc := 76) d_A_applyDirectly_76 0 rfl ?_
      refine x_bipush (pc := 78) (nI 64) d_A_applyDirectly_78 (by decide) ?_
      first | refine x_icmp_geN (pc := 80) (tgt := 130) d_A_applyDirectly_80 rfl (by omega) (by omega) ?_ ?_ | refine x_icmp_ge (pc := 80) (tgt := 130) d_A_applyDirectly_80 rfl ?_ ?_
      · intro h80
        refine x_vret (pc := 130) d_A_applyDirectly_130 rfl ?_
        have e1 : i = 64 := by omega
        rw [e1] at hq
        exact ⟨rfl, P1, Q1, S1, F1, R1, g1, adir.of hO hc8 hq, rfl⟩
      · intro h80
        refine x_lload (pc := 83) d_A_applyDirectly_83 1 rfl ?_
        refine x_iload (pc := 85) d_A_applyDirectly_85 0 rfl ?_
        refine x_callS_I (pc := 87) d_A_applyDirectly_87 k_A_62 ws_A_hasPair w_A_hasPair ini_A wd_A_hasPair ⟨by decide, by decide⟩ ⟨rfl, rfl⟩ ⟨Nat.zero_le _, Nat.zero_le _⟩ (t_A_hasPair (by omega)) rfl rfl (Nat.le_of_ble_eq_true rfl) ?_
        first | refine x_if_eqB (pc := 90) (tgt := 124) d_A_applyDirectly_90 rfl ?_ ?_ | refine x_if_eqL (pc := 90) (tgt := 124) d_A_applyDirectly_90 rfl ?_ ?_ | refine x_if_eqN (pc := 90) (tgt := 124) d_A_applyDirectly_90 rfl (by omega) ?_ ?_ | refine x_if_eq (pc := 90) (tgt := 124) d_A_applyDirectly_90 rfl ?_ ?_
        · intro h90
          refine x_iincN (pc := 124) d_A_applyDirectly_124 0 rfl (by decide) [(6, _), (4, _), (0, _), (1, _), (2, _), (3, _)] rfl ?_
          refine x_goto (pc := 127) (tgt := 76) d_A_applyDirectly_127 rfl ?_
          refine x_sub [0, 1, 2, 3, 4, 5] _ rfl ?_
          first
            | exact ih (i + 1) P2 Q2 S2 F2 R2 g2 (by omega) (by omega) (apc.nextA (N0 := fun X Y => (k = 1 → bt (OC op) 10 = true → ares (fun b => bt (OC first) b = true) (fun b => bl (OP first) b = true) Y)) (N := adj par prm vis nc k (OP op) (fun i b => bt (OC (first + i)) b = true) (fun i b => bl (OP (first + i)) b = true)) ((ares.amon _ _).imp.imp) (fun j => adj.amon _ _ _ _ _ _ _ _ j) hq (hap2.conv (fun Z _ q => q h90 h106) (fun q _ _ => q)))
            | exact ih (i + 1) P1 Q1 S1 F1 R1 g1 (by omega) (by omega) (apc.nextA (N0 := fun X Y => (k = 1 → bt (OC op) 10 = true → ares (fun b => bt (OC first) b = true) (fun b => bl (OP first) b = true) Y)) (N := adj par prm vis nc k (OP op) (fun i b => bt (OC (first + i)) b = true) (fun i b => bl (OP (first + i)) b = true)) ((ares.amon _ _).imp.imp) (fun j => adj.amon _ _ _ _ _ _ _ _ j) hq ((apc.skip g1 _).conv (fun _ _ _ => trivial) (fun _ q => bno h90 q)))
            | exact ih (i + 1) P1 Q1 S1 F1 R1 g1 (by omega) (by omega) (apc.nextA (N0 := fun X Y => (k = 1 → bt (OC op) 10 = true → ares (fun b => bt (OC first) b = true) (fun b => bl (OP first) b = true) Y)) (N := adj par prm vis nc k (OP op) (fun i b => bt (OC (first + i)) b = true) (fun i b => bl (OP (first + i)) b = true)) ((ares.amon _ _).imp.imp) (fun j => adj.amon _ _ _ _ _ _ _ _ j) hq ((apc.skip g1 _).conv (fun _ _ _ => trivial) (fun _ _ q => absurd q h106)))
        · intro h90
          have hj := hO i h90
          have hpj := hw.2.2.2.1 (i / 8) (by omega)
          refine x_aload_n (pc := 93) d_A_applyDirectly_93 2 rfl ?_
          refine x_get (pc := 94) (ci := 0) d_A_applyDirectly_94 in_A rfl 0 (by decide) k_A_28 3 rfl rfl ?_
          refine x_iload (pc := 97) d_A_applyDirectly_97 0 rfl ?_
          refine x_bipush (pc := 99) (nI 8) d_A_applyDirectly_99 (by decide) ?_
          first | refine x_idivN (pc := 101) d_A_applyDirectly_101 (by omega) (by omega) (by omega) ?_ | refine x_idiv (pc := 101) d_A_applyDirectly_101 (by decide) ?_
          refine x_callV_I (pc := 102) (ci := 2) d_A_applyDirectly_102 k_A_130 wi_P_paramsOf wv_P_paramsOf w_P_paramsOf ini_P wd_P_paramsOf ⟨by decide, by decide⟩ ⟨rfl, rfl⟩ ⟨Nat.zero_le _, Nat.zero_le _⟩ 1 rfl rfl (t_P_paramsOf (by omega)) rfl rfl (Nat.le_of_ble_eq_true rfl) ?_
          refine x_iload_n (pc := 105) d_A_applyDirectly_105 5 rfl ?_
          first | refine x_icmp_neN (pc := 106) (tgt := 124) d_A_applyDirectly_106 rfl (by omega) (by omega) ?_ ?_ | refine x_icmp_ne (pc := 106) (tgt := 124) d_A_applyDirectly_106 rfl ?_ ?_
          · intro h106
            refine x_iincN (pc := 124) d_A_applyDirectly_124 0 rfl (by decide) [(6, _), (4, _), (0, _), (1, _), (2, _), (3, _)] rfl ?_
            refine x_goto (pc := 127) (tgt := 76) d_A_applyDirectly_127 rfl ?_
            refine x_sub [0, 1, 2, 3, 4, 5] _ rfl ?_
            first
              | exact ih (i + 1) P2 Q2 S2 F2 R2 g2 (by omega) (by omega) (apc.nextA (N0 := fun X Y => (k = 1 → bt (OC op) 10 = true → ares (fun b => bt (OC first) b = true) (fun b => bl (OP first) b = true) Y)) (N := adj par prm vis nc k (OP op) (fun i b => bt (OC (first + i)) b = true) (fun i b => bl (OP (first + i)) b = true)) ((ares.amon _ _).imp.imp) (fun j => adj.amon _ _ _ _ _ _ _ _ j) hq (hap2.conv (fun Z _ q => q h90 h106) (fun q _ _ => q)))
              | exact ih (i + 1) P1 Q1 S1 F1 R1 g1 (by omega) (by omega) (apc.nextA (N0 := fun X Y => (k = 1 → bt (OC op) 10 = true → ares (fun b => bt (OC first) b = true) (fun b => bl (OP first) b = true) Y)) (N := adj par prm vis nc k (OP op) (fun i b => bt (OC (first + i)) b = true) (fun i b => bl (OP (first + i)) b = true)) ((ares.amon _ _).imp.imp) (fun j => adj.amon _ _ _ _ _ _ _ _ j) hq ((apc.skip g1 _).conv (fun _ _ _ => trivial) (fun _ q => bno h90 q)))
              | exact ih (i + 1) P1 Q1 S1 F1 R1 g1 (by omega) (by omega) (apc.nextA (N0 := fun X Y => (k = 1 → bt (OC op) 10 = true → ares (fun b => bt (OC first) b = true) (fun b => bl (OP first) b = true) Y)) (N := adj par prm vis nc k (OP op) (fun i b => bt (OC (first + i)) b = true) (fun i b => bl (OP (first + i)) b = true)) ((ares.amon _ _).imp.imp) (fun j => adj.amon _ _ _ _ _ _ _ _ j) hq ((apc.skip g1 _).conv (fun _ _ _ => trivial) (fun _ _ q => absurd q h106)))
          · intro h106
            refine x_aload_n (pc := 109) d_A_applyDirectly_109 2 rfl ?_
            refine x_iload (pc := 110) d_A_applyDirectly_110 0 rfl ?_
            refine x_bipush (pc := 112) (nI 8) d_A_applyDirectly_112 (by decide) ?_
            first | refine x_idivN (pc := 114) d_A_applyDirectly_114 (by omega) (by omega) (by omega) ?_ | refine x_idiv (pc := 114) d_A_applyDirectly_114 (by decide) ?_
            refine x_iload (pc := 115) d_A_applyDirectly_115 0 rfl ?_
            refine x_bipush (pc := 117) (nI 8) d_A_applyDirectly_117 (by decide) ?_
            first | refine x_iremN (pc := 119) d_A_applyDirectly_119 (by omega) (by omega) (by omega) ?_ | refine x_irem (pc := 119) d_A_applyDirectly_119 (by decide) ?_
            refine x_iload_n (pc := 120) d_A_applyDirectly_120 4 rfl ?_
            refine x_callV_X (pc := 121) (ci := 0) d_A_applyDirectly_121 k_A_133 wi_A_enter wv_A_enter w_A_enter ini_A wd_A_enter ⟨by decide, by decide⟩ ⟨rfl, rfl⟩ ⟨Nat.zero_le _, Nat.zero_le _⟩ 3 rfl rfl (t_A_enter hw hli (by omega) (by omega) hnc hvi (by omega)) rfl rfl (Nat.le_of_ble_eq_true rfl) (fun v121 w121 hp121 => ?_)
            obtain ⟨rfl, P2, Q2, S2, F2, R2, g2, hap2, rfl⟩ := hp121
            refine x_iincN (pc := 124) d_A_applyDirectly_124 0 rfl (by decide) [(6, _), (4, _), (0, _), (1, _), (2, _), (3, _)] rfl ?_
            refine x_goto (pc := 127) (tgt := 76) d_A_applyDirectly_127 rfl ?_
            refine x_sub [0, 1, 2, 3, 4, 5] _ rfl ?_
            first
              | exact ih (i + 1) P2 Q2 S2 F2 R2 g2 (by omega) (by omega) (apc.nextA (N0 := fun X Y => (k = 1 → bt (OC op) 10 = true → ares (fun b => bt (OC first) b = true) (fun b => bl (OP first) b = true) Y)) (N := adj par prm vis nc k (OP op) (fun i b => bt (OC (first + i)) b = true) (fun i b => bl (OP (first + i)) b = true)) ((ares.amon _ _).imp.imp) (fun j => adj.amon _ _ _ _ _ _ _ _ j) hq (hap2.conv (fun Z _ q => q h90 h106) (fun q _ _ => q)))
              | exact ih (i + 1) P1 Q1 S1 F1 R1 g1 (by omega) (by omega) (apc.nextA (N0 := fun X Y => (k = 1 → bt (OC op) 10 = true → ares (fun b => bt (OC first) b = true) (fun b => bl (OP first) b = true) Y)) (N := adj par prm vis nc k (OP op) (fun i b => bt (OC (first + i)) b = true) (fun i b => bl (OP (first + i)) b = true)) ((ares.amon _ _).imp.imp) (fun j => adj.amon _ _ _ _ _ _ _ _ j) hq ((apc.skip g1 _).conv (fun _ _ _ => trivial) (fun _ q => bno h90 q)))
              | exact ih (i + 1) P1 Q1 S1 F1 R1 g1 (by omega) (by omega) (apc.nextA (N0 := fun X Y => (k = 1 → bt (OC op) 10 = true → ares (fun b => bt (OC first) b = true) (fun b => bl (OP first) b = true) Y)) (N := adj par prm vis nc k (OP op) (fun i b => bt (OC (first + i)) b = true) (fun i b => bl (OP (first + i)) b = true)) ((ares.amon _ _).imp.imp) (fun j => adj.amon _ _ _ _ _ _ _ _ j) hq ((apc.skip g1 _).conv (fun _ _ _ => trivial) (fun _ _ q => absurd q h106)))
  refine x_iload_n (pc := 0) d_A_applyDirectly_0 3 rfl ?_
  refine x_iconst (pc := 1) (nI 1) d_A_applyDirectly_1 (by decide) ?_
  first | refine x_icmp_neN (pc := 2) (tgt := 65) d_A_applyDirectly_2 rfl (by omega) (by omega) ?_ ?_ | refine x_icmp_ne (pc := 2) (tgt := 65) d_A_applyDirectly_2 rfl ?_ ?_
  · intro h2
    refine x_aload_n (pc := 65) d_A_applyDirectly_65 0 rfl ?_
    refine x_get (pc := 66) (ci := 0) d_A_applyDirectly_66 in_A rfl 4 (by decide) k_A_22 3 rfl rfl ?_
    refine x_iload_n (pc := 69) d_A_applyDirectly_69 1 rfl ?_
    refine x_laldN (pc := 70) d_A_applyDirectly_70 17 1 rfl rfl (by omega) (by omega) ?_
    refine x_lstore (pc := 71) d_A_applyDirectly_71 (by decide) [(4, _), (0, _), (1, _), (2, _), (3, _)] rfl ?_
    refine x_iconst (pc := 73) (nI 0) d_A_applyDirectly_73 (by decide) ?_
    refine x_istore (pc := 74) d_A_applyDirectly_74 (by decide) [(6, _), (4, _), (0, _), (1, _), (2, _), (3, _)] rfl ?_
    refine x_sub [0, 1, 2, 3, 4, 5] _ rfl ?_
    first
      | exact hlp 65 0 P Q S F R gr (by omega) (by omega) (apc.zeroA ((apc.skip gr _).conv (fun _ _ _ => trivial) (fun _ q => absurd q h2)))
      | exact hlp 65 0 P Q S F R gr (by omega) (by omega) (apc.zeroA ((apc.skip gr _).conv (fun _ _ _ => trivial) (fun _ _ q => bno h20 q)))
      | exact hlp 65 0 P Q S F _ gr (by omega) (by omega) (apc.zeroA ((apc.res0 h51).conv (fun _ _ q => q h2 h20) (fun q _ _ => q)))
      | exact hlp 65 0 P Q S F _ gr (by omega) (by omega) (apc.zeroA ((apc.res1 h51).conv (fun _ _ q => q h2 h20) (fun q _ _ => q)))
  · intro h2
    refine x_aload_n (pc := 5) d_A_applyDirectly_5 0 rfl ?_
    refine x_get (pc := 6) (ci := 0) d_A_applyDirectly_6 in_A rfl 3 (by decide) k_A_19 3 rfl rfl ?_
    refine x_iload_n (pc := 9) d_A_applyDirectly_9 1 rfl ?_
    refine x_ialdN (pc := 10) d_A_applyDirectly_10 16 0 rfl rfl (by omega) (by omega) ?_
    refine x_sipush (pc := 11) (nI 300) d_A_applyDirectly_11 (by decide) ?_
    refine x_callS_I (pc := 14) d_A_applyDirectly_14 k_A_107 ws_A_constantBit w_A_constantBit ini_A wd_A_constantBit ⟨by decide, by decide⟩ ⟨rfl, rfl⟩ ⟨Nat.zero_le _, Nat.zero_le _⟩ (t_A_constantBit (x := 300) (Or.inr (by decide)) (by decide)) rfl rfl (Nat.le_of_ble_eq_true rfl) ?_
    rw [show cbit 300 = 10 from rfl]
    refine x_callSN_I (pc := 17) d_A_applyDirectly_17 k_A_110 ws_C_has w_C_has ini_C wd_C_has ⟨by decide, by decide⟩ ⟨rfl, rfl⟩ ⟨Nat.zero_le _, Nat.zero_le _⟩ (t_C_has (by decide)) rfl rfl (Nat.le_of_ble_eq_true rfl) ?_
    first | refine x_if_eqB (pc := 20) (tgt := 65) d_A_applyDirectly_20 rfl ?_ ?_ | refine x_if_eqL (pc := 20) (tgt := 65) d_A_applyDirectly_20 rfl ?_ ?_ | refine x_if_eqN (pc := 20) (tgt := 65) d_A_applyDirectly_20 rfl (by omega) ?_ ?_ | refine x_if_eq (pc := 20) (tgt := 65) d_A_applyDirectly_20 rfl ?_ ?_
    · intro h20
      refine x_aload_n (pc := 65) d_A_applyDirectly_65 0 rfl ?_
      refine x_get (pc := 66) (ci := 0) d_A_applyDirectly_66 in_A rfl 4 (by decide) k_A_22 3 rfl rfl ?_
      refine x_iload_n (pc := 69) d_A_applyDirectly_69 1 rfl ?_
      refine x_laldN (pc := 70) d_A_applyDirectly_70 17 1 rfl rfl (by omega) (by omega) ?_
      refine x_lstore (pc := 71) d_A_applyDirectly_71 (by decide) [(4, _), (0, _), (1, _), (2, _), (3, _)] rfl ?_
      refine x_iconst (pc := 73) (nI 0) d_A_applyDirectly_73 (by decide) ?_
      refine x_istore (pc := 74) d_A_applyDirectly_74 (by decide) [(6, _), (4, _), (0, _), (1, _), (2, _), (3, _)] rfl ?_
      refine x_sub [0, 1, 2, 3, 4, 5] _ rfl ?_
      first
        | exact hlp 65 0 P Q S F R gr (by omega) (by omega) (apc.zeroA ((apc.skip gr _).conv (fun _ _ _ => trivial) (fun _ q => absurd q h2)))
        | exact hlp 65 0 P Q S F R gr (by omega) (by omega) (apc.zeroA ((apc.skip gr _).conv (fun _ _ _ => trivial) (fun _ _ q => bno h20 q)))
        | exact hlp 65 0 P Q S F _ gr (by omega) (by omega) (apc.zeroA ((apc.res0 h51).conv (fun _ _ q => q h2 h20) (fun q _ _ => q)))
        | exact hlp 65 0 P Q S F _ gr (by omega) (by omega) (apc.zeroA ((apc.res1 h51).conv (fun _ _ q => q h2 h20) (fun q _ _ => q)))
    · intro h20
      refine x_aload_n (pc := 23) d_A_applyDirectly_23 0 rfl ?_
      refine x_dup (pc := 24) d_A_applyDirectly_24 rfl ?_
      refine x_get (pc := 25) (ci := 0) d_A_applyDirectly_25 in_A rfl 7 (by decide) k_A_44 3 rfl rfl ?_
      refine x_aload_n (pc := 28) d_A_applyDirectly_28 0 rfl ?_
      refine x_get (pc := 29) (ci := 0) d_A_applyDirectly_29 in_A rfl 3 (by decide) k_A_19 3 rfl rfl ?_
      refine x_iload_n (pc := 32) d_A_applyDirectly_32 2 rfl ?_
      refine x_ialdN (pc := 33) d_A_applyDirectly_33 16 0 rfl rfl (by omega) (by omega) ?_
      refine x_ior (pc := 34) d_A_applyDirectly_34 ?_
      refine x_put (pc := 35) (ci := 0) (ty := .int) d_A_applyDirectly_35 in_A t_A ty_A nm_A rfl 7 (by decide) k_A_44 rfl (by decide +kernel) rfl rfl 3 rfl (Nat.le_of_ble_eq_true rfl) (_) (rfl) ?_
      refine x_aload_n (pc := 38) d_A_applyDirectly_38 0 rfl ?_
      refine x_dup (pc := 39) d_A_applyDirectly_39 rfl ?_
      refine x_get (pc := 40) (ci := 0) d_A_applyDirectly_40 in_A rfl 7 (by decide) k_A_44 3 rfl rfl ?_
      refine x_aload_n (pc := 43) d_A_applyDirectly_43 0 rfl ?_
      refine x_get (pc := 44) (ci := 0) d_A_applyDirectly_44 in_A rfl 4 (by decide) k_A_22 3 rfl rfl ?_
      refine x_iload_n (pc := 47) d_A_applyDirectly_47 2 rfl ?_
      refine x_laldN (pc := 48) d_A_applyDirectly_48 17 1 rfl rfl (by omega) (by omega) ?_
      refine x_lconst (pc := 49) 0 d_A_applyDirectly_49 (by decide) ?_
      refine x_lcmp (pc := 50) d_A_applyDirectly_50 ?_
      first | refine x_if_neB (pc := 51) (tgt := 58) d_A_applyDirectly_51 rfl ?_ ?_ | refine x_if_neL (pc := 51) (tgt := 58) d_A_applyDirectly_51 rfl ?_ ?_ | refine x_if_neN (pc := 51) (tgt := 58) d_A_applyDirectly_51 rfl (by omega) ?_ ?_ | refine x_if_ne (pc := 51) (tgt := 58) d_A_applyDirectly_51 rfl ?_ ?_
      · intro h51
        refine x_sipush (pc := 58) (nI 8192) d_A_applyDirectly_58 (by decide) ?_
        refine x_ior (pc := 61) d_A_applyDirectly_61 ?_
        refine x_put (pc := 62) (ci := 0) (ty := .int) d_A_applyDirectly_62 in_A t_A ty_A nm_A rfl 7 (by decide) k_A_44 rfl (by decide +kernel) rfl rfl 3 rfl (Nat.le_of_ble_eq_true rfl) (_) (rfl) ?_
        refine x_aload_n (pc := 65) d_A_applyDirectly_65 0 rfl ?_
        refine x_get (pc := 66) (ci := 0) d_A_applyDirectly_66 in_A rfl 4 (by decide) k_A_22 3 rfl rfl ?_
        refine x_iload_n (pc := 69) d_A_applyDirectly_69 1 rfl ?_
        refine x_laldN (pc := 70) d_A_applyDirectly_70 17 1 rfl rfl (by omega) (by omega) ?_
        refine x_lstore (pc := 71) d_A_applyDirectly_71 (by decide) [(4, _), (0, _), (1, _), (2, _), (3, _)] rfl ?_
        refine x_iconst (pc := 73) (nI 0) d_A_applyDirectly_73 (by decide) ?_
        refine x_istore (pc := 74) d_A_applyDirectly_74 (by decide) [(6, _), (4, _), (0, _), (1, _), (2, _), (3, _)] rfl ?_
        refine x_sub [0, 1, 2, 3, 4, 5] _ rfl ?_
        first
          | exact hlp 65 0 P Q S F R gr (by omega) (by omega) (apc.zeroA ((apc.skip gr _).conv (fun _ _ _ => trivial) (fun _ q => absurd q h2)))
          | exact hlp 65 0 P Q S F R gr (by omega) (by omega) (apc.zeroA ((apc.skip gr _).conv (fun _ _ _ => trivial) (fun _ _ q => bno h20 q)))
          | exact hlp 65 0 P Q S F _ gr (by omega) (by omega) (apc.zeroA ((apc.res0 h51).conv (fun _ _ q => q h2 h20) (fun q _ _ => q)))
          | exact hlp 65 0 P Q S F _ gr (by omega) (by omega) (apc.zeroA ((apc.res1 h51).conv (fun _ _ q => q h2 h20) (fun q _ _ => q)))
      · intro h51
        refine x_iconst (pc := 54) (nI 0) d_A_applyDirectly_54 (by decide) ?_
        refine x_goto (pc := 55) (tgt := 61) d_A_applyDirectly_55 rfl ?_
        refine x_ior (pc := 61) d_A_applyDirectly_61 ?_
        refine x_put (pc := 62) (ci := 0) (ty := .int) d_A_applyDirectly_62 in_A t_A ty_A nm_A rfl 7 (by decide) k_A_44 rfl (by decide +kernel) rfl rfl 3 rfl (Nat.le_of_ble_eq_true rfl) (_) (rfl) ?_
        refine x_aload_n (pc := 65) d_A_applyDirectly_65 0 rfl ?_
        refine x_get (pc := 66) (ci := 0) d_A_applyDirectly_66 in_A rfl 4 (by decide) k_A_22 3 rfl rfl ?_
        refine x_iload_n (pc := 69) d_A_applyDirectly_69 1 rfl ?_
        refine x_laldN (pc := 70) d_A_applyDirectly_70 17 1 rfl rfl (by omega) (by omega) ?_
        refine x_lstore (pc := 71) d_A_applyDirectly_71 (by decide) [(4, _), (0, _), (1, _), (2, _), (3, _)] rfl ?_
        refine x_iconst (pc := 73) (nI 0) d_A_applyDirectly_73 (by decide) ?_
        refine x_istore (pc := 74) d_A_applyDirectly_74 (by decide) [(6, _), (4, _), (0, _), (1, _), (2, _), (3, _)] rfl ?_
        refine x_sub [0, 1, 2, 3, 4, 5] _ rfl ?_
        first
          | exact hlp 65 0 P Q S F R gr (by omega) (by omega) (apc.zeroA ((apc.skip gr _).conv (fun _ _ _ => trivial) (fun _ q => absurd q h2)))
          | exact hlp 65 0 P Q S F R gr (by omega) (by omega) (apc.zeroA ((apc.skip gr _).conv (fun _ _ _ => trivial) (fun _ _ q => bno h20 q)))
          | exact hlp 65 0 P Q S F _ gr (by omega) (by omega) (apc.zeroA ((apc.res0 h51).conv (fun _ _ q => q h2 h20) (fun q _ _ => q)))
          | exact hlp 65 0 P Q S F _ gr (by omega) (by omega) (apc.zeroA ((apc.res1 h51).conv (fun _ _ q => q h2 h20) (fun q _ _ => q)))
set_option maxHeartbeats 4000000 in
set_option maxRecDepth 100000 in
theorem t_A_loadOperand {lx c i : Nat} (hw : pwf cnt par prm siz atm) (hi : i < 5) (hc : c < 8) (hok : aok cnt par prm lx (atm (4 * lx + i))) : CT l y_A_loadOperand c_A_loadOperand 5 none (rmm 2 40) (gG D cI cL) [.ref (ad 3), .int (nI i), .int (nI (atm (4 * lx + i))), .int (nI c)] (wC ad cI cL par prm lin siz atm cnt own out bnd cal opr n ph oc P Q OC OP F S R vis nc gr md) (fun v w2 => v = none ∧ ∃ OC2 OP2, (∀ j, ¬ j = i → OC2 j = OC j ∧ OP2 j = OP j) ∧ ldok atm (ofw P Q S F R) lx c i (OC2 i) (OP2 i) ∧ w2 = (wC ad cI cL par prm lin siz atm cnt own out bnd cal opr n ph oc P Q OC2 OP2 F S R vis nc gr md)) := by
  refine CT.of R_A (by decide) rfl (Nat.le_of_ble_eq_true rfl) ?_
  intro E A hname
  have hc8 : cnt ≤ 8 := hw.2.1
  have hb3 : atm (4 * lx + i) ≤ 302 := by rcases hok with q | q | q | q <;> omega
  refine x_aload_n (pc := 0) d_A_loadOperand_0 0 rfl ?_
  refine x_get (pc := 1) (ci := 0) d_A_loadOperand_1 in_A rfl 3 (by decide) k_A_19 3 rfl rfl ?_
  refine x_iload_n (pc := 4) d_A_loadOperand_4 1 rfl ?_
  refine x_iconst (pc := 5) (nI 0) d_A_loadOperand_5 (by decide) ?_
  first | refine x_iastU (pc := 6) d_A_loadOperand_6 16 0 rfl rfl (by omega) (by omega) ?_ | refine x_iastN (pc := 6) d_A_loadOperand_6 16 0 rfl rfl (by omega) (by omega) _ rfl ?_
  refine x_aload_n (pc := 7) d_A_loadOperand_7 0 rfl ?_
  refine x_get (pc := 8) (ci := 0) d_A_loadOperand_8 in_A rfl 4 (by decide) k_A_22 3 rfl rfl ?_
  refine x_iload_n (pc := 11) d_A_loadOperand_11 1 rfl ?_
  refine x_lconst (pc := 12) 0 d_A_loadOperand_12 (by decide) ?_
  refine x_lastN (pc := 13) d_A_loadOperand_13 17 1 rfl rfl (by omega) (by omega) (_) (rfl) ?_
  refine x_iload_n (pc := 14) d_A_loadOperand_14 2 rfl ?_
  refine x_callSN_I (pc := 15) d_A_loadOperand_15 k_A_117 ws_C_isParameter w_C_isParameter ini_C wd_C_isParameter ⟨by decide, by decide⟩ ⟨rfl, rfl⟩ ⟨Nat.zero_le _, Nat.zero_le _⟩ (t_C_isParameter) rfl rfl (Nat.le_of_ble_eq_true rfl) ?_
  rw [lo_nI (by omega) (by omega) (by omega)]
  first | refine x_if_eqB (pc := 18) (tgt := 64) d_A_loadOperand_18 rfl ?_ ?_ | refine x_if_eqL (pc := 18) (tgt := 64) d_A_loadOperand_18 rfl ?_ ?_ | refine x_if_eqN (pc := 18) (tgt := 64) d_A_loadOperand_18 rfl (by omega) ?_ ?_ | refine x_if_eq (pc := 18) (tgt := 64) d_A_loadOperand_18 rfl ?_ ?_
  · intro h18
    have g18 := of_decide_eq_false h18
    refine x_iload_n (pc := 64) d_A_loadOperand_64 2 rfl ?_
    refine x_callSN_I (pc := 65) d_A_loadOperand_65 k_A_127 ws_C_isLambda w_C_isLambda ini_C wd_C_isLambda ⟨by decide, by decide⟩ ⟨rfl, rfl⟩ ⟨Nat.zero_le _, Nat.zero_le _⟩ (t_C_isLambda) rfl rfl (Nat.le_of_ble_eq_true rfl) ?_
    rw [lo_nI (by omega) (by omega) (by omega)]
    first | refine x_if_eqB (pc := 68) (tgt := 89) d_A_loadOperand_68 rfl ?_ ?_ | refine x_if_eqL (pc := 68) (tgt := 89) d_A_loadOperand_68 rfl ?_ ?_ | refine x_if_eqN (pc := 68) (tgt := 89) d_A_loadOperand_68 rfl (by omega) ?_ ?_ | refine x_if_eq (pc := 68) (tgt := 89) d_A_loadOperand_68 rfl ?_ ?_
    · intro h68
      have g68 := of_decide_eq_false h68
      have hcn : atm (4 * lx + i) < 10 ∨ (300 ≤ atm (4 * lx + i) ∧ atm (4 * lx + i) ≤ 302) := by
        rcases hok with q | q | q | q
        · exact Or.inl q
        · exact Or.inr q
        · omega
        · omega
      refine x_aload_n (pc := 89) d_A_loadOperand_89 0 rfl ?_
      refine x_get (pc := 90) (ci := 0) d_A_loadOperand_90 in_A rfl 3 (by decide) k_A_19 3 rfl rfl ?_
      refine x_iload_n (pc := 93) d_A_loadOperand_93 1 rfl ?_
      refine x_iconst (pc := 94) (nI 1) d_A_loadOperand_94 (by decide) ?_
      refine x_iload_n (pc := 95) d_A_loadOperand_95 2 rfl ?_
      refine x_callS_I (pc := 96) d_A_loadOperand_96 k_A_107 ws_A_constantBit w_A_constantBit ini_A wd_A_constantBit ⟨by decide, by decide⟩ ⟨rfl, rfl⟩ ⟨Nat.zero_le _, Nat.zero_le _⟩ (t_A_constantBit (by omega) (by omega)) rfl rfl (Nat.le_of_ble_eq_true rfl) ?_
      refine x_ishl (pc := 99) d_A_loadOperand_99 ?_
      first | refine x_iastU (pc := 100) d_A_loadOperand_100 16 0 rfl rfl (by omega) (by omega) ?_ | refine x_iastN (pc := 100) d_A_loadOperand_100 16 0 rfl rfl (by omega) (by omega) _ rfl ?_
      refine x_vret (pc := 101) d_A_loadOperand_101 rfl ?_
      first
        | exact ⟨rfl, _, _, (fun j hj => ⟨by simp [upd, hj], by simp [vp_updL, hj]⟩), by rw [upd_self, updL_self]; exact ldok.par g18.1 g18.2 hsl, rfl⟩
        | exact ⟨rfl, _, _, (fun j hj => ⟨by simp [upd, hj], by simp [vp_updL, hj]⟩), by rw [upd_self, updL_self]; exact ldok.lam g68.1 g68.2 hc, rfl⟩
        | exact ⟨rfl, _, _, (fun j hj => ⟨by simp [upd, hj], by simp [vp_updL, hj]⟩), by rw [upd_self, updL_self]; exact ldok.con hcn, rfl⟩
    · intro h68
      have g68 := of_decide_eq_true h68
      refine x_aload_n (pc := 71) d_A_loadOperand_71 0 rfl ?_
      refine x_get (pc := 72) (ci := 0) d_A_loadOperand_72 in_A rfl 4 (by decide) k_A_22 3 rfl rfl ?_
      refine x_iload_n (pc := 75) d_A_loadOperand_75 1 rfl ?_
      refine x_iload_n (pc := 76) d_A_loadOperand_76 2 rfl ?_
      refine x_sipush (pc := 77) (nI 200) d_A_loadOperand_77 (by decide) ?_
      first | refine x_isubN (pc := 80) d_A_loadOperand_80 (by omega) ?_ | refine x_isub (pc := 80) d_A_loadOperand_80 ?_
      refine x_iload_n (pc := 81) d_A_loadOperand_81 3 rfl ?_
      refine x_callS_L (pc := 82) d_A_loadOperand_82 k_A_55 ws_A_pair w_A_pair ini_A wd_A_pair ⟨by decide, by decide⟩ ⟨rfl, rfl⟩ ⟨Nat.zero_le _, Nat.zero_le _⟩ (t_A_pair) rfl rfl (Nat.le_of_ble_eq_true rfl) ?_
      refine x_lastN (pc := 85) d_A_loadOperand_85 17 1 rfl rfl (by omega) (by omega) (_) (rfl) ?_
      refine x_goto (pc := 86) (tgt := 101) d_A_loadOperand_86 rfl ?_
      refine x_vret (pc := 101) d_A_loadOperand_101 rfl ?_
      first
        | exact ⟨rfl, _, _, (fun j hj => ⟨by simp [upd, hj], by simp [vp_updL, hj]⟩), by rw [upd_self, updL_self]; exact ldok.par g18.1 g18.2 hsl, rfl⟩
        | exact ⟨rfl, _, _, (fun j hj => ⟨by simp [upd, hj], by simp [vp_updL, hj]⟩), by rw [upd_self, updL_self]; exact ldok.lam g68.1 g68.2 hc, rfl⟩
        | exact ⟨rfl, _, _, (fun j hj => ⟨by simp [upd, hj], by simp [vp_updL, hj]⟩), by rw [upd_self, updL_self]; exact ldok.con hcn, rfl⟩
  · intro h18
    have g18 := of_decide_eq_true h18
    have hpi : (atm (4 * lx + i) - 100) % 10 < 3 := by
      rcases hok with q | q | ⟨_, _, q3, q4, _⟩ | q
      · omega
      · omega
      · have := hw.2.2.2.1 _ (show (atm (4 * lx + i) - 100) / 10 < 8 by omega)
        omega
      · omega
    have hsl := sl_lt (m := (atm (4 * lx + i) - 100) / 10) (by omega) hpi hc
    refine x_iload_n (pc := 21) d_A_loadOperand_21 2 rfl ?_
    refine x_callSN_I (pc := 22) d_A_loadOperand_22 k_A_121 ws_C_lambdaOfParameter w_C_lambdaOfParameter ini_C wd_C_lambdaOfParameter ⟨by decide, by decide⟩ ⟨rfl, rfl⟩ ⟨Nat.zero_le _, Nat.zero_le _⟩ (t_C_lambdaOfParameter g18.1 (by omega)) rfl rfl (Nat.le_of_ble_eq_true rfl) ?_
    refine x_iload_n (pc := 25) d_A_loadOperand_25 2 rfl ?_
    refine x_callSN_I (pc := 26) d_A_loadOperand_26 k_A_124 ws_C_indexOfParameter w_C_indexOfParameter ini_C wd_C_indexOfParameter ⟨by decide, by decide⟩ ⟨rfl, rfl⟩ ⟨Nat.zero_le _, Nat.zero_le _⟩ (t_C_indexOfParameter g18.1 (by omega)) rfl rfl (Nat.le_of_ble_eq_true rfl) ?_
    refine x_iload_n (pc := 29) d_A_loadOperand_29 3 rfl ?_
    refine x_callS_I (pc := 30) d_A_loadOperand_30 k_A_48 ws_A_slot w_A_slot ini_A wd_A_slot ⟨by decide, by decide⟩ ⟨rfl, rfl⟩ ⟨Nat.zero_le _, Nat.zero_le _⟩ (t_A_slot) rfl rfl (Nat.le_of_ble_eq_true rfl) ?_
    refine x_istore (pc := 33) d_A_loadOperand_33 (by decide) [(4, _), (0, _), (1, _), (2, _), (3, _)] rfl ?_
    refine x_aload_n (pc := 35) d_A_loadOperand_35 1 rfl ?_
    refine x_get (pc := 36) (ci := 0) d_A_loadOperand_36 in_A rfl 3 (by decide) k_A_19 3 rfl rfl ?_
    refine x_iload_n (pc := 39) d_A_loadOperand_39 2 rfl ?_
    refine x_aload_n (pc := 40) d_A_loadOperand_40 1 rfl ?_
    refine x_get (pc := 41) (ci := 0) d_A_loadOperand_41 in_A rfl 1 (by decide) k_A_11 3 rfl rfl ?_
    refine x_iload (pc := 44) d_A_loadOperand_44 0 rfl ?_
    refine x_ialdN (pc := 46) d_A_loadOperand_46 14 0 rfl rfl (by omega) (by omega) ?_
    first | refine x_iastU (pc := 47) d_A_loadOperand_47 16 0 rfl rfl (by omega) (by omega) ?_ | refine x_iastN (pc := 47) d_A_loadOperand_47 16 0 rfl rfl (by omega) (by omega) _ rfl ?_
    refine x_aload_n (pc := 48) d_A_loadOperand_48 1 rfl ?_
    refine x_get (pc := 49) (ci := 0) d_A_loadOperand_49 in_A rfl 4 (by decide) k_A_22 3 rfl rfl ?_
    refine x_iload_n (pc := 52) d_A_loadOperand_52 2 rfl ?_
    refine x_aload_n (pc := 53) d_A_loadOperand_53 1 rfl ?_
    refine x_get (pc := 54) (ci := 0) d_A_loadOperand_54 in_A rfl 2 (by decide) k_A_15 3 rfl rfl ?_
    refine x_iload (pc := 57) d_A_loadOperand_57 0 rfl ?_
    refine x_laldN (pc := 59) d_A_loadOperand_59 15 1 rfl rfl (by omega) (by omega) ?_
    refine x_lastN (pc := 60) d_A_loadOperand_60 17 1 rfl rfl (by omega) (by omega) (_) (rfl) ?_
    refine x_goto (pc := 61) (tgt := 101) d_A_loadOperand_61 rfl ?_
    refine x_vret (pc := 101) d_A_loadOperand_101 rfl ?_
    first
      | exact ⟨rfl, _, _, (fun j hj => ⟨by simp [upd, hj], by simp [vp_updL, hj]⟩), by rw [upd_self, updL_self]; exact ldok.par g18.1 g18.2 hsl, rfl⟩
      | exact ⟨rfl, _, _, (fun j hj => ⟨by simp [upd, hj], by simp [vp_updL, hj]⟩), by rw [upd_self, updL_self]; exact ldok.lam g68.1 g68.2 hc, rfl⟩
      | exact ⟨rfl, _, _, (fun j hj => ⟨by simp [upd, hj], by simp [vp_updL, hj]⟩), by rw [upd_self, updL_self]; exact ldok.con hcn, rfl⟩
set_option maxHeartbeats 4000000 in
set_option maxRecDepth 100000 in
theorem t_A_loadSums {f1 f2 : Int32} (h2 : ∀ y, bt f2 y = true → y < 10) : CT l y_A_loadSums c_A_loadSums 6 (some .boolean) (rmm 1 21) (gG D cI cL) [.ref (ad 3), .int f1, .int f2] (wC ad cI cL par prm lin siz atm cnt own out bnd cal opr n ph oc P Q OC OP F S R vis nc gr md) (fun v w2 => ∃ sm, (∀ b, bt sm b = true ↔ asum (fun x => bt f1 x = true) (fun y => bt f2 y = true) b) ∧ v = some (.int (bI (decide (¬ sm = 0)))) ∧ w2 = (wC ad cI cL par prm lin siz atm cnt own out bnd cal opr n ph oc P Q (upd OC 4 sm) OP F S R vis nc gr md)) := by
  refine CT.of R_A (by decide) rfl (Nat.le_of_ble_eq_true rfl) ?_
  intro E A hname
  refine x_iconst (pc := 0) (nI 0) d_A_loadSums_0 (by decide) ?_
  refine x_istore_n (pc := 1) d_A_loadSums_1 rfl (by decide) [(3, _), (0, _), (1, _), (2, _)] rfl ?_
  refine x_iconst (pc := 2) (nI 0) d_A_loadSums_2 (by decide) ?_
  refine x_istore (pc := 3) d_A_loadSums_3 (by decide) [(4, _), (3, _), (0, _), (1, _), (2, _)] rfl ?_
  have hlp : ∀ (fuel : Nat) (i : Nat) (s : Int32), 10 - i < fuel → (i ≤ 10) → (∀ b, bt s b = true ↔ ∃ x, x < i ∧ bt f1 x = true ∧ ∃ y, y < 10 ∧ bt f2 y = true ∧ b = (x + y) % 10) → xj E l (rmm 1 21) c_A_loadSums 6 (some .boolean) R_A (gG D cI cL) A 0 0 (fun v w2 => ∃ sm, (∀ b, bt sm b = true ↔ asum (fun x => bt f1 x = true) (fun y => bt f2 y = true) b) ∧ v = some (.int (bI (decide (¬ sm = 0)))) ∧ w2 = (wC ad cI cL par prm lin siz atm cnt own out bnd cal opr n ph oc P Q (upd OC 4 sm) OP F S R vis nc gr md)) 0 0 (wC ad cI cL par prm lin siz atm cnt own out bnd cal opr n ph oc P Q OC OP F S R vis nc gr md) 5 [(4, .int (nI i)), (3, .int s), (0, .ref (ad 3)), (1, .int f1), (2, .int f2)] [] := by
    intro fuel
    induction fuel with
    | zero => intro i s hf; exact absurd hf (Nat.not_lt_zero _)
    | succ fuel ih =>
      intro i s hf hi hs
      refine x_iload (pc := 5) d_A_loadSums_5 0 rfl ?_
      refine x_bipush (pc := 7) (nI 10) d_A_loadSums_7 (by decide) ?_
      first | refine x_icmp_geN (pc := 9) (tgt := 48) d_A_loadSums_9 rfl (by omega) (by omega) ?_ ?_ | refine x_icmp_ge (pc := 9) (tgt := 48) d_A_loadSums_9 rfl ?_ ?_
      · intro h9
        refine x_aload_n (pc := 48) d_A_loadSums_48 2 rfl ?_
        refine x_get (pc := 49) (ci := 0) d_A_loadSums_49 in_A rfl 3 (by decide) k_A_19 3 rfl rfl ?_
        refine x_iconst (pc := 52) (nI 4) d_A_loadSums_52 (by decide) ?_
        refine x_iload_n (pc := 53) d_A_loadSums_53 1 rfl ?_
        first | refine x_iastU (pc := 54) d_A_loadSums_54 16 0 rfl rfl (by omega) (by omega) ?_ | refine x_iastN (pc := 54) d_A_loadSums_54 16 0 rfl rfl (by omega) (by omega) _ rfl ?_
        refine x_iload_n (pc := 55) d_A_loadSums_55 1 rfl ?_
        first | refine x_if_eqB (pc := 56) (tgt := 63) d_A_loadSums_56 rfl ?_ ?_ | refine x_if_eqL (pc := 56) (tgt := 63) d_A_loadSums_56 rfl ?_ ?_ | refine x_if_eqN (pc := 56) (tgt := 63) d_A_loadSums_56 rfl (by omega) ?_ ?_ | refine x_if_eq (pc := 56) (tgt := 63) d_A_loadSums_56 rfl ?_ ?_
        · intro h56
          refine x_iconst (pc := 63) (nI 0) d_A_loadSums_63 (by decide) ?_
          refine x_zret (pc := 64) d_A_loadSums_64 rfl (by first | rfl | exact bI_narrow _) ?_
          have e1 : i = 10 := by omega
          rw [e1] at hs
          have hsum : ∀ b, bt s b = true ↔ asum (fun x => bt f1 x = true) (fun y => bt f2 y = true) b := sum_asum hs
          first
            | exact ⟨s, hsum, by rw [decide_eq_true h56]; rfl, rfl⟩
            | exact ⟨s, hsum, by rw [decide_eq_false (fun q => q h56)]; rfl, rfl⟩
        · intro h56
          refine x_iconst (pc := 59) (nI 1) d_A_loadSums_59 (by decide) ?_
          refine x_goto (pc := 60) (tgt := 64) d_A_loadSums_60 rfl ?_
          refine x_zret (pc := 64) d_A_loadSums_64 rfl (by first | rfl | exact bI_narrow _) ?_
          have e1 : i = 10 := by omega
          rw [e1] at hs
          have hsum : ∀ b, bt s b = true ↔ asum (fun x => bt f1 x = true) (fun y => bt f2 y = true) b := sum_asum hs
          first
            | exact ⟨s, hsum, by rw [decide_eq_true h56]; rfl, rfl⟩
            | exact ⟨s, hsum, by rw [decide_eq_false (fun q => q h56)]; rfl, rfl⟩
      · intro h9
        refine x_iload_n (pc := 12) d_A_loadSums_12 3 rfl ?_
        refine x_iload (pc := 13) d_A_loadSums_13 0 rfl ?_
        refine x_callSN_I (pc := 15) d_A_loadSums_15 k_A_110 ws_C_has w_C_has ini_C wd_C_has ⟨by decide, by decide⟩ ⟨rfl, rfl⟩ ⟨Nat.zero_le _, Nat.zero_le _⟩ (t_C_has (by omega)) rfl rfl (Nat.le_of_ble_eq_true rfl) ?_
        first | refine x_if_eqB (pc := 18) (tgt := 42) d_A_loadSums_18 rfl ?_ ?_ | refine x_if_eqL (pc := 18) (tgt := 42) d_A_loadSums_18 rfl ?_ ?_ | refine x_if_eqN (pc := 18) (tgt := 42) d_A_loadSums_18 rfl (by omega) ?_ ?_ | refine x_if_eq (pc := 18) (tgt := 42) d_A_loadSums_18 rfl ?_ ?_
        · intro h18
          refine x_iincN (pc := 42) d_A_loadSums_42 0 rfl (by decide) [(4, _), (3, _), (0, _), (1, _), (2, _)] rfl ?_
          refine x_goto (pc := 45) (tgt := 5) d_A_loadSums_45 rfl ?_
          refine x_sub [0, 1, 2, 3, 4] _ rfl ?_
          first
            | exact ih (i + 1) _ (by omega) (by omega) (sum_next hs h18 (by omega) h2)
            | exact ih (i + 1) s (by omega) (by omega) (sum_same hs h18)
        · intro h18
          refine x_iload_n (pc := 21) d_A_loadSums_21 4 rfl ?_
          refine x_iload (pc := 22) d_A_loadSums_22 0 rfl ?_
          refine x_ishl (pc := 24) d_A_loadSums_24 ?_
          refine x_istore (pc := 25) d_A_loadSums_25 (by decide) [(5, _), (4, _), (3, _), (0, _), (1, _), (2, _)] rfl ?_
          refine x_iload_n (pc := 27) d_A_loadSums_27 2 rfl ?_
          refine x_iload (pc := 28) d_A_loadSums_28 0 rfl ?_
          refine x_iload (pc := 30) d_A_loadSums_30 0 rfl ?_
          refine x_bipush (pc := 32) (nI 10) d_A_loadSums_32 (by decide) ?_
          refine x_iushr (pc := 34) d_A_loadSums_34 ?_
          refine x_ior (pc := 35) d_A_loadSums_35 ?_
          refine x_sipush (pc := 36) (nI 1023) d_A_loadSums_36 (by decide) ?_
          refine x_iand (pc := 39) d_A_loadSums_39 ?_
          refine x_ior (pc := 40) d_A_loadSums_40 ?_
          refine x_istore_n (pc := 41) d_A_loadSums_41 rfl (by decide) [(3, _), (5, _), (4, _), (0, _), (1, _), (2, _)] rfl ?_
          refine x_iincN (pc := 42) d_A_loadSums_42 2 rfl (by decide) [(4, _), (3, _), (5, _), (0, _), (1, _), (2, _)] rfl ?_
          refine x_goto (pc := 45) (tgt := 5) d_A_loadSums_45 rfl ?_
          refine x_sub [0, 1, 3, 4, 5] _ rfl ?_
          first
            | exact ih (i + 1) _ (by omega) (by omega) (sum_next hs h18 (by omega) h2)
            | exact ih (i + 1) s (by omega) (by omega) (sum_same hs h18)
  refine x_sub [0, 1, 2, 3, 4] _ rfl ?_
  refine hlp 11 0 (nI 0) (by omega) (by omega) (fun b => ?_)
  rw [b_n0]
  exact ⟨fun q => (by cases q), fun q => (by obtain ⟨x, hx, _⟩ := q; omega)⟩
end ANA2
end
section
/-! Rows for visit -/
def aN1 (cnt : Nat) (par : Nat → Int32) (prm : Nat → Nat) (n to l : Nat) (C B : Nat → Nat → Prop) (X Y : AX) : Prop := acalls cnt (anc par) prm l to (n - 1) (B 0) (fun i => C (1 + i)) (fun i => B (1 + i)) X Y ∧ (n = 2 → C 0 10 → ares (C 1) (B 1) Y)
def aN2 (cnt : Nat) (par : Nat → Int32) (prm : Nat → Nat) (n to l : Nat) (C B : Nat → Nat → Prop) (X Y : AX) : Prop := n = 4 → C 0 11 → (∃ b, asum (C 1) (C 2) b) → acalls cnt (anc par) prm l to 1 (B 3) (fun _ => asum (C 1) (C 2)) ano X Y ∧ (C 3 10 → ares (asum (C 1) (C 2)) (fun _ => False) Y)
def aN3 (cnt : Nat) (par : Nat → Int32) (prm : Nat → Nat) (n to l : Nat) (C B : Nat → Nat → Prop) (X Y : AX) : Prop := n = 4 → C 0 12 → C 1 0 → acalls cnt (anc par) prm l to 0 (B 2) ano ano X Y
def aN4 (cnt : Nat) (par : Nat → Int32) (prm : Nat → Nat) (n to l : Nat) (C B : Nat → Nat → Prop) (X Y : AX) : Prop := n = 4 → C 0 12 → (∃ b, 1 ≤ b ∧ b < 10 ∧ C 1 b) → acalls cnt (anc par) prm l to 0 (B 3) ano ano X Y
section AV
variable {cnt : Nat} {par : Nat → Int32} {prm : Nat → Nat} {n to l : Nat} {C B : Nat → Nat → Prop}
theorem aN1.amon : amon (aN1 cnt par prm n to l C B) := fun X0 X Y Z a b q => ⟨acalls.amon _ _ _ _ _ _ _ _ _ X0 X Y Z a b q.1, fun e h => ares.amon _ _ X0 X Y Z a b (q.2 e h)⟩
theorem aN2.amon : amon (aN2 cnt par prm n to l C B) := fun X0 X Y Z a b q e h s => ⟨acalls.amon _ _ _ _ _ _ _ _ _ X0 X Y Z a b (q e h s).1, fun r => ares.amon _ _ X0 X Y Z a b ((q e h s).2 r)⟩
theorem aN3.amon : amon (aN3 cnt par prm n to l C B) := fun X0 X Y Z a b q e h s => acalls.amon _ _ _ _ _ _ _ _ _ X0 X Y Z a b (q e h s)
theorem aN4.amon : amon (aN4 cnt par prm n to l C B) := fun X0 X Y Z a b q e h s => acalls.amon _ _ _ _ _ _ _ _ _ X0 X Y Z a b (q e h s)
theorem avis_all {g g1 g2 g3 g4 : Bool} {X X1 X2 X3 X4 : AX} (h1 : apc (aN1 cnt par prm n to l C B) g X g1 X1) (h2 : apc (aN2 cnt par prm n to l C B) g1 X1 g2 X2) (h3 : apc (aN3 cnt par prm n to l C B) g2 X2 g3 X3) (h4 : apc (aN4 cnt par prm n to l C B) g3 X3 g4 X4) : apc (avisS cnt (anc par) prm n to l C B) g X g4 X4 :=
  (apc.seq (amon.and (amon.and aN1.amon aN2.amon) aN3.amon) aN4.amon (apc.seq (amon.and aN1.amon aN2.amon) aN3.amon (apc.seq aN1.amon aN2.amon h1 h2) h3) h4).conv (fun Z _ q => ⟨⟨⟨⟨q.1, q.2.1⟩, q.2.2.1⟩, q.2.2.2.1⟩, q.2.2.2.2⟩) (fun q => ⟨q.1.1.1.1, q.1.1.1.2, q.1.1.2, q.1.2, q.2⟩)
end AV
section AD
variable {cnt : Nat} {par : Nat → Int32} {prm : Nat → Nat} {n to l : Nat} {OC : Nat → Int32} {OP : Nat → Int64} {g g' : Bool} {X Y : AX}
abbrev cC (OC : Nat → Int32) (i b : Nat) : Prop := bt (OC i) b = true
abbrev cB (OP : Nat → Int64) (i b : Nat) : Prop := bl (OP i) b = true
theorem adir_1 (hn : 0 < n) (h : apc (adir cnt par prm l to (n - 1) (OC 0) (OP 0) (OC 1) (OP 1) (fun i b => bt (OC (1 + i)) b = true) (fun i b => bl (OP (1 + i)) b = true)) g X g' Y) : apc (aN1 cnt par prm n to l (cC OC) (cB OP)) g X g' Y :=
  h.conv (fun Z _ q => ⟨fun e => q.2 (by omega), q.1⟩) (fun q => ⟨q.2, fun e => q.1 (by omega)⟩)
theorem adir_2 {sm : Int32} {OC3 : Nat → Int32} (h3 : OC3 3 = OC 3) (h4 : OC3 4 = sm) (hO4 : OP 4 = 0) (hsm : ∀ b, bt sm b = true ↔ asum (cC OC 1) (cC OC 2) b) (hne : ¬ sm = 0) (h11 : n = 4 ∧ bt (OC 0) 11 = true) (h : apc (adir cnt par prm l to 1 (OC3 3) (OP 3) (OC3 4) (OP 4) (fun i b => bt (OC3 (4 + i)) b = true) (fun i b => bl (OP (4 + i)) b = true)) g X g' Y) : apc (aN2 cnt par prm n to l (cC OC) (cB OP)) g X g' Y := by
  obtain ⟨b0, hb0⟩ := b_ne0 hne
  have hs0 := (hsm b0).mp hb0
  refine h.conv (fun Z _ q => ?_) (fun q _ _ _ => ?_)
  · obtain ⟨q1, q2⟩ := q h11.1 h11.2 ⟨b0, hs0⟩
    refine ⟨fun _ hb => (q2 (by rw [h3] at hb; exact hb)).less (fun b hb => (hsm b).mp (by rw [h4] at hb; exact hb)) (fun b hb => by rw [hO4, l_0] at hb; cases hb), q1.less (fun _ hb => hb) (fun i b hi hb => ?_) (fun i b hi hb => ?_)⟩
    · have : i = 0 := by omega
      subst this
      exact (hsm b).mp (by rw [← h4]; exact hb)
    · have : i = 0 := by omega
      subst this
      have hb : bl (OP 4) b = true := hb
      rw [hO4, l_0] at hb
      cases hb
  · refine ⟨q.2.less (fun _ hb => hb) (fun i b hi hb => ?_) (fun i b hi hb => hb.elim), fun hb => (q.1 rfl (by rw [h3]; exact hb)).less (fun b hb => by rw [h4]; exact (hsm b).mpr hb) (fun b hb => hb.elim)⟩
    have : i = 0 := by omega
    subst this
    show bt (OC3 4) b = true
    rw [h4]
    exact (hsm b).mpr hb
theorem adir_3 {oc fc : Int32} {fp : Int64} {C2 B2 : Nat → Nat → Prop} {op : Nat} (h : apc (adir cnt par prm l to 0 oc (OP op) fc fp C2 B2) g X g' Y) : apc (acalls cnt (anc par) prm l to 0 (cB OP op) ano ano) g X g' Y :=
  h.conv (fun Z _ q => ⟨fun e => absurd e (by decide), q.less (fun _ hb => hb) (fun i b hi _ => absurd hi (Nat.not_lt_zero i)) (fun i b hi _ => absurd hi (Nat.not_lt_zero i))⟩) (fun q => q.2.less (fun _ hb => hb) (fun i b hi _ => absurd hi (Nat.not_lt_zero i)) (fun i b hi _ => absurd hi (Nat.not_lt_zero i)))
end AD
theorem an_p_lt {cnt : Nat} {par : Nat → Int32} {prm siz atm : Nat → Nat} (hw : pwf cnt par prm siz atm) {P : Nat → Int32} {Q : Nat → Int64} {S : Int64} {F : Nat → Int32} {R : Int32} (hQ : ∀ s q, s < 192 → bl (Q s) q = true → q < 8 * cnt) {l c i q : Nat} (hl : l < cnt) (hc : c < 8) (hi : i < siz l) (h : an_p atm (ofw P Q S F R) l c i q) : q < 8 * cnt := by
  rcases h with ⟨h1, h2, h3⟩ | ⟨_, _, h3⟩
  · have := hw.awf l i hl hi h1 h2
    omega
  · exact hQ _ _ h3.1 h3.2
theorem nI_and (w : Int32) (m : Nat) (hm : m < 2147483648) : ∃ t, t ≤ m ∧ w &&& nI m = nI t ∧ ∀ b, bt (w &&& nI m) b = t.testBit b := by
  refine ⟨w.toBitVec.toNat &&& m, Nat.and_le_right, ?_, fun b => ?_⟩
  · apply Int32.toBitVec_inj.mp
    apply BitVec.eq_of_toNat_eq
    rw [Int32.toBitVec_and, BitVec.toNat_and]
    show w.toBitVec.toNat &&& (BitVec.ofNat 32 m).toNat = (BitVec.ofNat 32 (w.toBitVec.toNat &&& m)).toNat
    have h1 : w.toBitVec.toNat &&& m ≤ m := Nat.and_le_right
    rw [BitVec.toNat_ofNat, BitVec.toNat_ofNat, Nat.mod_eq_of_lt (by omega), Nat.mod_eq_of_lt (by omega)]
  · unfold bt
    rw [Int32.toBitVec_and]
    show (w.toBitVec &&& BitVec.ofNat 32 m).toNat.testBit b = _
    rw [BitVec.toNat_and, BitVec.toNat_ofNat, Nat.mod_eq_of_lt (by omega)]
theorem gt1 {w : Int32} : (¬ (w &&& nI 1023) ≤ nI 1) ↔ ∃ b, 1 ≤ b ∧ b < 10 ∧ bt w b = true := by
  obtain ⟨t, h1, h2, h3⟩ := nI_and w 1023 (by omega)
  have hb : ∀ b, b < 10 → bt w b = t.testBit b := by
    intro b hb
    rw [← h3 b, b_and, b_1023, decide_eq_true hb, Bool.and_true]
  rw [h2, nI_leI (by omega) (by omega)]
  constructor
  · intro q
    refine Classical.byContradiction (fun hn => q ?_)
    have key : ∀ b, 1 ≤ b → t.testBit b = false := by
      intro b hb1
      by_cases hb2 : b < 10
      · exact Bool.of_not_eq_true (fun z => hn ⟨b, hb1, hb2, by rw [hb b hb2]; exact z⟩)
      · exact Nat.testBit_lt_two_pow (Nat.lt_of_lt_of_le (show t < 2 ^ 10 by omega) (Nat.pow_le_pow_right (by omega) (by omega)))
    have : t / 2 = 0 := by
      apply Nat.eq_of_testBit_eq
      intro i
      rw [Nat.testBit_div_two, key (i + 1) (by omega), Nat.zero_testBit]
    omega
  · intro q z
    obtain ⟨b, b1, b2, b3⟩ := q
    rw [hb b b2] at b3
    have : t.testBit b = false := Nat.testBit_lt_two_pow (Nat.lt_of_lt_of_le (show t < 2 ^ 1 by omega) (Nat.pow_le_pow_right (by omega) b1))
    rw [this] at b3
    cases b3
theorem sum_mask {f1 f2 sm : Int32} (h : ∀ b, bt sm b = true ↔ asum (fun x => bt (f1 &&& nI 1023) x = true) (fun y => bt (f2 &&& nI 1023) y = true) b) : ∀ b, bt sm b = true ↔ asum (fun x => bt f1 x = true) (fun y => bt f2 y = true) b := by
  intro b
  rw [h b]
  constructor
  · intro q
    obtain ⟨x, y, q1, q2, q3, q4, q5⟩ := q
    rw [b_and, Bool.and_eq_true_iff] at q3 q4
    exact ⟨x, y, q1, q2, q3.1, q4.1, q5⟩
  · intro q
    obtain ⟨x, y, q1, q2, q3, q4, q5⟩ := q
    refine ⟨x, y, q1, q2, ?_, ?_, q5⟩
    · show bt (f1 &&& nI 1023) x = true
      rw [b_and, b_1023, Bool.and_eq_true_iff]
      exact ⟨q3, decide_eq_true q1⟩
    · show bt (f2 &&& nI 1023) y = true
      rw [b_and, b_1023, Bool.and_eq_true_iff]
      exact ⟨q4, decide_eq_true q2⟩
theorem mask_lt {f : Int32} (y : Nat) (h : bt (f &&& nI 1023) y = true) : y < 10 := by
  rw [b_and, b_1023, Bool.and_eq_true_iff] at h
  exact of_decide_eq_true h.2
/-- the operators that are looked at: none where the call hasn't four atoms -/
def opw (n : Nat) (w : Int32) : Int32 := if n = 4 then w else nI 0
theorem opw_t {n : Nat} {w : Int32} {b : Nat} (h : bt (opw n w) b = true) : n = 4 ∧ bt w b = true := by
  unfold opw at h
  by_cases e : n = 4
  · rw [if_pos e] at h
    exact ⟨e, h⟩
  · rw [if_neg e, b_n0] at h
    cases h
theorem opw_f {n : Nat} {w : Int32} {b : Nat} (h : bt (opw n w) b = false) (e : n = 4) : bt w b = false := by
  unfold opw at h
  rw [if_pos e] at h
  exact h
theorem mask_0 {w : Int32} (h : bt (w &&& nI 1023) 0 = true) : bt w 0 = true := by
  rw [b_and, Bool.and_eq_true_iff] at h
  exact h.1
theorem mask_0f {w : Int32} (h : bt (w &&& nI 1023) 0 = false) : bt w 0 = false := by
  rw [b_and, b_1023, decide_eq_true (by omega), Bool.and_true] at h
  exact h
theorem sum_none {sm : Int32} {C D : Nat → Prop} (h : ∀ b, bt sm b = true ↔ asum C D b) (h0 : decide (¬ sm = 0) = false) (s : ∃ b, asum C D b) : False := by
  obtain ⟨b, hb⟩ := s
  have h1 := (h b).mpr hb
  have h2 := of_decide_eq_false h0
  have h3 : sm = 0 := Classical.byContradiction (fun z => h2 z)
  rw [h3, b_0] at h1
  cases h1
end
section
section ANA3
variable {l : Launch} {D : va_G} {ad : Nat → Nat} {cI cL : ClassId} {par : Nat → Int32} {prm : Nat → Nat} {lin : Nat → Int32} {siz atm : Nat → Nat} {cnt : Nat} {own out bnd : Nat → Nat} {cal : Nat → Int32} {opr : Nat → Nat} {n ph oc : Nat} {P : Nat → Int32} {Q : Nat → Int64} {OC : Nat → Int32} {OP : Nat → Int64} {F : Nat → Int32} {S : Int64} {R : Int32} {vis nc : Nat} {gr md : Bool}
set_option maxHeartbeats 4000000 in
set_option maxRecDepth 100000 in
theorem t_A_visit {lx c k : Nat} (hw : pwf cnt par prm siz atm) (hli : linok cnt par lin) (hlx : lx < cnt) (hc : c < 8) (hk : k ≤ 1) (hO4 : OP 4 = 0) (hQ : ∀ s q, s < 192 → bl (Q s) q = true → q < 8 * cnt) : CT l y_A_visit c_A_visit 7 none (rmm 4 102) (gG D cI cL) [.ref (ad 3), .int (nI lx), .int (nI c), .int (nI k)] (wC ad cI cL par prm lin siz atm cnt own out bnd cal opr n ph oc P Q OC OP F S R vis nc gr md) (fun v w2 => v = none ∧ ∃ P2 Q2 S2 F2 R2 g2 OC2 OP2 vis2 nc2, apc (fun X Y => 0 < siz lx → avis cnt (anc par) prm siz atm k lx c X Y) gr (ofw P Q S F R) g2 (ofw P2 Q2 S2 F2 R2) ∧ OP2 4 = 0 ∧ w2 = (wC ad cI cL par prm lin siz atm cnt own out bnd cal opr n ph oc P2 Q2 OC2 OP2 F2 S2 R2 vis2 nc2 g2 md)) := by
  refine CT.of R_A (by decide) rfl (Nat.le_of_ble_eq_true rfl) ?_
  intro E A hname
  have hc8 : cnt ≤ 8 := hw.2.1
  have hlx8 : lx < 8 := by omega
  have hz4 := hw.2.2.2.2.2.1 lx hlx8
  have hto : (if k = 1 then lx else 0) < 8 := by split <;> omega
  have hc32 : (¬ siz lx = 0) → xj E l (rmm 4 102) c_A_visit 7 none R_A (gG D cI cL) A 0 0 (fun v w2 => v = none ∧ ∃ P2 Q2 S2 F2 R2 g2 OC2 OP2 vis2 nc2, apc (fun X Y => 0 < siz lx → avis cnt (anc par) prm siz atm k lx c X Y) gr (ofw P Q S F R) g2 (ofw P2 Q2 S2 F2 R2) ∧ OP2 4 = 0 ∧ w2 = (wC ad cI cL par prm lin siz atm cnt own out bnd cal opr n ph oc P2 Q2 OC2 OP2 F2 S2 R2 vis2 nc2 g2 md)) 0 0 (wC ad cI cL par prm lin siz atm cnt own out bnd cal opr n ph oc P Q OC OP F S R lx nc gr md) 32 [(4, .int (nI (siz lx))), (0, .ref (ad 3)), (1, .int (nI lx)), (2, .int (nI c)), (3, .int (nI k))] [.int (nI (if k = 1 then lx else 0)), .ref (ad 3)] := by
    intro hz
    refine x_put (pc := 32) (ci := 0) (ty := .int) d_A_visit_32 in_A t_A ty_A nm_A rfl 9 (by decide) k_A_94 rfl (by decide +kernel) rfl rfl 3 rfl (Nat.le_of_ble_eq_true rfl) (_) (rfl) ?_
    refine x_iconst (pc := 35) (nI 0) d_A_visit_35 (by decide) ?_
    refine x_istore (pc := 36) d_A_visit_36 (by decide) [(5, _), (4, _), (0, _), (1, _), (2, _), (3, _)] rfl ?_
    have hlp : ∀ (fuel : Nat) (i : Nat) (OC1 : Nat → Int32) (OP1 : Nat → Int64), siz lx - i < fuel → (i ≤ siz lx) → (∀ j, j < i → ldok atm (ofw P Q S F R) lx c j (OC1 j) (OP1 j)) → (OP1 4 = 0) → xj E l (rmm 4 102) c_A_visit 7 none R_A (gG D cI cL) A 0 0 (fun v w2 => v = none ∧ ∃ P2 Q2 S2 F2 R2 g2 OC2 OP2 vis2 nc2, apc (fun X Y => 0 < siz lx → avis cnt (anc par) prm siz atm k lx c X Y) gr (ofw P Q S F R) g2 (ofw P2 Q2 S2 F2 R2) ∧ OP2 4 = 0 ∧ w2 = (wC ad cI cL par prm lin siz atm cnt own out bnd cal opr n ph oc P2 Q2 OC2 OP2 F2 S2 R2 vis2 nc2 g2 md)) 0 0 (wC ad cI cL par prm lin siz atm cnt own out bnd cal opr n ph oc P Q OC1 OP1 F S R lx (if k = 1 then lx else 0) gr md) 38 [(5, .int (nI i)), (4, .int (nI (siz lx))), (0, .ref (ad 3)), (1, .int (nI lx)), (2, .int (nI c)), (3, .int (nI k))] [] := by
      intro fuel
      induction fuel with
      | zero => intro i OC1 OP1 hf; exact absurd hf (Nat.not_lt_zero _)
      | succ fuel ih =>
        intro i OC1 OP1 hf hi hld ho4
        refine x_iload (pc := 38) d_A_visit_38 0 rfl ?_
        refine x_iload (pc := 40) d_A_visit_40 1 rfl ?_
        first | refine x_icmp_geN (pc := 42) (tgt := 68) d_A_visit_42 rfl (by omega) (by omega) ?_ ?_ | refine x_icmp_ge (pc := 42) (tgt := 68) d_A_visit_42 rfl ?_ ?_
        · intro h42
          have e1 : i = siz lx := by omega
          have hOO : ∀ j, j < siz lx → ∀ q, bl (OP1 j) q = true → q < 8 * cnt := fun j hj q hq => an_p_lt hw hQ hlx hc hj (((hld j (by omega)).2 q).mp hq)
          clear ih hf
          refine x_aload_n (pc := 68) d_A_visit_68 2 rfl ?_
          refine x_iconst (pc := 69) (nI 0) d_A_visit_69 (by decide) ?_
          refine x_iconst (pc := 70) (nI 1) d_A_visit_70 (by decide) ?_
          refine x_iload (pc := 71) d_A_visit_71 1 rfl ?_
          refine x_iconst (pc := 73) (nI 1) d_A_visit_73 (by decide) ?_
          first | refine x_isubN (pc := 74) d_A_visit_74 (by omega) ?_ | refine x_isub (pc := 74) d_A_visit_74 ?_
          refine x_callV_X (pc := 75) (ci := 0) d_A_visit_75 k_A_104 wi_A_applyDirectly wv_A_applyDirectly w_A_applyDirectly ini_A wd_A_applyDirectly ⟨by decide, by decide⟩ ⟨rfl, rfl⟩ ⟨Nat.zero_le _, Nat.zero_le _⟩ 3 rfl rfl (t_A_applyDirectly (op := 0) (first := 1) hw hli hto hlx8 (by omega) (by omega) (by omega) (hOO 0 (by omega))) rfl rfl (Nat.le_of_ble_eq_true rfl) (fun v75 w75 hp75 => ?_)
          obtain ⟨rfl, Pa, Qa, Sa, Fa, Ra, ga, hap1, rfl⟩ := hp75
          have hn1 := adir_1 (by omega) hap1
          have hc94 : xj E l (rmm 4 102) c_A_visit 7 none R_A (gG D cI cL) A 0 0 (fun v w2 => v = none ∧ ∃ P2 Q2 S2 F2 R2 g2 OC2 OP2 vis2 nc2, apc (fun X Y => 0 < siz lx → avis cnt (anc par) prm siz atm k lx c X Y) gr (ofw P Q S F R) g2 (ofw P2 Q2 S2 F2 R2) ∧ OP2 4 = 0 ∧ w2 = (wC ad cI cL par prm lin siz atm cnt own out bnd cal opr n ph oc P2 Q2 OC2 OP2 F2 S2 R2 vis2 nc2 g2 md)) 0 0 (wC ad cI cL par prm lin siz atm cnt own out bnd cal opr n ph oc Pa Qa OC1 OP1 Fa Sa Ra lx (if k = 1 then lx else 0) ga md) 94 [(4, .int (nI (siz lx))), (0, .ref (ad 3)), (1, .int (nI lx)), (2, .int (nI c)), (3, .int (nI k))] [.int (opw (siz lx) (OC1 0))] := by
            refine x_istore (pc := 94) d_A_visit_94 (by decide) [(5, _), (4, _), (0, _), (1, _), (2, _), (3, _)] rfl ?_
            have hc148 : ∀ (OC3 : Nat → Int32) (Pb : Nat → Int32) (Qb : Nat → Int64) (Sb : Int64) (Fb : Nat → Int32) (Rb : Int32) (gb : Bool), (∀ j, j < 4 → OC3 j = OC1 j) → (apc (aN2 cnt par prm (siz lx) (if k = 1 then lx else 0) lx (cC OC1) (cB OP1)) ga (ofw Pa Qa Sa Fa Ra) gb (ofw Pb Qb Sb Fb Rb)) → xj E l (rmm 4 102) c_A_visit 7 none R_A (gG D cI cL) A 0 0 (fun v w2 => v = none ∧ ∃ P2 Q2 S2 F2 R2 g2 OC2 OP2 vis2 nc2, apc (fun X Y => 0 < siz lx → avis cnt (anc par) prm siz atm k lx c X Y) gr (ofw P Q S F R) g2 (ofw P2 Q2 S2 F2 R2) ∧ OP2 4 = 0 ∧ w2 = (wC ad cI cL par prm lin siz atm cnt own out bnd cal opr n ph oc P2 Q2 OC2 OP2 F2 S2 R2 vis2 nc2 g2 md)) 0 0 (wC ad cI cL par prm lin siz atm cnt own out bnd cal opr n ph oc Pb Qb OC3 OP1 Fb Sb Rb lx (if k = 1 then lx else 0) gb md) 148 [(5, .int (opw (siz lx) (OC1 0))), (6, .int (OC1 1 &&& nI 1023)), (4, .int (nI (siz lx))), (0, .ref (ad 3)), (1, .int (nI lx)), (2, .int (nI c)), (3, .int (nI k))] [] := by
              intro OC3 Pb Qb Sb Fb Rb gb h3 hn2
              have hc178 : ∀ (Pc : Nat → Int32) (Qc : Nat → Int64) (Sc : Int64) (Fc : Nat → Int32) (Rc : Int32) (gc : Bool), (apc (aN3 cnt par prm (siz lx) (if k = 1 then lx else 0) lx (cC OC1) (cB OP1)) gb (ofw Pb Qb Sb Fb Rb) gc (ofw Pc Qc Sc Fc Rc)) → xj E l (rmm 4 102) c_A_visit 7 none R_A (gG D cI cL) A 0 0 (fun v w2 => v = none ∧ ∃ P2 Q2 S2 F2 R2 g2 OC2 OP2 vis2 nc2, apc (fun X Y => 0 < siz lx → avis cnt (anc par) prm siz atm k lx c X Y) gr (ofw P Q S F R) g2 (ofw P2 Q2 S2 F2 R2) ∧ OP2 4 = 0 ∧ w2 = (wC ad cI cL par prm lin siz atm cnt own out bnd cal opr n ph oc P2 Q2 OC2 OP2 F2 S2 R2 vis2 nc2 g2 md)) 0 0 (wC ad cI cL par prm lin siz atm cnt own out bnd cal opr n ph oc Pc Qc OC3 OP1 Fc Sc Rc lx (if k = 1 then lx else 0) gc md) 178 [(5, .int (opw (siz lx) (OC1 0))), (6, .int (OC1 1 &&& nI 1023)), (4, .int (nI (siz lx))), (0, .ref (ad 3)), (1, .int (nI lx)), (2, .int (nI c)), (3, .int (nI k))] [] := by
                intro Pc Qc Sc Fc Rc gc hn3
                refine x_iload (pc := 178) d_A_visit_178 0 rfl ?_
                refine x_sipush (pc := 180) (nI 302) d_A_visit_180 (by decide) ?_
                refine x_callS_I (pc := 183) d_A_visit_183 k_A_107 ws_A_constantBit w_A_constantBit ini_A wd_A_constantBit ⟨by decide, by decide⟩ ⟨rfl, rfl⟩ ⟨Nat.zero_le _, Nat.zero_le _⟩ (t_A_constantBit (x := 302) (Or.inr (by decide)) (by decide)) rfl rfl (Nat.le_of_ble_eq_true rfl) ?_
                rw [show cbit 302 = 12 from rfl]
                refine x_callSN_I (pc := 186) d_A_visit_186 k_A_110 ws_C_has w_C_has ini_C wd_C_has ⟨by decide, by decide⟩ ⟨rfl, rfl⟩ ⟨Nat.zero_le _, Nat.zero_le _⟩ (t_C_has (by decide)) rfl rfl (Nat.le_of_ble_eq_true rfl) ?_
                first | refine x_if_eqB (pc := 189) (tgt := 205) d_A_visit_189 rfl ?_ ?_ | refine x_if_eqL (pc := 189) (tgt := 205) d_A_visit_189 rfl ?_ ?_ | refine x_if_eqN (pc := 189) (tgt := 205) d_A_visit_189 rfl (by omega) ?_ ?_ | refine x_if_eq (pc := 189) (tgt := 205) d_A_visit_189 rfl ?_ ?_
                · intro h189
                  refine x_vret (pc := 205) d_A_visit_205 rfl ?_
                  have fin : ∀ {Xd : AX} {gd : Bool}, apc (aN4 cnt par prm (siz lx) (if k = 1 then lx else 0) lx (cC OC1) (cB OP1)) gc (ofw Pc Qc Sc Fc Rc) gd Xd → apc (fun X Y => 0 < siz lx → avis cnt (anc par) prm siz atm k lx c X Y) gr (ofw P Q S F R) gd Xd := fun h4 => (avis.of (fun j b hj => (hld j (by omega)).1 b) (fun j b hj => (hld j (by omega)).2 b) (avis_all hn1 hn2 hn3 h4)).conv (fun Z _ q => q (by omega)) (fun q _ => q)
                  first
                    | exact ⟨rfl, Pd, Qd, Sd, Fd, Rd, gd, OC3, OP1, _, _, fin ((adir_3 (OP := OP1) (op := 3) hap4).conv (fun _ _ q => q h12b.1 h12b.2 (gt1.mp h195)) (fun q _ _ _ => q)), ho4, rfl⟩
                    | exact ⟨rfl, Pc, Qc, Sc, Fc, Rc, gc, OC3, OP1, _, _, fin ((apc.skip gc _).conv (fun _ _ _ => trivial) (fun _ e q _ => bno (opw_f h189 e) q)), ho4, rfl⟩
                    | exact ⟨rfl, Pc, Qc, Sc, Fc, Rc, gc, OC3, OP1, _, _, fin ((apc.skip gc _).conv (fun _ _ _ => trivial) (fun _ e _ q => absurd h195 (gt1.mpr q))), ho4, rfl⟩
                · intro h189
                  have h12b := opw_t h189
                  refine x_iload (pc := 192) d_A_visit_192 1 rfl ?_
                  refine x_iconst (pc := 194) (nI 1) d_A_visit_194 (by decide) ?_
                  refine x_icmp_le (pc := 195) (tgt := 205) d_A_visit_195 rfl ?_ ?_
                  · intro h195
                    refine x_vret (pc := 205) d_A_visit_205 rfl ?_
                    have fin : ∀ {Xd : AX} {gd : Bool}, apc (aN4 cnt par prm (siz lx) (if k = 1 then lx else 0) lx (cC OC1) (cB OP1)) gc (ofw Pc Qc Sc Fc Rc) gd Xd → apc (fun X Y => 0 < siz lx → avis cnt (anc par) prm siz atm k lx c X Y) gr (ofw P Q S F R) gd Xd := fun h4 => (avis.of (fun j b hj => (hld j (by omega)).1 b) (fun j b hj => (hld j (by omega)).2 b) (avis_all hn1 hn2 hn3 h4)).conv (fun Z _ q => q (by omega)) (fun q _ => q)
                    first
                      | exact ⟨rfl, Pd, Qd, Sd, Fd, Rd, gd, OC3, OP1, _, _, fin ((adir_3 (OP := OP1) (op := 3) hap4).conv (fun _ _ q => q h12b.1 h12b.2 (gt1.mp h195)) (fun q _ _ _ => q)), ho4, rfl⟩
                      | exact ⟨rfl, Pc, Qc, Sc, Fc, Rc, gc, OC3, OP1, _, _, fin ((apc.skip gc _).conv (fun _ _ _ => trivial) (fun _ e q _ => bno (opw_f h189 e) q)), ho4, rfl⟩
                      | exact ⟨rfl, Pc, Qc, Sc, Fc, Rc, gc, OC3, OP1, _, _, fin ((apc.skip gc _).conv (fun _ _ _ => trivial) (fun _ e _ q => absurd h195 (gt1.mpr q))), ho4, rfl⟩
                  · intro h195
                    refine x_aload_n (pc := 198) d_A_visit_198 3 rfl ?_
                    refine x_iconst (pc := 199) (nI 3) d_A_visit_199 (by decide) ?_
                    refine x_iconst (pc := 200) (nI 1) d_A_visit_200 (by decide) ?_
                    refine x_iconst (pc := 201) (nI 0) d_A_visit_201 (by decide) ?_
                    refine x_callV_X (pc := 202) (ci := 0) d_A_visit_202 k_A_104 wi_A_applyDirectly wv_A_applyDirectly w_A_applyDirectly ini_A wd_A_applyDirectly ⟨by decide, by decide⟩ ⟨rfl, rfl⟩ ⟨Nat.zero_le _, Nat.zero_le _⟩ 3 rfl rfl (t_A_applyDirectly (op := 3) (first := 1) hw hli hto hlx8 (by omega) (by omega) (by omega) (hOO 3 (by omega))) rfl rfl (Nat.le_of_ble_eq_true rfl) (fun v202 w202 hp202 => ?_)
                    obtain ⟨rfl, Pd, Qd, Sd, Fd, Rd, gd, hap4, rfl⟩ := hp202
                    refine x_vret (pc := 205) d_A_visit_205 rfl ?_
                    have fin : ∀ {Xd : AX} {gd : Bool}, apc (aN4 cnt par prm (siz lx) (if k = 1 then lx else 0) lx (cC OC1) (cB OP1)) gc (ofw Pc Qc Sc Fc Rc) gd Xd → apc (fun X Y => 0 < siz lx → avis cnt (anc par) prm siz atm k lx c X Y) gr (ofw P Q S F R) gd Xd := fun h4 => (avis.of (fun j b hj => (hld j (by omega)).1 b) (fun j b hj => (hld j (by omega)).2 b) (avis_all hn1 hn2 hn3 h4)).conv (fun Z _ q => q (by omega)) (fun q _ => q)
                    first
                      | exact ⟨rfl, Pd, Qd, Sd, Fd, Rd, gd, OC3, OP1, _, _, fin ((adir_3 (OP := OP1) (op := 3) hap4).conv (fun _ _ q => q h12b.1 h12b.2 (gt1.mp h195)) (fun q _ _ _ => q)), ho4, rfl⟩
                      | exact ⟨rfl, Pc, Qc, Sc, Fc, Rc, gc, OC3, OP1, _, _, fin ((apc.skip gc _).conv (fun _ _ _ => trivial) (fun _ e q _ => bno (opw_f h189 e) q)), ho4, rfl⟩
                      | exact ⟨rfl, Pc, Qc, Sc, Fc, Rc, gc, OC3, OP1, _, _, fin ((apc.skip gc _).conv (fun _ _ _ => trivial) (fun _ e _ q => absurd h195 (gt1.mpr q))), ho4, rfl⟩
              refine x_iload (pc := 148) d_A_visit_148 0 rfl ?_
              refine x_sipush (pc := 150) (nI 302) d_A_visit_150 (by decide) ?_
              refine x_callS_I (pc := 153) d_A_visit_153 k_A_107 ws_A_constantBit w_A_constantBit ini_A wd_A_constantBit ⟨by decide, by decide⟩ ⟨rfl, rfl⟩ ⟨Nat.zero_le _, Nat.zero_le _⟩ (t_A_constantBit (x := 302) (Or.inr (by decide)) (by decide)) rfl rfl (Nat.le_of_ble_eq_true rfl) ?_
              rw [show cbit 302 = 12 from rfl]
              refine x_callSN_I (pc := 156) d_A_visit_156 k_A_110 ws_C_has w_C_has ini_C wd_C_has ⟨by decide, by decide⟩ ⟨rfl, rfl⟩ ⟨Nat.zero_le _, Nat.zero_le _⟩ (t_C_has (by decide)) rfl rfl (Nat.le_of_ble_eq_true rfl) ?_
              first | refine x_if_eqB (pc := 159) (tgt := 178) d_A_visit_159 rfl ?_ ?_ | refine x_if_eqL (pc := 159) (tgt := 178) d_A_visit_159 rfl ?_ ?_ | refine x_if_eqN (pc := 159) (tgt := 178) d_A_visit_159 rfl (by omega) ?_ ?_ | refine x_if_eq (pc := 159) (tgt := 178) d_A_visit_159 rfl ?_ ?_
              · intro h159
                refine x_sub [0, 1, 2, 3, 4, 5, 6] _ rfl ?_
                first
                  | exact hc178 Pc Qc Sc Fc Rc gc ((adir_3 (OP := OP1) (op := 2) hap3).conv (fun _ _ q => q h12b.1 h12b.2 (mask_0 h168)) (fun q _ _ _ => q))
                  | exact hc178 Pb Qb Sb Fb Rb gb ((apc.skip gb _).conv (fun _ _ _ => trivial) (fun _ e q _ => bno (opw_f h159 e) q))
                  | exact hc178 Pb Qb Sb Fb Rb gb ((apc.skip gb _).conv (fun _ _ _ => trivial) (fun _ e _ q => bno (mask_0f h168) q))
              · intro h159
                have h12b := opw_t h159
                refine x_iload (pc := 162) d_A_visit_162 1 rfl ?_
                refine x_iconst (pc := 164) (nI 0) d_A_visit_164 (by decide) ?_
                refine x_callSN_I (pc := 165) d_A_visit_165 k_A_110 ws_C_has w_C_has ini_C wd_C_has ⟨by decide, by decide⟩ ⟨rfl, rfl⟩ ⟨Nat.zero_le _, Nat.zero_le _⟩ (t_C_has (j := 0) (by decide)) rfl rfl (Nat.le_of_ble_eq_true rfl) ?_
                first | refine x_if_eqB (pc := 168) (tgt := 178) d_A_visit_168 rfl ?_ ?_ | refine x_if_eqL (pc := 168) (tgt := 178) d_A_visit_168 rfl ?_ ?_ | refine x_if_eqN (pc := 168) (tgt := 178) d_A_visit_168 rfl (by omega) ?_ ?_ | refine x_if_eq (pc := 168) (tgt := 178) d_A_visit_168 rfl ?_ ?_
                · intro h168
                  refine x_sub [0, 1, 2, 3, 4, 5, 6] _ rfl ?_
                  first
                    | exact hc178 Pc Qc Sc Fc Rc gc ((adir_3 (OP := OP1) (op := 2) hap3).conv (fun _ _ q => q h12b.1 h12b.2 (mask_0 h168)) (fun q _ _ _ => q))
                    | exact hc178 Pb Qb Sb Fb Rb gb ((apc.skip gb _).conv (fun _ _ _ => trivial) (fun _ e q _ => bno (opw_f h159 e) q))
                    | exact hc178 Pb Qb Sb Fb Rb gb ((apc.skip gb _).conv (fun _ _ _ => trivial) (fun _ e _ q => bno (mask_0f h168) q))
                · intro h168
                  refine x_aload_n (pc := 171) d_A_visit_171 3 rfl ?_
                  refine x_iconst (pc := 172) (nI 2) d_A_visit_172 (by decide) ?_
                  refine x_iconst (pc := 173) (nI 1) d_A_visit_173 (by decide) ?_
                  refine x_iconst (pc := 174) (nI 0) d_A_visit_174 (by decide) ?_
                  refine x_callV_X (pc := 175) (ci := 0) d_A_visit_175 k_A_104 wi_A_applyDirectly wv_A_applyDirectly w_A_applyDirectly ini_A wd_A_applyDirectly ⟨by decide, by decide⟩ ⟨rfl, rfl⟩ ⟨Nat.zero_le _, Nat.zero_le _⟩ 3 rfl rfl (t_A_applyDirectly (op := 2) (first := 1) hw hli hto hlx8 (by omega) (by omega) (by omega) (hOO 2 (by omega))) rfl rfl (Nat.le_of_ble_eq_true rfl) (fun v175 w175 hp175 => ?_)
                  obtain ⟨rfl, Pc, Qc, Sc, Fc, Rc, gc, hap3, rfl⟩ := hp175
                  refine x_sub [0, 1, 2, 3, 4, 5, 6] _ rfl ?_
                  first
                    | exact hc178 Pc Qc Sc Fc Rc gc ((adir_3 (OP := OP1) (op := 2) hap3).conv (fun _ _ q => q h12b.1 h12b.2 (mask_0 h168)) (fun q _ _ _ => q))
                    | exact hc178 Pb Qb Sb Fb Rb gb ((apc.skip gb _).conv (fun _ _ _ => trivial) (fun _ e q _ => bno (opw_f h159 e) q))
                    | exact hc178 Pb Qb Sb Fb Rb gb ((apc.skip gb _).conv (fun _ _ _ => trivial) (fun _ e _ q => bno (mask_0f h168) q))
            refine x_aload_n (pc := 96) d_A_visit_96 2 rfl ?_
            refine x_get (pc := 97) (ci := 0) d_A_visit_97 in_A rfl 3 (by decide) k_A_19 3 rfl rfl ?_
            refine x_iconst (pc := 100) (nI 1) d_A_visit_100 (by decide) ?_
            refine x_ialdN (pc := 101) d_A_visit_101 16 0 rfl rfl (by omega) (by omega) ?_
            refine x_sipush (pc := 102) (nI 1023) d_A_visit_102 (by decide) ?_
            refine x_iand (pc := 105) d_A_visit_105 ?_
            refine x_istore (pc := 106) d_A_visit_106 (by decide) [(6, _), (5, _), (4, _), (0, _), (1, _), (2, _), (3, _)] rfl ?_
            refine x_iload (pc := 108) d_A_visit_108 1 rfl ?_
            refine x_sipush (pc := 110) (nI 301) d_A_visit_110 (by decide) ?_
            refine x_callS_I (pc := 113) d_A_visit_113 k_A_107 ws_A_constantBit w_A_constantBit ini_A wd_A_constantBit ⟨by decide, by decide⟩ ⟨rfl, rfl⟩ ⟨Nat.zero_le _, Nat.zero_le _⟩ (t_A_constantBit (x := 301) (Or.inr (by decide)) (by decide)) rfl rfl (Nat.le_of_ble_eq_true rfl) ?_
            rw [show cbit 301 = 11 from rfl]
            refine x_callSN_I (pc := 116) d_A_visit_116 k_A_110 ws_C_has w_C_has ini_C wd_C_has ⟨by decide, by decide⟩ ⟨rfl, rfl⟩ ⟨Nat.zero_le _, Nat.zero_le _⟩ (t_C_has (by decide)) rfl rfl (Nat.le_of_ble_eq_true rfl) ?_
            first | refine x_if_eqB (pc := 119) (tgt := 148) d_A_visit_119 rfl ?_ ?_ | refine x_if_eqL (pc := 119) (tgt := 148) d_A_visit_119 rfl ?_ ?_ | refine x_if_eqN (pc := 119) (tgt := 148) d_A_visit_119 rfl (by omega) ?_ ?_ | refine x_if_eq (pc := 119) (tgt := 148) d_A_visit_119 rfl ?_ ?_
            · intro h119
              refine x_sub [1, 0, 2, 3, 4, 5, 6] _ rfl ?_
              first
                | exact hc148 (upd OC1 4 sm) Pb Qb Sb Fb Rb gb (fun j hj => upd_ne _ _ (by omega)) hn2
                | exact hc148 OC1 Pa Qa Sa Fa Ra ga (fun j hj => rfl) ((apc.skip ga _).conv (fun _ _ _ => trivial) (fun _ e q _ => bno (opw_f h119 e) q))
                | exact hc148 (upd OC1 4 sm) Pa Qa Sa Fa Ra ga (fun j hj => upd_ne _ _ (by omega)) ((apc.skip ga _).conv (fun _ _ _ => trivial) (fun _ e q s => absurd s (fun s => sum_none hsm h138 s)))
            · intro h119
              have h11 := opw_t h119
              refine x_aload_n (pc := 122) d_A_visit_122 3 rfl ?_
              refine x_iload (pc := 123) d_A_visit_123 0 rfl ?_
              refine x_aload_n (pc := 125) d_A_visit_125 3 rfl ?_
              refine x_get (pc := 126) (ci := 0) d_A_visit_126 in_A rfl 3 (by decide) k_A_19 3 rfl rfl ?_
              refine x_iconst (pc := 129) (nI 2) d_A_visit_129 (by decide) ?_
              refine x_ialdN (pc := 130) d_A_visit_130 16 0 rfl rfl (by omega) (by omega) ?_
              refine x_sipush (pc := 131) (nI 1023) d_A_visit_131 (by decide) ?_
              refine x_iand (pc := 134) d_A_visit_134 ?_
              refine x_callV_X (pc := 135) (ci := 0) d_A_visit_135 k_A_114 wi_A_loadSums wv_A_loadSums w_A_loadSums ini_A wd_A_loadSums ⟨by decide, by decide⟩ ⟨rfl, rfl⟩ ⟨Nat.zero_le _, Nat.zero_le _⟩ 3 rfl rfl (t_A_loadSums (fun y hy => mask_lt y hy)) rfl rfl (Nat.le_of_ble_eq_true rfl) (fun v135 w135 hp135 => ?_)
              obtain ⟨sm, hsm, rfl, rfl⟩ := hp135
              have hsm := sum_mask hsm
              first | refine x_if_eqB (pc := 138) (tgt := 148) d_A_visit_138 rfl ?_ ?_ | refine x_if_eqL (pc := 138) (tgt := 148) d_A_visit_138 rfl ?_ ?_ | refine x_if_eqN (pc := 138) (tgt := 148) d_A_visit_138 rfl (by omega) ?_ ?_ | refine x_if_eq (pc := 138) (tgt := 148) d_A_visit_138 rfl ?_ ?_
              · intro h138
                refine x_sub [1, 0, 2, 3, 4, 5, 6] _ rfl ?_
                first
                  | exact hc148 (upd OC1 4 sm) Pb Qb Sb Fb Rb gb (fun j hj => upd_ne _ _ (by omega)) hn2
                  | exact hc148 OC1 Pa Qa Sa Fa Ra ga (fun j hj => rfl) ((apc.skip ga _).conv (fun _ _ _ => trivial) (fun _ e q _ => bno (opw_f h119 e) q))
                  | exact hc148 (upd OC1 4 sm) Pa Qa Sa Fa Ra ga (fun j hj => upd_ne _ _ (by omega)) ((apc.skip ga _).conv (fun _ _ _ => trivial) (fun _ e q s => absurd s (fun s => sum_none hsm h138 s)))
              · intro h138
                refine x_aload_n (pc := 141) d_A_visit_141 3 rfl ?_
                refine x_iconst (pc := 142) (nI 3) d_A_visit_142 (by decide) ?_
                refine x_iconst (pc := 143) (nI 4) d_A_visit_143 (by decide) ?_
                refine x_iconst (pc := 144) (nI 1) d_A_visit_144 (by decide) ?_
                refine x_callV_X (pc := 145) (ci := 0) d_A_visit_145 k_A_104 wi_A_applyDirectly wv_A_applyDirectly w_A_applyDirectly ini_A wd_A_applyDirectly ⟨by decide, by decide⟩ ⟨rfl, rfl⟩ ⟨Nat.zero_le _, Nat.zero_le _⟩ 3 rfl rfl (t_A_applyDirectly (op := 3) (first := 4) hw hli hto hlx8 (by omega) (by omega) (by omega) (hOO 3 (by omega))) rfl rfl (Nat.le_of_ble_eq_true rfl) (fun v145 w145 hp145 => ?_)
                obtain ⟨rfl, Pb, Qb, Sb, Fb, Rb, gb, hap2, rfl⟩ := hp145
                have hn2 := adir_2 (n := siz lx) (OC := OC1) (OC3 := upd OC1 4 sm) rfl rfl ho4 hsm (of_decide_eq_true h138) h11 hap2
                refine x_sub [1, 0, 2, 3, 4, 5, 6] _ rfl ?_
                first
                  | exact hc148 (upd OC1 4 sm) Pb Qb Sb Fb Rb gb (fun j hj => upd_ne _ _ (by omega)) hn2
                  | exact hc148 OC1 Pa Qa Sa Fa Ra ga (fun j hj => rfl) ((apc.skip ga _).conv (fun _ _ _ => trivial) (fun _ e q _ => bno (opw_f h119 e) q))
                  | exact hc148 (upd OC1 4 sm) Pa Qa Sa Fa Ra ga (fun j hj => upd_ne _ _ (by omega)) ((apc.skip ga _).conv (fun _ _ _ => trivial) (fun _ e q s => absurd s (fun s => sum_none hsm h138 s)))
          refine x_iload (pc := 78) d_A_visit_78 1 rfl ?_
          refine x_iconst (pc := 80) (nI 4) d_A_visit_80 (by decide) ?_
          first | refine x_icmp_neN (pc := 81) (tgt := 93) d_A_visit_81 rfl (by omega) (by omega) ?_ ?_ | refine x_icmp_ne (pc := 81) (tgt := 93) d_A_visit_81 rfl ?_ ?_
          · intro h81
            refine x_iconst (pc := 93) (nI 0) d_A_visit_93 (by decide) ?_
            refine x_sub [1, 2, 3, 4, 5] _ rfl ?_
            first | (refine x_ti (show OC1 0 = (opw (siz lx) (OC1 0)) from (if_pos h81).symm) ?_; exact hc94) | (refine x_ti (show nI 0 = (opw (siz lx) (OC1 0)) from (if_neg h81).symm) ?_; exact hc94)
          · intro h81
            refine x_aload_n (pc := 84) d_A_visit_84 2 rfl ?_
            refine x_get (pc := 85) (ci := 0) d_A_visit_85 in_A rfl 3 (by decide) k_A_19 3 rfl rfl ?_
            refine x_iconst (pc := 88) (nI 0) d_A_visit_88 (by decide) ?_
            refine x_ialdN (pc := 89) d_A_visit_89 16 0 rfl rfl (by omega) (by omega) ?_
            refine x_goto (pc := 90) (tgt := 94) d_A_visit_90 rfl ?_
            refine x_sub [1, 2, 3, 4, 5] _ rfl ?_
            first | (refine x_ti (show OC1 0 = (opw (siz lx) (OC1 0)) from (if_pos h81).symm) ?_; exact hc94) | (refine x_ti (show nI 0 = (opw (siz lx) (OC1 0)) from (if_neg h81).symm) ?_; exact hc94)
        · intro h42
          refine x_aload_n (pc := 45) d_A_visit_45 2 rfl ?_
          refine x_iload (pc := 46) d_A_visit_46 0 rfl ?_
          refine x_aload_n (pc := 48) d_A_visit_48 2 rfl ?_
          refine x_get (pc := 49) (ci := 0) d_A_visit_49 in_A rfl 0 (by decide) k_A_28 3 rfl rfl ?_
          refine x_iload_n (pc := 52) d_A_visit_52 3 rfl ?_
          refine x_iload (pc := 53) d_A_visit_53 0 rfl ?_
          refine x_callV_I (pc := 55) (ci := 2) d_A_visit_55 k_A_97 wi_P_atomOf wv_P_atomOf w_P_atomOf ini_P wd_P_atomOf ⟨by decide, by decide⟩ ⟨rfl, rfl⟩ ⟨Nat.zero_le _, Nat.zero_le _⟩ 1 rfl rfl (t_P_atomOf hlx8 (by omega)) rfl rfl (Nat.le_of_ble_eq_true rfl) ?_
          refine x_iload_n (pc := 58) d_A_visit_58 4 rfl ?_
          refine x_callV_X (pc := 59) (ci := 0) d_A_visit_59 k_A_101 wi_A_loadOperand wv_A_loadOperand w_A_loadOperand ini_A wd_A_loadOperand ⟨by decide, by decide⟩ ⟨rfl, rfl⟩ ⟨Nat.zero_le _, Nat.zero_le _⟩ 3 rfl rfl (t_A_loadOperand hw (by omega) hc (hw.2.2.2.2.2.2 lx i hlx (by omega))) rfl rfl (Nat.le_of_ble_eq_true rfl) (fun v59 w59 hp59 => ?_)
          obtain ⟨rfl, OC2, OP2, hkp, hlo, rfl⟩ := hp59
          refine x_iincN (pc := 62) d_A_visit_62 0 rfl (by decide) [(5, _), (4, _), (0, _), (1, _), (2, _), (3, _)] rfl ?_
          refine x_goto (pc := 65) (tgt := 38) d_A_visit_65 rfl ?_
          refine x_sub [0, 1, 2, 3, 4, 5] _ rfl ?_
          refine ih (i + 1) OC2 OP2 (by omega) (by omega) (fun j hj => ?_) (by rw [(hkp 4 (by omega)).2]; exact ho4)
          by_cases e : j = i
          · rw [e]
            exact hlo
          · rw [(hkp j e).1, (hkp j e).2]
            exact hld j (by omega)
    refine x_sub [0, 1, 2, 3, 4, 5] _ rfl ?_
    exact hlp (siz lx + 1) 0 OC OP (by omega) (by omega) (fun j hj => absurd hj (Nat.not_lt_zero j)) hO4
  refine x_aload_n (pc := 0) d_A_visit_0 0 rfl ?_
  refine x_get (pc := 1) (ci := 0) d_A_visit_1 in_A rfl 0 (by decide) k_A_28 3 rfl rfl ?_
  refine x_iload_n (pc := 4) d_A_visit_4 1 rfl ?_
  refine x_callV_I (pc := 5) (ci := 2) d_A_visit_5 k_A_85 wi_P_callLength wv_P_callLength w_P_callLength ini_P wd_P_callLength ⟨by decide, by decide⟩ ⟨rfl, rfl⟩ ⟨Nat.zero_le _, Nat.zero_le _⟩ 1 rfl rfl (t_P_callLength hlx8) rfl rfl (Nat.le_of_ble_eq_true rfl) ?_
  refine x_istore (pc := 8) d_A_visit_8 (by decide) [(4, _), (0, _), (1, _), (2, _), (3, _)] rfl ?_
  refine x_iload (pc := 10) d_A_visit_10 0 rfl ?_
  first | refine x_if_neB (pc := 12) (tgt := 16) d_A_visit_12 rfl ?_ ?_ | refine x_if_neL (pc := 12) (tgt := 16) d_A_visit_12 rfl ?_ ?_ | refine x_if_neN (pc := 12) (tgt := 16) d_A_visit_12 rfl (by omega) ?_ ?_ | refine x_if_ne (pc := 12) (tgt := 16) d_A_visit_12 rfl ?_ ?_
  · intro h12
    refine x_aload_n (pc := 16) d_A_visit_16 1 rfl ?_
    refine x_iload_n (pc := 17) d_A_visit_17 2 rfl ?_
    refine x_put (pc := 18) (ci := 0) (ty := .int) d_A_visit_18 in_A t_A ty_A nm_A rfl 8 (by decide) k_A_91 rfl (by decide +kernel) rfl rfl 3 rfl (Nat.le_of_ble_eq_true rfl) (_) (rfl) ?_
    refine x_aload_n (pc := 21) d_A_visit_21 1 rfl ?_
    refine x_iload_n (pc := 22) d_A_visit_22 4 rfl ?_
    refine x_iconst (pc := 23) (nI 1) d_A_visit_23 (by decide) ?_
    first | refine x_icmp_neN (pc := 24) (tgt := 31) d_A_visit_24 rfl (by omega) (by omega) ?_ ?_ | refine x_icmp_ne (pc := 24) (tgt := 31) d_A_visit_24 rfl ?_ ?_
    · intro h24
      refine x_iconst (pc := 31) (nI 0) d_A_visit_31 (by decide) ?_
      refine x_sub [0, 1, 2, 3, 4] _ rfl ?_
      first | exact x_ti (y := nI (if k = 1 then lx else 0)) (congrArg nI (if_pos h24).symm) (hc32 h12) | exact x_ti (y := nI (if k = 1 then lx else 0)) (congrArg nI (if_neg h24).symm) (hc32 h12)
    · intro h24
      refine x_iload_n (pc := 27) d_A_visit_27 2 rfl ?_
      refine x_goto (pc := 28) (tgt := 32) d_A_visit_28 rfl ?_
      refine x_sub [0, 1, 2, 3, 4] _ rfl ?_
      first | exact x_ti (y := nI (if k = 1 then lx else 0)) (congrArg nI (if_pos h24).symm) (hc32 h12) | exact x_ti (y := nI (if k = 1 then lx else 0)) (congrArg nI (if_neg h24).symm) (hc32 h12)
  · intro h12
    refine x_vret (pc := 15) d_A_visit_15 rfl ?_
    exact ⟨rfl, P, Q, S, F, R, gr, OC, OP, vis, nc, (apc.skip gr _).conv (fun _ _ _ => trivial) (fun _ q => absurd h12 (by omega)), hO4, rfl⟩
end ANA3
end
section
/-! Rows for make and the reads of the analysis -/
def popL (x : Int64) : Nat := popN x.toBitVec.toNat 64
def orf (f : Nat → Int32) : Nat → Int32
  | 0 => nI 0
  | n + 1 => orf f n ||| f n
def orl (f : Nat → Int64) : Nat → Int64
  | 0 => 0
  | n + 1 => orl f n ||| f n
theorem orl_bl (f : Nat → Int64) (b : Nat) : ∀ n, bl (orl f n) b = true ↔ ∃ c, c < n ∧ bl (f c) b = true
  | 0 => by
    constructor
    · intro q
      have q : bl 0 b = true := q
      rw [l_0] at q
      cases q
    · intro q
      obtain ⟨c, hc, _⟩ := q
      omega
  | n + 1 => by
    show bl (orl f n ||| f n) b = true ↔ _
    rw [l_or, Bool.or_eq_true_iff, orl_bl f b n]
    constructor
    · intro q
      rcases q with ⟨c, h1, h2⟩ | q
      · exact ⟨c, by omega, h2⟩
      · exact ⟨n, by omega, q⟩
    · intro q
      obtain ⟨c, h1, h2⟩ := q
      by_cases e : c = n
      · subst e
        exact Or.inr h2
      · exact Or.inl ⟨c, by omega, h2⟩
theorem toI_bt (x : Int64) (i : Nat) (hi : i < 32) : bt x.toInt32 i = bl x i := by
  unfold bt bl
  rw [Int64.toBitVec_toInt32, BitVec.signExtend_eq_setWidth_of_le _ (by omega), BitVec.getLsbD_setWidth]
  simp [hi]
theorem b_255 (i : Nat) : bt (nI 255) i = decide (i < 8) := by
  rcases Nat.lt_or_ge i 32 with h | h
  · exact (by decide +kernel : ∀ i, i < 32 → bt (nI 255) i = decide (i < 8)) i h
  · rw [b_big h, decide_eq_false (by omega)]
theorem cin_bt {p : Int64} {m : Nat} (hm : m < 8) (i : Nat) : bt (cin p m) i = true ↔ i < 8 ∧ bl p (8 * m + i) = true := by
  unfold cin
  rw [b_and, b_255, Bool.and_eq_true_iff]
  constructor
  · intro q
    have h := of_decide_eq_true q.2
    refine ⟨h, ?_⟩
    have q1 := q.1
    rw [toI_bt _ i (by omega), l_ushr (8 * m) (by omega)] at q1
    exact q1
  · intro q
    refine ⟨?_, decide_eq_true q.1⟩
    rw [toI_bt _ i (by omega), l_ushr (8 * m) (by omega)]
    exact q.2
theorem cin_ne {p : Int64} {m : Nat} (hm : m < 8) : (¬ cin p m = 0) ↔ ∃ e, e < 8 ∧ bl p (8 * m + e) = true := by
  constructor
  · intro q
    obtain ⟨b, hb⟩ := b_ne0 q
    exact ⟨b, (cin_bt hm b).mp hb⟩
  · intro q z
    obtain ⟨e, he⟩ := q
    have h := (cin_bt hm e).mpr he
    rw [z, b_0] at h
    cases h
/-- which lambdas are in the pairs of a parameter -/
def clos (Q : Nat → Int64) (l i m : Nat) : Prop := ∃ c e, c < 8 ∧ e < 8 ∧ bl (Q (sl l i c)) (8 * m + e) = true
theorem snd_full {cnt : Nat} {par : Nat → Int32} {prm siz atm : Nat → Nat} {k : Nat} (hw : pwf cnt par prm siz atm) {X : AX} (h : ∀ Z, aclosed cnt (anc par) prm siz atm k Z → ale X Z) : ale X (afull cnt) := h _ (afull.closed hw.1 hw.2.1 hw.awf)
theorem apassS {cnt : Nat} {par : Nat → Int32} {prm siz atm : Nat → Nat} {k s : Nat} {g : Bool} {X Y : AX} (hX : ∀ Z, aclosed cnt (anc par) prm siz atm k Z → ale X Z) (h : apc (fun X Y => ∀ j, j < s → apassN cnt (anc par) prm siz atm k j X Y) false X g Y) : ∀ Z, aclosed cnt (anc par) prm siz atm k Z → ale Y Z := by
  intro Z hZ
  refine h.2.1 Z (hX Z hZ) (fun j _ h1 h2 h3 => ?_)
  refine hZ.2 (j / 8) (j % 8) h1 (by omega) ?_ h3
  rw [show 8 * (j / 8) + j % 8 = j by omega]
  exact h2
theorem astart {cnt : Nat} {par : Nat → Int32} {prm siz atm : Nat → Nat} {k : Nat} : ainv cnt (anc par) prm siz atm k 0 true (ofw (fun _ => nI 0) (fun _ => 0) (lP (8 * 0 + 0)) (fun _ => nI 0) (nI 0)) := by
  refine ainv.start (ofw.fin _ _ _ _ _) ?_ (fun Z hZ => ⟨fun s b q => ?_, fun s b q => ?_, fun b q => ?_, fun s b q => ?_, fun b q => ?_⟩)
  · show bl (lP (8 * 0 + 0)) 0 = true
    rw [lP_bl (by omega)]
    rfl
  · have q := q.2
    rw [b_n0] at q
    cases q
  · have q := q.2
    rw [l_0] at q
    cases q
  · have q : bl (lP (8 * 0 + 0)) b = true := q
    rw [lP_bl (by omega)] at q
    rw [of_decide_eq_true q]
    exact hZ
  · have q := q.2
    rw [b_n0] at q
    cases q
  · have q : bt (nI 0) b = true := q
    rw [b_n0] at q
    cases q
theorem clos_orl {Q : Nat → Int64} {l i m : Nat} : (∃ e, e < 8 ∧ bl (orl (fun c => Q (sl l i c)) 8) (8 * m + e) = true) ↔ clos Q l i m := by
  constructor
  · intro q
    obtain ⟨e, h1, h2⟩ := q
    obtain ⟨c, h3, h4⟩ := (orl_bl _ _ 8).mp h2
    exact ⟨c, e, h3, h1, h4⟩
  · intro q
    obtain ⟨c, e, h3, h1, h4⟩ := q
    exact ⟨e, h1, (orl_bl _ _ 8).mpr ⟨c, h3, h4⟩⟩
theorem clos_next {Q : Nat → Int64} {l i m : Nat} {r : Int32} (hr : ∀ z, bt r z = true ↔ z < m ∧ clos Q l i z) (hm : m < 8) (h : ∃ e, e < 8 ∧ bl (orl (fun c => Q (sl l i c)) 8) (8 * m + e) = true) : ∀ z, bt (r ||| nI 1 <<< (nI m &&& 31)) z = true ↔ z < m + 1 ∧ clos Q l i z := by
  intro z
  show bt (r ||| 1 <<< (nI m &&& 31)) z = true ↔ _
  rw [b_or, b_one m (by omega), Bool.or_eq_true_iff, hr z]
  constructor
  · intro q
    rcases q with q | q
    · exact ⟨by omega, q.2⟩
    · have e := of_decide_eq_true q
      subst e
      exact ⟨by omega, clos_orl.mp h⟩
  · intro q
    by_cases e : z = m
    · exact Or.inr (decide_eq_true e)
    · exact Or.inl ⟨by omega, q.2⟩
theorem clos_same {Q : Nat → Int64} {l i m : Nat} {r : Int32} (hr : ∀ z, bt r z = true ↔ z < m ∧ clos Q l i z) (hm : m < 8) (h : cin (orl (fun c => Q (sl l i c)) 8) m = 0) : ∀ z, bt r z = true ↔ z < m + 1 ∧ clos Q l i z := by
  intro z
  rw [hr z]
  constructor
  · intro q
    exact ⟨by omega, q.2⟩
  · intro q
    refine ⟨?_, q.2⟩
    by_cases e : z = m
    · subst e
      exact absurd h ((cin_ne hm).mpr (clos_orl.mpr q.2))
    · omega
end
section
section ANA4
variable {l : Launch} {D : va_G} {ad : Nat → Nat} {cI cL : ClassId} {par : Nat → Int32} {prm : Nat → Nat} {lin : Nat → Int32} {siz atm : Nat → Nat} {cnt : Nat} {own out bnd : Nat → Nat} {cal : Nat → Int32} {opr : Nat → Nat} {n ph oc : Nat} {P : Nat → Int32} {Q : Nat → Int64} {OC : Nat → Int32} {OP : Nat → Int64} {F : Nat → Int32} {S : Int64} {R : Int32} {vis nc : Nat} {gr md : Bool}
set_option maxHeartbeats 4000000 in
set_option maxRecDepth 100000 in
theorem t_A_constantsIn {lx i : Nat} (hl : lx < 8) (hi : i < 3) : CT l y_A_constantsIn c_A_constantsIn 5 (some .int) (rmm 1 22) (gG D cI cL) [.ref (ad 3), .int (nI lx), .int (nI i)] (wC ad cI cL par prm lin siz atm cnt own out bnd cal opr n ph oc P Q OC OP F S R vis nc gr md) (pI (orf (fun c => P (sl lx i c)) 8) (wC ad cI cL par prm lin siz atm cnt own out bnd cal opr n ph oc P Q OC OP F S R vis nc gr md)) := by
  refine CT.of R_A (by decide) rfl (Nat.le_of_ble_eq_true rfl) ?_
  intro E A hname
  refine x_iconst (pc := 0) (nI 0) d_A_constantsIn_0 (by decide) ?_
  refine x_istore_n (pc := 1) d_A_constantsIn_1 rfl (by decide) [(3, _), (0, _), (1, _), (2, _)] rfl ?_
  refine x_iconst (pc := 2) (nI 0) d_A_constantsIn_2 (by decide) ?_
  refine x_istore (pc := 3) d_A_constantsIn_3 (by decide) [(4, _), (3, _), (0, _), (1, _), (2, _)] rfl ?_
  have hlp : ∀ (fuel : Nat) (c : Nat), 8 - c < fuel → (c ≤ 8) → xj E l (rmm 1 22) c_A_constantsIn 5 (some .int) R_A (gG D cI cL) A 0 0 (pI (orf (fun c => P (sl lx i c)) 8) (wC ad cI cL par prm lin siz atm cnt own out bnd cal opr n ph oc P Q OC OP F S R vis nc gr md)) 0 0 (wC ad cI cL par prm lin siz atm cnt own out bnd cal opr n ph oc P Q OC OP F S R vis nc gr md) 5 [(4, .int (nI c)), (3, .int (orf (fun c => P (sl lx i c)) c)), (0, .ref (ad 3)), (1, .int (nI lx)), (2, .int (nI i))] [] := by
    intro fuel
    induction fuel with
    | zero => intro c hf; exact absurd hf (Nat.not_lt_zero _)
    | succ fuel ih =>
      intro c hf hc
      refine x_iload (pc := 5) d_A_constantsIn_5 0 rfl ?_
      refine x_bipush (pc := 7) (nI 8) d_A_constantsIn_7 (by decide) ?_
      first | refine x_icmp_geN (pc := 9) (tgt := 33) d_A_constantsIn_9 rfl (by omega) (by omega) ?_ ?_ | refine x_icmp_ge (pc := 9) (tgt := 33) d_A_constantsIn_9 rfl ?_ ?_
      · intro h9
        refine x_iload_n (pc := 33) d_A_constantsIn_33 1 rfl ?_
        refine x_iret (pc := 34) d_A_constantsIn_34 rfl ?_
        have e1 : c = 8 := by omega
        rw [e1]
        exact ⟨rfl, rfl⟩
      · intro h9
        refine x_iload_n (pc := 12) d_A_constantsIn_12 1 rfl ?_
        refine x_aload_n (pc := 13) d_A_constantsIn_13 2 rfl ?_
        refine x_get (pc := 14) (ci := 0) d_A_constantsIn_14 in_A rfl 1 (by decide) k_A_11 3 rfl rfl ?_
        refine x_iload_n (pc := 17) d_A_constantsIn_17 3 rfl ?_
        refine x_iload_n (pc := 18) d_A_constantsIn_18 4 rfl ?_
        refine x_iload (pc := 19) d_A_constantsIn_19 0 rfl ?_
        refine x_callS_I (pc := 21) d_A_constantsIn_21 k_A_48 ws_A_slot w_A_slot ini_A wd_A_slot ⟨by decide, by decide⟩ ⟨rfl, rfl⟩ ⟨Nat.zero_le _, Nat.zero_le _⟩ (t_A_slot) rfl rfl (Nat.le_of_ble_eq_true rfl) ?_
        refine x_ialdN (pc := 24) d_A_constantsIn_24 14 0 rfl rfl (by omega) (sl_lt hl hi (by omega)) ?_
        refine x_ior (pc := 25) d_A_constantsIn_25 ?_
        refine x_istore_n (pc := 26) d_A_constantsIn_26 rfl (by decide) [(3, _), (4, _), (0, _), (1, _), (2, _)] rfl ?_
        refine x_iincN (pc := 27) d_A_constantsIn_27 1 rfl (by decide) [(4, _), (3, _), (0, _), (1, _), (2, _)] rfl ?_
        refine x_goto (pc := 30) (tgt := 5) d_A_constantsIn_30 rfl ?_
        refine x_sub [0, 1, 2, 3, 4] _ rfl ?_
        exact ih (c + 1) (by omega) (by omega)
  refine x_sub [0, 1, 2, 3, 4] _ rfl ?_
  exact hlp 9 0 (by omega) (by omega)
set_option maxHeartbeats 4000000 in
set_option maxRecDepth 100000 in
theorem t_A_lambdasIn {lx i : Nat} (hl : lx < 8) (hi : i < 3) : CT l y_A_lambdasIn c_A_lambdasIn 7 (some .int) (rmm 1 22) (gG D cI cL) [.ref (ad 3), .int (nI lx), .int (nI i)] (wC ad cI cL par prm lin siz atm cnt own out bnd cal opr n ph oc P Q OC OP F S R vis nc gr md) (fun v w2 => ∃ r, (∀ m, bt r m = true ↔ m < 8 ∧ clos Q lx i m) ∧ v = some (.int r) ∧ w2 = (wC ad cI cL par prm lin siz atm cnt own out bnd cal opr n ph oc P Q OC OP F S R vis nc gr md)) := by
  refine CT.of R_A (by decide) rfl (Nat.le_of_ble_eq_true rfl) ?_
  intro E A hname
  refine x_lconst (pc := 0) 0 d_A_lambdasIn_0 (by decide) ?_
  refine x_lstore_n (pc := 1) d_A_lambdasIn_1 rfl (by decide) [(3, _), (0, _), (1, _), (2, _)] rfl ?_
  refine x_iconst (pc := 2) (nI 0) d_A_lambdasIn_2 (by decide) ?_
  refine x_istore (pc := 3) d_A_lambdasIn_3 (by decide) [(5, _), (3, _), (0, _), (1, _), (2, _)] rfl ?_
  have hlp : ∀ (fuel : Nat) (c : Nat), 8 - c < fuel → (c ≤ 8) → xj E l (rmm 1 22) c_A_lambdasIn 7 (some .int) R_A (gG D cI cL) A 0 0 (fun v w2 => ∃ r, (∀ m, bt r m = true ↔ m < 8 ∧ clos Q lx i m) ∧ v = some (.int r) ∧ w2 = (wC ad cI cL par prm lin siz atm cnt own out bnd cal opr n ph oc P Q OC OP F S R vis nc gr md)) 0 0 (wC ad cI cL par prm lin siz atm cnt own out bnd cal opr n ph oc P Q OC OP F S R vis nc gr md) 5 [(5, .int (nI c)), (3, .long (orl (fun c => Q (sl lx i c)) c)), (0, .ref (ad 3)), (1, .int (nI lx)), (2, .int (nI i))] [] := by
    intro fuel
    induction fuel with
    | zero => intro c hf; exact absurd hf (Nat.not_lt_zero _)
    | succ fuel ih =>
      intro c hf hc
      refine x_iload (pc := 5) d_A_lambdasIn_5 0 rfl ?_
      refine x_bipush (pc := 7) (nI 8) d_A_lambdasIn_7 (by decide) ?_
      first | refine x_icmp_geN (pc := 9) (tgt := 33) d_A_lambdasIn_9 rfl (by omega) (by omega) ?_ ?_ | refine x_icmp_ge (pc := 9) (tgt := 33) d_A_lambdasIn_9 rfl ?_ ?_
      · intro h9
        have e1 : c = 8 := by omega
        rw [e1]
        clear ih hf
        refine x_iconst (pc := 33) (nI 0) d_A_lambdasIn_33 (by decide) ?_
        refine x_istore (pc := 34) d_A_lambdasIn_34 (by decide) [(5, _), (3, _), (0, _), (1, _), (2, _)] rfl ?_
        refine x_iconst (pc := 36) (nI 0) d_A_lambdasIn_36 (by decide) ?_
        refine x_istore (pc := 37) d_A_lambdasIn_37 (by decide) [(6, _), (5, _), (3, _), (0, _), (1, _), (2, _)] rfl ?_
        have hlq : ∀ (fuel : Nat) (m : Nat) (r : Int32), 8 - m < fuel → (m ≤ 8) → (∀ z, bt r z = true ↔ z < m ∧ clos Q lx i z) → xj E l (rmm 1 22) c_A_lambdasIn 7 (some .int) R_A (gG D cI cL) A 0 0 (fun v w2 => ∃ r, (∀ m, bt r m = true ↔ m < 8 ∧ clos Q lx i m) ∧ v = some (.int r) ∧ w2 = (wC ad cI cL par prm lin siz atm cnt own out bnd cal opr n ph oc P Q OC OP F S R vis nc gr md)) 0 0 (wC ad cI cL par prm lin siz atm cnt own out bnd cal opr n ph oc P Q OC OP F S R vis nc gr md) 39 [(6, .int (nI m)), (5, .int r), (3, .long (orl (fun c => Q (sl lx i c)) 8)), (0, .ref (ad 3)), (1, .int (nI lx)), (2, .int (nI i))] [] := by
          intro fuel
          induction fuel with
          | zero => intro m r hf; exact absurd hf (Nat.not_lt_zero _)
          | succ fuel ih =>
            intro m r hf hm hr
            refine x_iload (pc := 39) d_A_lambdasIn_39 0 rfl ?_
            refine x_bipush (pc := 41) (nI 8) d_A_lambdasIn_41 (by decide) ?_
            first | refine x_icmp_geN (pc := 43) (tgt := 70) d_A_lambdasIn_43 rfl (by omega) (by omega) ?_ ?_ | refine x_icmp_ge (pc := 43) (tgt := 70) d_A_lambdasIn_43 rfl ?_ ?_
            · intro h43
              refine x_iload (pc := 70) d_A_lambdasIn_70 1 rfl ?_
              refine x_iret (pc := 72) d_A_lambdasIn_72 rfl ?_
              have e2 : m = 8 := by omega
              rw [e2] at hr
              exact ⟨r, hr, rfl, rfl⟩
            · intro h43
              refine x_lload_n (pc := 46) d_A_lambdasIn_46 2 rfl ?_
              refine x_iload (pc := 47) d_A_lambdasIn_47 0 rfl ?_
              refine x_callS_I (pc := 49) d_A_lambdasIn_49 k_A_40 ws_A_contoursIn w_A_contoursIn ini_A wd_A_contoursIn ⟨by decide, by decide⟩ ⟨rfl, rfl⟩ ⟨Nat.zero_le _, Nat.zero_le _⟩ (t_A_contoursIn) rfl rfl (Nat.le_of_ble_eq_true rfl) ?_
              first | refine x_if_eqB (pc := 52) (tgt := 64) d_A_lambdasIn_52 rfl ?_ ?_ | refine x_if_eqL (pc := 52) (tgt := 64) d_A_lambdasIn_52 rfl ?_ ?_ | refine x_if_eqN (pc := 52) (tgt := 64) d_A_lambdasIn_52 rfl (by omega) ?_ ?_ | refine x_if_eq (pc := 52) (tgt := 64) d_A_lambdasIn_52 rfl ?_ ?_
              · intro h52
                refine x_iincN (pc := 64) d_A_lambdasIn_64 0 rfl (by decide) [(6, _), (5, _), (3, _), (0, _), (1, _), (2, _)] rfl ?_
                refine x_goto (pc := 67) (tgt := 39) d_A_lambdasIn_67 rfl ?_
                refine x_sub [0, 1, 2, 3, 4, 5] _ rfl ?_
                first
                  | exact ih (m + 1) _ (by omega) (by omega) (clos_next hr (by omega) ((cin_ne (by omega)).mp h52))
                  | exact ih (m + 1) r (by omega) (by omega) (clos_same hr (by omega) h52)
              · intro h52
                refine x_iload (pc := 55) d_A_lambdasIn_55 1 rfl ?_
                refine x_iconst (pc := 57) (nI 1) d_A_lambdasIn_57 (by decide) ?_
                refine x_iload (pc := 58) d_A_lambdasIn_58 0 rfl ?_
                refine x_ishl (pc := 60) d_A_lambdasIn_60 ?_
                refine x_ior (pc := 61) d_A_lambdasIn_61 ?_
                refine x_istore (pc := 62) d_A_lambdasIn_62 (by decide) [(5, _), (6, _), (3, _), (0, _), (1, _), (2, _)] rfl ?_
                refine x_iincN (pc := 64) d_A_lambdasIn_64 1 rfl (by decide) [(6, _), (5, _), (3, _), (0, _), (1, _), (2, _)] rfl ?_
                refine x_goto (pc := 67) (tgt := 39) d_A_lambdasIn_67 rfl ?_
                refine x_sub [0, 1, 2, 3, 4, 5] _ rfl ?_
                first
                  | exact ih (m + 1) _ (by omega) (by omega) (clos_next hr (by omega) ((cin_ne (by omega)).mp h52))
                  | exact ih (m + 1) r (by omega) (by omega) (clos_same hr (by omega) h52)
        refine x_sub [0, 1, 2, 3, 4, 5] _ rfl ?_
        exact hlq 9 0 (nI 0) (by omega) (by omega) (fun z => ⟨fun q => (by rw [b_n0] at q; cases q), fun q => absurd q.1 (Nat.not_lt_zero z)⟩)
      · intro h9
        refine x_lload_n (pc := 12) d_A_lambdasIn_12 1 rfl ?_
        refine x_aload_n (pc := 13) d_A_lambdasIn_13 2 rfl ?_
        refine x_get (pc := 14) (ci := 0) d_A_lambdasIn_14 in_A rfl 2 (by decide) k_A_15 3 rfl rfl ?_
        refine x_iload_n (pc := 17) d_A_lambdasIn_17 3 rfl ?_
        refine x_iload_n (pc := 18) d_A_lambdasIn_18 4 rfl ?_
        refine x_iload (pc := 19) d_A_lambdasIn_19 0 rfl ?_
        refine x_callS_I (pc := 21) d_A_lambdasIn_21 k_A_48 ws_A_slot w_A_slot ini_A wd_A_slot ⟨by decide, by decide⟩ ⟨rfl, rfl⟩ ⟨Nat.zero_le _, Nat.zero_le _⟩ (t_A_slot) rfl rfl (Nat.le_of_ble_eq_true rfl) ?_
        refine x_laldN (pc := 24) d_A_lambdasIn_24 15 1 rfl rfl (by omega) (sl_lt hl hi (by omega)) ?_
        refine x_lor (pc := 25) d_A_lambdasIn_25 ?_
        refine x_lstore_n (pc := 26) d_A_lambdasIn_26 rfl (by decide) [(3, _), (5, _), (0, _), (1, _), (2, _)] rfl ?_
        refine x_iincN (pc := 27) d_A_lambdasIn_27 1 rfl (by decide) [(5, _), (3, _), (0, _), (1, _), (2, _)] rfl ?_
        refine x_goto (pc := 30) (tgt := 5) d_A_lambdasIn_30 rfl ?_
        refine x_sub [0, 1, 2, 3, 4] _ rfl ?_
        exact ih (c + 1) (by omega) (by omega)
  refine x_sub [0, 1, 2, 3, 4] _ rfl ?_
  exact hlp 9 0 (by omega) (by omega)
set_option maxHeartbeats 4000000 in
set_option maxRecDepth 100000 in
theorem t_A_emptySets  : CT l y_A_emptySets c_A_emptySets 1 none (rmm 1 24) (gG D cI cL) [.ref (ad 3)] (wC ad cI cL par prm lin siz atm cnt own out bnd cal opr n ph oc P Q OC OP F S R vis nc gr md) (pV (wC ad cI cL par prm lin siz atm cnt own out bnd cal opr n ph oc (fun _ => nI 0) (fun _ => 0) OC OP (fun _ => nI 0) S (nI 0) vis nc gr md)) := by
  refine CT.of R_A (by decide) rfl (Nat.le_of_ble_eq_true rfl) ?_
  intro E A hname
  refine x_aload_n (pc := 0) d_A_emptySets_0 0 rfl ?_
  refine x_get (pc := 1) (ci := 0) d_A_emptySets_1 in_A rfl 1 (by decide) k_A_11 3 rfl rfl ?_
  refine x_iconst (pc := 4) (nI 0) d_A_emptySets_4 (by decide) ?_
  refine x_callS_X (pc := 5) d_A_emptySets_5 k_A_76 ws_JA_fill w_JA_fill ini_JA wd_JA_fill ⟨by decide, by decide⟩ ⟨rfl, rfl⟩ ⟨Nat.zero_le _, Nat.zero_le _⟩ (CT.one 14 rfl (t_JA_fill (by omega))) rfl rfl (Nat.le_of_ble_eq_true rfl) (fun v5 w5 hp5 => ?_)
  obtain ⟨e1, ⟨rfl, rfl⟩, rfl⟩ := hp5
  refine x_aload_n (pc := 8) d_A_emptySets_8 0 rfl ?_
  refine x_get (pc := 9) (ci := 0) d_A_emptySets_9 in_A rfl 2 (by decide) k_A_15 3 rfl rfl ?_
  refine x_lconst (pc := 12) 0 d_A_emptySets_12 (by decide) ?_
  refine x_callS_X (pc := 13) d_A_emptySets_13 k_A_82 ws_JA_fill_JJV w_JA_fill_JJV ini_JA wd_JA_fill_JJV ⟨by decide, by decide⟩ ⟨rfl, rfl⟩ ⟨Nat.zero_le _, Nat.zero_le _⟩ (CT.one 15 rfl (t_JA_fill_JJV (by omega))) rfl rfl (Nat.le_of_ble_eq_true rfl) (fun v13 w13 hp13 => ?_)
  obtain ⟨e1, ⟨rfl, rfl⟩, rfl⟩ := hp13
  refine x_aload_n (pc := 16) d_A_emptySets_16 0 rfl ?_
  refine x_get (pc := 17) (ci := 0) d_A_emptySets_17 in_A rfl 5 (by decide) k_A_25 3 rfl rfl ?_
  refine x_iconst (pc := 20) (nI 0) d_A_emptySets_20 (by decide) ?_
  refine x_callS_X (pc := 21) d_A_emptySets_21 k_A_76 ws_JA_fill w_JA_fill ini_JA wd_JA_fill ⟨by decide, by decide⟩ ⟨rfl, rfl⟩ ⟨Nat.zero_le _, Nat.zero_le _⟩ (CT.one 18 rfl (t_JA_fill (by omega))) rfl rfl (Nat.le_of_ble_eq_true rfl) (fun v21 w21 hp21 => ?_)
  obtain ⟨e1, ⟨rfl, rfl⟩, rfl⟩ := hp21
  refine x_aload_n (pc := 24) d_A_emptySets_24 0 rfl ?_
  refine x_iconst (pc := 25) (nI 0) d_A_emptySets_25 (by decide) ?_
  refine x_put (pc := 26) (ci := 0) (ty := .int) d_A_emptySets_26 in_A t_A ty_A nm_A rfl 7 (by decide) k_A_44 rfl (by decide +kernel) rfl rfl 3 rfl (Nat.le_of_ble_eq_true rfl) (_) (rfl) ?_
  refine x_vret (pc := 29) d_A_emptySets_29 rfl ?_
  exact ⟨rfl, rfl⟩
set_option maxHeartbeats 4000000 in
set_option maxRecDepth 100000 in
theorem t_A_make {k : Nat} (hbc : ∀ {w : va_W} {x : Int64}, CT l y_JL_bitCount c_JL_bitCount 2 (some .int) (rmm 0 0) (gG D cI cL) [.long x] w (pI (nI (popL x)) w)) (hw : pwf cnt par prm siz atm) (hli : linok cnt par lin) (hk : k ≤ 1) (hO4 : OP 4 = 0) : CT l y_A_make c_A_make 4 (some .int) (rmm 5 128) (gG D cI cL) [.ref (ad 3), .int (nI k)] (wC ad cI cL par prm lin siz atm cnt own out bnd cal opr n ph oc P Q OC OP F S R vis nc gr md) (fun v w2 => ∃ P2 Q2 S2 F2 R2 g2 OC2 OP2 vi2 nc2, aleast cnt (anc par) prm siz atm k (ofw P2 Q2 S2 F2 R2) ∧ OP2 4 = 0 ∧ v = some (.int (nI (popL S2))) ∧ w2 = (wC ad cI cL par prm lin siz atm cnt own out bnd cal opr n ph oc P2 Q2 OC2 OP2 F2 S2 R2 vi2 nc2 g2 true)) := by
  refine CT.of R_A (by decide) rfl (Nat.le_of_ble_eq_true rfl) ?_
  intro E A hname
  have hc8 : cnt ≤ 8 := hw.2.1
  refine x_aload_n (pc := 0) d_A_make_0 0 rfl ?_
  refine x_callV_Z (pc := 1) (ci := 0) d_A_make_1 k_A_52 wi_A_emptySets wv_A_emptySets w_A_emptySets ini_A wd_A_emptySets ⟨by decide, by decide⟩ ⟨rfl, rfl⟩ ⟨Nat.zero_le _, Nat.zero_le _⟩ 3 rfl rfl (t_A_emptySets) rfl rfl (Nat.le_of_ble_eq_true rfl) ?_
  refine x_aload_n (pc := 4) d_A_make_4 0 rfl ?_
  refine x_iconst (pc := 5) (nI 0) d_A_make_5 (by decide) ?_
  refine x_iconst (pc := 6) (nI 0) d_A_make_6 (by decide) ?_
  refine x_callS_L (pc := 7) d_A_make_7 k_A_55 ws_A_pair w_A_pair ini_A wd_A_pair ⟨by decide, by decide⟩ ⟨rfl, rfl⟩ ⟨Nat.zero_le _, Nat.zero_le _⟩ (t_A_pair (m := 0) (c := 0)) rfl rfl (Nat.le_of_ble_eq_true rfl) ?_
  refine x_put (pc := 10) (ci := 0) (ty := .long) d_A_make_10 in_A t_A ty_A nm_A rfl 6 (by decide) k_A_36 rfl (by decide +kernel) rfl rfl 3 rfl (Nat.le_of_ble_eq_true rfl) (_) (rfl) ?_
  refine x_aload_n (pc := 13) d_A_make_13 0 rfl ?_
  refine x_iconst (pc := 14) (nI 1) d_A_make_14 (by decide) ?_
  refine x_put (pc := 15) (ci := 0) (ty := .boolean) d_A_make_15 in_A t_A ty_A nm_A rfl 10 (by decide) k_A_59 rfl (by decide +kernel) rfl rfl 3 rfl (Nat.le_of_ble_eq_true rfl) (_) (rfl) ?_
  refine x_iconst (pc := 18) (nI 0) d_A_make_18 (by decide) ?_
  refine x_istore_n (pc := 19) d_A_make_19 rfl (by decide) [(2, _), (0, _), (1, _)] rfl ?_
  have hlp : ∀ (fuel : Nat) (j : Nat) (P1 : Nat → Int32) (Q1 : Nat → Int64) (S1 : Int64) (F1 : Nat → Int32) (R1 : Int32) (g1 : Bool) (OC1 : Nat → Int32) (OP1 : Nat → Int64) (vi1 : Nat) (nc1 : Nat), 20000 - j < fuel → (j ≤ 20000) → (ainv cnt (anc par) prm siz atm k j g1 (ofw P1 Q1 S1 F1 R1)) → (OP1 4 = 0) → xj E l (rmm 5 128) c_A_make 4 (some .int) R_A (gG D cI cL) A 0 0 (fun v w2 => ∃ P2 Q2 S2 F2 R2 g2 OC2 OP2 vi2 nc2, aleast cnt (anc par) prm siz atm k (ofw P2 Q2 S2 F2 R2) ∧ OP2 4 = 0 ∧ v = some (.int (nI (popL S2))) ∧ w2 = (wC ad cI cL par prm lin siz atm cnt own out bnd cal opr n ph oc P2 Q2 OC2 OP2 F2 S2 R2 vi2 nc2 g2 true)) 0 0 (wC ad cI cL par prm lin siz atm cnt own out bnd cal opr n ph oc P1 Q1 OC1 OP1 F1 S1 R1 vi1 nc1 g1 md) 20 [(2, .int (nI j)), (0, .ref (ad 3)), (1, .int (nI k))] [] := by
    intro fuel
    induction fuel with
    | zero => intro j P1 Q1 S1 F1 R1 g1 OC1 OP1 vi1 nc1 hf; exact absurd hf (Nat.not_lt_zero _)
    | succ fuel ih =>
      intro j P1 Q1 S1 F1 R1 g1 OC1 OP1 vi1 nc1 hf hj hv ho
      refine x_aload_n (pc := 20) d_A_make_20 1 rfl ?_
      refine x_get (pc := 21) (ci := 0) d_A_make_21 in_A rfl 10 (by decide) k_A_59 3 rfl rfl ?_
      first | refine x_if_eqB (pc := 24) (tgt := 83) d_A_make_24 rfl ?_ ?_ | refine x_if_eqL (pc := 24) (tgt := 83) d_A_make_24 rfl ?_ ?_ | refine x_if_eqN (pc := 24) (tgt := 83) d_A_make_24 rfl (by omega) ?_ ?_ | refine x_if_eq (pc := 24) (tgt := 83) d_A_make_24 rfl ?_ ?_
      · intro h24
        refine x_aload_n (pc := 83) d_A_make_83 1 rfl ?_
        refine x_iconst (pc := 84) (nI 1) d_A_make_84 (by decide) ?_
        refine x_put (pc := 85) (ci := 0) (ty := .boolean) d_A_make_85 in_A t_A ty_A nm_A rfl 11 (by decide) k_A_32 rfl (by decide +kernel) rfl rfl 3 rfl (Nat.le_of_ble_eq_true rfl) (_) (rfl) ?_
        refine x_aload_n (pc := 88) d_A_make_88 1 rfl ?_
        refine x_get (pc := 89) (ci := 0) d_A_make_89 in_A rfl 6 (by decide) k_A_36 3 rfl rfl ?_
        refine x_callS_I (pc := 92) d_A_make_92 k_A_70 ws_JL_bitCount w_JL_bitCount ini_JL wd_JL_bitCount ⟨by decide, by decide⟩ ⟨rfl, rfl⟩ ⟨Nat.zero_le _, Nat.zero_le _⟩ (hbc) rfl rfl (Nat.le_of_ble_eq_true rfl) ?_
        refine x_iret (pc := 95) d_A_make_95 rfl ?_
        first | exact ⟨P1, Q1, S1, F1, R1, g1, OC1, OP1, vi1, nc1, ainv.done hv (Or.inl h24), ho, rfl, rfl⟩ | exact ⟨P1, Q1, S1, F1, R1, g1, OC1, OP1, vi1, nc1, ainv.done hv (Or.inr h31), ho, rfl, rfl⟩
      · intro h24
        refine x_iload_n (pc := 27) d_A_make_27 0 rfl ?_
        refine x_sipush (pc := 28) (nI 20000) d_A_make_28 (by decide) ?_
        first | refine x_icmp_geN (pc := 31) (tgt := 83) d_A_make_31 rfl (by omega) (by omega) ?_ ?_ | refine x_icmp_ge (pc := 31) (tgt := 83) d_A_make_31 rfl ?_ ?_
        · intro h31
          refine x_aload_n (pc := 83) d_A_make_83 1 rfl ?_
          refine x_iconst (pc := 84) (nI 1) d_A_make_84 (by decide) ?_
          refine x_put (pc := 85) (ci := 0) (ty := .boolean) d_A_make_85 in_A t_A ty_A nm_A rfl 11 (by decide) k_A_32 rfl (by decide +kernel) rfl rfl 3 rfl (Nat.le_of_ble_eq_true rfl) (_) (rfl) ?_
          refine x_aload_n (pc := 88) d_A_make_88 1 rfl ?_
          refine x_get (pc := 89) (ci := 0) d_A_make_89 in_A rfl 6 (by decide) k_A_36 3 rfl rfl ?_
          refine x_callS_I (pc := 92) d_A_make_92 k_A_70 ws_JL_bitCount w_JL_bitCount ini_JL wd_JL_bitCount ⟨by decide, by decide⟩ ⟨rfl, rfl⟩ ⟨Nat.zero_le _, Nat.zero_le _⟩ (hbc) rfl rfl (Nat.le_of_ble_eq_true rfl) ?_
          refine x_iret (pc := 95) d_A_make_95 rfl ?_
          first | exact ⟨P1, Q1, S1, F1, R1, g1, OC1, OP1, vi1, nc1, ainv.done hv (Or.inl h24), ho, rfl, rfl⟩ | exact ⟨P1, Q1, S1, F1, R1, g1, OC1, OP1, vi1, nc1, ainv.done hv (Or.inr h31), ho, rfl, rfl⟩
        · intro h31
          refine x_aload_n (pc := 34) d_A_make_34 1 rfl ?_
          refine x_iconst (pc := 35) (nI 0) d_A_make_35 (by decide) ?_
          refine x_put (pc := 36) (ci := 0) (ty := .boolean) d_A_make_36 in_A t_A ty_A nm_A rfl 10 (by decide) k_A_59 rfl (by decide +kernel) rfl rfl 3 rfl (Nat.le_of_ble_eq_true rfl) (_) (rfl) ?_
          refine x_iconst (pc := 39) (nI 0) d_A_make_39 (by decide) ?_
          refine x_istore_n (pc := 40) d_A_make_40 rfl (by decide) [(3, _), (2, _), (0, _), (1, _)] rfl ?_
          have hlq : ∀ (fuel : Nat) (s : Nat) (P3 : Nat → Int32) (Q3 : Nat → Int64) (S3 : Int64) (F3 : Nat → Int32) (R3 : Int32) (g3 : Bool) (OC3 : Nat → Int32) (OP3 : Nat → Int64) (vi3 : Nat) (nc3 : Nat), 64 - s < fuel → (s ≤ 64) → (apc (fun X Y => ∀ j, j < s → apassN cnt (anc par) prm siz atm k j X Y) false (ofw P1 Q1 S1 F1 R1) g3 (ofw P3 Q3 S3 F3 R3)) → (OP3 4 = 0) → xj E l (rmm 5 128) c_A_make 4 (some .int) R_A (gG D cI cL) A 0 0 (fun v w2 => ∃ P2 Q2 S2 F2 R2 g2 OC2 OP2 vi2 nc2, aleast cnt (anc par) prm siz atm k (ofw P2 Q2 S2 F2 R2) ∧ OP2 4 = 0 ∧ v = some (.int (nI (popL S2))) ∧ w2 = (wC ad cI cL par prm lin siz atm cnt own out bnd cal opr n ph oc P2 Q2 OC2 OP2 F2 S2 R2 vi2 nc2 g2 true)) 0 0 (wC ad cI cL par prm lin siz atm cnt own out bnd cal opr n ph oc P3 Q3 OC3 OP3 F3 S3 R3 vi3 nc3 g3 md) 41 [(3, .int (nI s)), (2, .int (nI j)), (0, .ref (ad 3)), (1, .int (nI k))] [] := by
            intro fuel
            induction fuel with
            | zero => intro s P3 Q3 S3 F3 R3 g3 OC3 OP3 vi3 nc3 hf; exact absurd hf (Nat.not_lt_zero _)
            | succ fuel ihq =>
              intro s P3 Q3 S3 F3 R3 g3 OC3 OP3 vi3 nc3 hf hs hq ho3
              have hsn := apassS hv.2.2.1 hq
              have hfu := snd_full hw hsn
              refine x_iload_n (pc := 41) d_A_make_41 0 rfl ?_
              refine x_bipush (pc := 42) (nI 64) d_A_make_42 (by decide) ?_
              first | refine x_icmp_geN (pc := 44) (tgt := 77) d_A_make_44 rfl (by omega) (by omega) ?_ ?_ | refine x_icmp_ge (pc := 44) (tgt := 77) d_A_make_44 rfl ?_ ?_
              · intro h44
                refine x_iincN (pc := 77) d_A_make_77 1 rfl (by decide) [(2, _), (3, _), (0, _), (1, _)] rfl ?_
                refine x_goto (pc := 80) (tgt := 20) d_A_make_80 rfl ?_
                refine x_sub [0, 2, 3] _ rfl ?_
                have e3 : s = 64 := by omega
                rw [e3] at hq
                rw [h24] at hv
                exact ih (j + 1) P3 Q3 S3 F3 R3 g3 OC3 OP3 vi3 nc3 (by omega) (by omega) (ainv.next hw.2.1 hv hq (ofw.fin _ _ _ _ _)) ho3
              · intro h44
                refine x_aload_n (pc := 47) d_A_make_47 2 rfl ?_
                refine x_get (pc := 48) (ci := 0) d_A_make_48 in_A rfl 6 (by decide) k_A_36 3 rfl rfl ?_
                refine x_iload_n (pc := 51) d_A_make_51 0 rfl ?_
                refine x_callS_I (pc := 52) d_A_make_52 k_A_62 ws_A_hasPair w_A_hasPair ini_A wd_A_hasPair ⟨by decide, by decide⟩ ⟨rfl, rfl⟩ ⟨Nat.zero_le _, Nat.zero_le _⟩ (t_A_hasPair (by omega)) rfl rfl (Nat.le_of_ble_eq_true rfl) ?_
                first | refine x_if_eqB (pc := 55) (tgt := 71) d_A_make_55 rfl ?_ ?_ | refine x_if_eqL (pc := 55) (tgt := 71) d_A_make_55 rfl ?_ ?_ | refine x_if_eqN (pc := 55) (tgt := 71) d_A_make_55 rfl (by omega) ?_ ?_ | refine x_if_eq (pc := 55) (tgt := 71) d_A_make_55 rfl ?_ ?_
                · intro h55
                  refine x_iincN (pc := 71) d_A_make_71 0 rfl (by decide) [(3, _), (2, _), (0, _), (1, _)] rfl ?_
                  refine x_goto (pc := 74) (tgt := 41) d_A_make_74 rfl ?_
                  refine x_sub [0, 1, 2, 3] _ rfl ?_
                  first
                    | exact ihq (s + 1) P4 Q4 S4 F4 R4 g4 OC4 OP4 vi4 nc4 (by omega) (by omega) (apc.next (N := apassN cnt (anc par) prm siz atm k) (fun j => apassN.amon _ _ _ _ _ _ j) hq (hap4.conv (fun Z hZ q h0 => q (by omega) (hZ.2.2.1 s h55) h0) (fun q _ _ h => q h))) ho4
                    | exact ihq (s + 1) P3 Q3 S3 F3 R3 g3 OC3 OP3 vi3 nc3 (by omega) (by omega) (apc.next (N := apassN cnt (anc par) prm siz atm k) (fun j => apassN.amon _ _ _ _ _ _ j) hq ((apc.skip g3 _).conv (fun _ _ _ => trivial) (fun _ _ q => bno h55 q))) ho3
                · intro h55
                  have hs8 : s < 8 * cnt := hfu.2.2.1 s h55
                  refine x_aload_n (pc := 58) d_A_make_58 2 rfl ?_
                  refine x_iload_n (pc := 59) d_A_make_59 0 rfl ?_
                  refine x_bipush (pc := 60) (nI 8) d_A_make_60 (by decide) ?_
                  first | refine x_idivN (pc := 62) d_A_make_62 (by omega) (by omega) (by omega) ?_ | refine x_idiv (pc := 62) d_A_make_62 (by decide) ?_
                  refine x_iload_n (pc := 63) d_A_make_63 0 rfl ?_
                  refine x_bipush (pc := 64) (nI 8) d_A_make_64 (by decide) ?_
                  first | refine x_iremN (pc := 66) d_A_make_66 (by omega) (by omega) (by omega) ?_ | refine x_irem (pc := 66) d_A_make_66 (by decide) ?_
                  refine x_iload_n (pc := 67) d_A_make_67 3 rfl ?_
                  refine x_callV_X (pc := 68) (ci := 0) d_A_make_68 k_A_66 wi_A_visit wv_A_visit w_A_visit ini_A wd_A_visit ⟨by decide, by decide⟩ ⟨rfl, rfl⟩ ⟨Nat.zero_le _, Nat.zero_le _⟩ 3 rfl rfl (t_A_visit hw hli (by omega) (by omega) hk ho3 (fun t q ht hq2 => hfu.2.1 t q ⟨ht, hq2⟩)) rfl rfl (Nat.le_of_ble_eq_true rfl) (fun v68 w68 hp68 => ?_)
                  obtain ⟨rfl, P4, Q4, S4, F4, R4, g4, OC4, OP4, vi4, nc4, hap4, ho4, rfl⟩ := hp68
                  refine x_iincN (pc := 71) d_A_make_71 0 rfl (by decide) [(3, _), (2, _), (0, _), (1, _)] rfl ?_
                  refine x_goto (pc := 74) (tgt := 41) d_A_make_74 rfl ?_
                  refine x_sub [0, 1, 2, 3] _ rfl ?_
                  first
                    | exact ihq (s + 1) P4 Q4 S4 F4 R4 g4 OC4 OP4 vi4 nc4 (by omega) (by omega) (apc.next (N := apassN cnt (anc par) prm siz atm k) (fun j => apassN.amon _ _ _ _ _ _ j) hq (hap4.conv (fun Z hZ q h0 => q (by omega) (hZ.2.2.1 s h55) h0) (fun q _ _ h => q h))) ho4
                    | exact ihq (s + 1) P3 Q3 S3 F3 R3 g3 OC3 OP3 vi3 nc3 (by omega) (by omega) (apc.next (N := apassN cnt (anc par) prm siz atm k) (fun j => apassN.amon _ _ _ _ _ _ j) hq ((apc.skip g3 _).conv (fun _ _ _ => trivial) (fun _ _ q => bno h55 q))) ho3
          refine x_sub [0, 1, 2, 3] _ rfl ?_
          exact hlq 65 0 P1 Q1 S1 F1 R1 false OC1 OP1 vi1 nc1 (by omega) (by omega) (apc.zero false _) ho
  refine x_sub [0, 1, 2] _ rfl ?_
  exact hlp 20001 0 (fun _ => nI 0) (fun _ => 0) (lP (8 * 0 + 0)) (fun _ => nI 0) (nI 0) true OC OP vis nc (by omega) (by omega) astart hO4
end ANA4
end
section
/-! Long.bitCount is the number of bits -/
def usr (x : Int64) (k : Nat) : Int64 := (x.toUInt64 >>> ((nI k).toInt64.toUInt64 &&& Int64.toUInt64 63)).toInt64
theorem usr_nat {x : Int64} {k : Nat} (hk : k < 64) : (usr x k).toBitVec.toNat = x.toBitVec.toNat / 2 ^ k := by
  show (x.toUInt64 >>> ((nI k).toInt64.toUInt64 &&& Int64.toUInt64 63)).toBitVec.toNat = _
  rw [UInt64.toBitVec_shiftRight]
  show (x.toUInt64.toBitVec >>> (((nI k).toInt64.toUInt64 &&& Int64.toUInt64 63).toBitVec % 64).toNat).toNat = _
  rw [s_u64 k hk, BitVec.toNat_ushiftRight, Nat.shiftRight_eq_div_pow]
  rfl
theorem and_nat (x y : Int64) : (x &&& y).toBitVec.toNat = x.toBitVec.toNat &&& y.toBitVec.toNat := by rw [Int64.toBitVec_and, BitVec.toNat_and]
theorem add_nat {x y : Int64} (h : x.toBitVec.toNat + y.toBitVec.toNat < 2 ^ 64) : (x + y).toBitVec.toNat = x.toBitVec.toNat + y.toBitVec.toNat := by
  rw [Int64.toBitVec_add, BitVec.toNat_add, Nat.mod_eq_of_lt h]
theorem sub_nat {x y : Int64} (h : y.toBitVec.toNat ≤ x.toBitVec.toNat) : (x - y).toBitVec.toNat = x.toBitVec.toNat - y.toBitVec.toNat := by
  rw [Int64.toBitVec_sub, BitVec.toNat_sub]
  have h1 := x.toBitVec.isLt
  have h2 := y.toBitVec.isLt
  omega
theorem popN_le (X : Nat) : ∀ n, popN X n ≤ n
  | 0 => Nat.le_refl 0
  | n + 1 => by
    have := popN_le X n
    show popN X n + X / 2 ^ n % 2 ≤ n + 1
    omega
theorem popN_8 (X n : Nat) : popN X (8 + n) = popN (X % 256) 8 + popN (X / 256) n := by
  rw [popN_add X 8 n]
  exact congrArg (fun z => z + popN (X / 256) n) (popN_mod X 8 8 (Nat.le_refl 8)).symm
def sumB (X : Nat) : Nat → Nat
  | 0 => 0
  | n + 1 => popN (X % 256) 8 + sumB (X / 256) n
theorem popN_sumB : ∀ (n X : Nat), popN X (8 * n) = sumB X n
  | 0, _ => rfl
  | n + 1, X => by
    rw [show 8 * (n + 1) = 8 + 8 * n by omega, popN_8, popN_sumB n]
    rfl
theorem dv {L V m : Nat} (h : L < m) : (L + m * V) / m = V := by
  rw [Nat.add_mul_div_left _ _ (Nat.lt_of_le_of_lt (Nat.zero_le _) h), Nat.div_eq_of_lt h, Nat.zero_add]
theorem z1 {p0 v v1 : Nat} (h0 : p0 ≤ 8) (e0 : v = p0 + 256 * v1) : v / 256 = v1 := by omega
theorem z2 {p0 p1 v v1 v2 : Nat} (h0 : p0 ≤ 8) (h1 : p1 ≤ 8) (e0 : v = p0 + 256 * v1) (e1 : v1 = p1 + 256 * v2) : v % 65536 ≤ 2056 ∧ v / 65536 = v2 := by
  subst e1
  subst e0
  omega
theorem z4 {p0 p1 p2 p3 v v1 v2 v3 v4 : Nat} (h0 : p0 ≤ 8) (h1 : p1 ≤ 8) (h2 : p2 ≤ 8) (h3 : p3 ≤ 8) (e0 : v = p0 + 256 * v1) (e1 : v1 = p1 + 256 * v2) (e2 : v2 = p2 + 256 * v3) (e3 : v3 = p3 + 256 * v4) : v % 4294967296 ≤ 134744072 ∧ v / 4294967296 = v4 := by
  subst e3
  subst e2
  subst e1
  subst e0
  have e : p0 + 256 * (p1 + 256 * (p2 + 256 * (p3 + 256 * v4))) = (p0 + 256 * p1 + 65536 * p2 + 16777216 * p3) + 4294967296 * v4 := by omega
  have hb : p0 + 256 * p1 + 65536 * p2 + 16777216 * p3 ≤ 134744072 := by omega
  rw [e]
  generalize p0 + 256 * p1 + 65536 * p2 + 16777216 * p3 = L at hb
  exact ⟨by omega, dv (by omega)⟩
theorem d65 {a b : Nat} (ha : a % 65536 ≤ 2056) (hb : b % 65536 ≤ 2056) : (a + b) / 65536 = a / 65536 + b / 65536 := by omega
theorem d32 {a b c d : Nat} (ha : a % 4294967296 ≤ 134744072) (hb : b % 4294967296 ≤ 134744072) (hc : c % 4294967296 ≤ 134744072) (hd : d % 4294967296 ≤ 134744072) : (a + b + (c + d)) / 4294967296 = a / 4294967296 + b / 4294967296 + (c / 4294967296 + d / 4294967296) := by omega
theorem bytes_sum {p0 p1 p2 p3 p4 p5 p6 p7 : Nat} (h0 : p0 ≤ 8) (h1 : p1 ≤ 8) (h2 : p2 ≤ 8) (h3 : p3 ≤ 8) (h4 : p4 ≤ 8) (h5 : p5 ≤ 8) (h6 : p6 ≤ 8) (h7 : p7 ≤ 8) {v v1 v2 v3 v4 v5 v6 v7 : Nat} (e0 : v = p0 + 256 * v1) (e1 : v1 = p1 + 256 * v2) (e2 : v2 = p2 + 256 * v3) (e3 : v3 = p3 + 256 * v4) (e4 : v4 = p4 + 256 * v5) (e5 : v5 = p5 + 256 * v6) (e6 : v6 = p6 + 256 * v7) (e7 : v7 = p7 + 256 * 0) :
    v / 256 = v1 ∧ (v + v1) / 65536 = v2 + v3 ∧ (v + v1 + (v2 + v3)) / 4294967296 = v4 + v5 + (v6 + v7) := by
  refine ⟨z1 h0 e0, ?_, ?_⟩
  · rw [d65 (z2 h0 h1 e0 e1).1 (z2 h1 h2 e1 e2).1, (z2 h0 h1 e0 e1).2, (z2 h1 h2 e1 e2).2]
  · rw [d32 (z4 h0 h1 h2 h3 e0 e1 e2 e3).1 (z4 h1 h2 h3 h4 e1 e2 e3 e4).1 (z4 h2 h3 h4 h5 e2 e3 e4 e5).1 (z4 h3 h4 h5 h6 e3 e4 e5 e6).1, (z4 h0 h1 h2 h3 e0 e1 e2 e3).2, (z4 h1 h2 h3 h4 e1 e2 e3 e4).2, (z4 h2 h3 h4 h5 e2 e3 e4 e5).2, (z4 h3 h4 h5 h6 e3 e4 e5 e6).2]
theorem bytes_mod {p0 p1 p2 p3 p4 p5 p6 p7 v v1 v2 v3 v4 v5 v6 v7 : Nat} (e0 : v = p0 + 256 * v1) (e1 : v1 = p1 + 256 * v2) (e2 : v2 = p2 + 256 * v3) (e3 : v3 = p3 + 256 * v4) (e4 : v4 = p4 + 256 * v5) (e5 : v5 = p5 + 256 * v6) (e6 : v6 = p6 + 256 * v7) (e7 : v7 = p7 + 256 * 0) : v + v1 + (v2 + v3) + (v4 + v5 + (v6 + v7)) = (p0 + (p1 + (p2 + (p3 + (p4 + (p5 + (p6 + (p7 + 0)))))))) + 128 * (2 * (v1 + v2 + v3 + v4 + v5 + v6 + v7)) := by omega
theorem vb_le : ∀ (n X : Nat), vbytes X n ≤ 8 * mk8 1 n
  | 0, _ => Nat.le_refl 0
  | n + 1, X => by
    have h1 := vb_le n (X / 256)
    have h2 := popN_le (X % 256) 8
    show popN (X % 256) 8 + 256 * vbytes (X / 256) n ≤ 8 * (1 + 256 * mk8 1 n)
    omega
end
section
theorem vb_s (X n : Nat) : vbytes X (n + 1) = popN (X % 256) 8 + 256 * vbytes (X / 256) n := rfl
theorem sb_s (X n : Nat) : sumB X (n + 1) = popN (X % 256) 8 + sumB (X / 256) n := rfl
theorem sb_0 (X : Nat) : sumB X 0 = 0 := rfl
theorem bitN (Y v a4 a5 a6 : Nat) (hv : v = vbytes Y 8) (h4 : a4 = v + v / 256) (h5 : a5 = a4 + a4 / 65536) (h6 : a6 = a5 + a5 / 4294967296) : a6 % 128 = popN Y 64 := by
  have hp : ∀ Z, popN Z 8 ≤ 8 := fun Z => popN_le Z 8
  have e0 := vb_s Y 7
  have e1 := vb_s (Y / 256) 6
  have e2 := vb_s (Y / 256 / 256) 5
  have e3 := vb_s (Y / 256 / 256 / 256) 4
  have e4 := vb_s (Y / 256 / 256 / 256 / 256) 3
  have e5 := vb_s (Y / 256 / 256 / 256 / 256 / 256) 2
  have e6 := vb_s (Y / 256 / 256 / 256 / 256 / 256 / 256) 1
  have e7 := vb_s (Y / 256 / 256 / 256 / 256 / 256 / 256 / 256) 0
  obtain ⟨f1, f2, f3⟩ := bytes_sum (hp _) (hp _) (hp _) (hp _) (hp _) (hp _) (hp _) (hp _) e0 e1 e2 e3 e4 e5 e6 e7
  have f4 := bytes_mod e0 e1 e2 e3 e4 e5 e6 e7
  have hs : popN Y 64 = sumB Y 8 := popN_sumB 8 Y
  have hl := popN_le Y 64
  rw [sb_s, sb_s, sb_s, sb_s, sb_s, sb_s, sb_s, sb_s, sb_0] at hs
  rw [h6, h5, h4, hv, f1, f2, f3, f4, ← hs]
  clear f1 f2 f3 f4 e0 e1 e2 e3 e4 e5 e6 e7 hs h6 h5 h4 hv hp
  generalize popN Y 64 = z at *
  rw [Nat.add_mul_mod_self_left, Nat.mod_eq_of_lt (by omega)]
theorem bnd4 {v a4 a5 a6 : Nat} (h : v ≤ 578721382704613384) (h4 : a4 = v + v / 256) (h5 : a5 = a4 + a4 / 65536) (h6 : a6 = a5 + a5 / 4294967296) : a4 ≤ 1200000000000000000 ∧ a5 ≤ 2400000000000000000 ∧ a6 ≤ 4800000000000000000 := by
  have g1 : v / 256 ≤ v := Nat.div_le_self _ _
  have g2 : a4 / 65536 ≤ a4 := Nat.div_le_self _ _
  have g3 : a5 / 4294967296 ≤ a5 := Nat.div_le_self _ _
  omega
theorem and127 {x : Int64} : (x.toInt32 &&& nI 127) = nI (x.toBitVec.toNat % 128) := by
  refine b_ext (fun i hi => ?_)
  have k : ∀ i, i < 32 → bt (nI 127) i = decide (i < 7) := by decide +kernel
  rw [b_and, k i hi, toI_bt x i hi]
  have hb : (x.toBitVec.toNat % 128) < 2 ^ 32 := by omega
  unfold bl bt
  show (x.toBitVec.toNat.testBit i && decide (i < 7)) = (BitVec.ofNat 32 (x.toBitVec.toNat % 128)).toNat.testBit i
  rw [BitVec.toNat_ofNat, Nat.mod_eq_of_lt hb, show (128 : Nat) = 2 ^ 7 from rfl, Nat.testBit_mod_two_pow]
  cases x.toBitVec.toNat.testBit i <;> cases decide (i < 7) <;> rfl
theorem bit1 {x : Int64} : (x - (usr x 1 &&& (6148914691236517205 : Int64))).toBitVec.toNat = q1 8 x.toBitVec.toNat := by
  have c5 : (6148914691236517205 : Int64).toBitVec.toNat = mk8 85 8 := by decide +kernel
  have e : (usr x 1 &&& (6148914691236517205 : Int64)).toBitVec.toNat = x.toBitVec.toNat / 2 &&& mk8 85 8 := by rw [and_nat, usr_nat (by omega), c5, Nat.pow_one]
  have l1 : x.toBitVec.toNat / 2 &&& mk8 85 8 ≤ x.toBitVec.toNat / 2 := Nat.and_le_left
  have l2 : x.toBitVec.toNat / 2 ≤ x.toBitVec.toNat := Nat.div_le_self _ _
  rw [sub_nat (by rw [e]; exact Nat.le_trans l1 l2), e]
  rfl
theorem bit2 {a : Int64} : ((a &&& (3689348814741910323 : Int64)) + (usr a 2 &&& (3689348814741910323 : Int64))).toBitVec.toNat = q2 8 a.toBitVec.toNat ∧ q2 8 a.toBitVec.toNat ≤ 7378697629483820646 := by
  have c3 : (3689348814741910323 : Int64).toBitVec.toNat = mk8 51 8 := by decide +kernel
  have k3 : mk8 51 8 = 3689348814741910323 := by decide +kernel
  have e1 : (a &&& (3689348814741910323 : Int64)).toBitVec.toNat = a.toBitVec.toNat &&& mk8 51 8 := by rw [and_nat, c3]
  have e2 : (usr a 2 &&& (3689348814741910323 : Int64)).toBitVec.toNat = a.toBitVec.toNat / 4 &&& mk8 51 8 := by rw [and_nat, usr_nat (by omega), c3]
  have l1 : a.toBitVec.toNat &&& mk8 51 8 ≤ mk8 51 8 := Nat.and_le_right
  have l2 : a.toBitVec.toNat / 4 &&& mk8 51 8 ≤ mk8 51 8 := Nat.and_le_right
  rw [k3] at l1 l2
  refine ⟨?_, ?_⟩
  · rw [add_nat (by rw [e1, e2, k3]; generalize a.toBitVec.toNat &&& 3689348814741910323 = u at *; generalize a.toBitVec.toNat / 4 &&& 3689348814741910323 = w at *; omega), e1, e2]
    rfl
  · unfold q2
    rw [k3]
    generalize a.toBitVec.toNat &&& 3689348814741910323 = u at *
    generalize a.toBitVec.toNat / 4 &&& 3689348814741910323 = w at *
    omega
theorem bit3 {a : Int64} (h : a.toBitVec.toNat ≤ 7378697629483820646) : ((a + usr a 4) &&& (1085102592571150095 : Int64)).toBitVec.toNat = q3 8 a.toBitVec.toNat := by
  have cF : (1085102592571150095 : Int64).toBitVec.toNat = mk8 15 8 := by decide +kernel
  have e1 : (usr a 4).toBitVec.toNat = a.toBitVec.toNat / 16 := by rw [usr_nat (by omega)]
  rw [and_nat, add_nat (by rw [e1]; generalize a.toBitVec.toNat = u at *; omega), e1, cF]
  rfl
theorem bitc {x a1 a2 a3 a4 a5 a6 : Int64} (h1 : a1 = x - (usr x 1 &&& (6148914691236517205 : Int64))) (h2 : a2 = (a1 &&& (3689348814741910323 : Int64)) + (usr a1 2 &&& (3689348814741910323 : Int64))) (h3 : a3 = (a2 + usr a2 4) &&& (1085102592571150095 : Int64)) (h4 : a4 = a3 + usr a3 8) (h5 : a5 = a4 + usr a4 16) (h6 : a6 = a5 + usr a5 32) : a6.toInt32 &&& nI 127 = nI (popL x) := by
  have n1 : a1.toBitVec.toNat = q1 8 x.toBitVec.toNat := by rw [h1]; exact bit1
  have n2 : a2.toBitVec.toNat = q2 8 a1.toBitVec.toNat := by rw [h2]; exact bit2.1
  have n2b : a2.toBitVec.toNat ≤ 7378697629483820646 := by rw [n2]; exact bit2.2
  have n3 : a3.toBitVec.toNat = vbytes x.toBitVec.toNat 8 := by rw [h3, bit3 n2b, n2, n1, q_bytes]
  have k1 : 8 * mk8 1 8 = 578721382704613384 := by decide +kernel
  have hv := vb_le 8 x.toBitVec.toNat
  rw [← n3, k1] at hv
  obtain ⟨b4, b5, b6⟩ := bnd4 hv rfl rfl rfl
  have u8 : (usr a3 8).toBitVec.toNat = a3.toBitVec.toNat / 256 := usr_nat (by omega)
  have n4 : a4.toBitVec.toNat = a3.toBitVec.toNat + a3.toBitVec.toNat / 256 := by
    rw [h4, add_nat (by rw [u8]; exact Nat.lt_of_le_of_lt b4 (by decide)), u8]
  have u16 : (usr a4 16).toBitVec.toNat = a4.toBitVec.toNat / 65536 := usr_nat (by omega)
  have n5 : a5.toBitVec.toNat = a4.toBitVec.toNat + a4.toBitVec.toNat / 65536 := by
    rw [h5, add_nat (by rw [u16, n4]; exact Nat.lt_of_le_of_lt b5 (by decide)), u16]
  have u32 : (usr a5 32).toBitVec.toNat = a5.toBitVec.toNat / 4294967296 := usr_nat (by omega)
  have n6 : a6.toBitVec.toNat = a5.toBitVec.toNat + a5.toBitVec.toNat / 4294967296 := by
    rw [h6, add_nat (by rw [u32, n5, n4]; exact Nat.lt_of_le_of_lt b6 (by decide)), u32]
  rw [and127, bitN x.toBitVec.toNat a3.toBitVec.toNat a4.toBitVec.toNat a5.toBitVec.toNat a6.toBitVec.toNat n3 n4 n5 n6]
  rfl
end
section
/-! Answers of the public methods -/
theorem vi {a b : Int32} {w : va_W} (h : b = a) : pI b w (some (.int a)) w := ⟨by rw [h], rfl⟩
def aval (cnt : Nat) (siz atm : Nat → Nat) (x i : Int32) : Int32 := if hpr cnt siz x i = true then nI (atm (4 * x.toNatClampNeg + i.toNatClampNeg)) else -1
theorem aval_t {cnt : Nat} {siz atm : Nat → Nat} {l j : Nat} (h : hpr cnt siz (nI l) (nI j) = true) (hl : l < 2147483648) (hj : j < 2147483648) : aval cnt siz atm (nI l) (nI j) = nI (atm (4 * l + j)) := by
  unfold aval
  rw [if_pos h, nI_clamp hl, nI_clamp hj]
theorem aval_f {cnt : Nat} {siz atm : Nat → Nat} {x i : Int32} (h : hpr cnt siz x i = false) : aval cnt siz atm x i = -1 := by
  unfold aval
  rw [if_neg (by rw [h]; decide)]
def tld (v : Int32) : Int32 := v - v / nI 1000 * nI 1000
/-- answers that ask for a lambda -/
def lval (on : Bool) (cnt : Nat) (f : Nat → Int32) (x : Int32) : Int32 := if on = true ∧ hl cnt x = true then f x.toNatClampNeg else -1
theorem lval_t {on : Bool} {cnt : Nat} {f : Nat → Int32} {l : Nat} (h1 : on = true) (hc : cnt ≤ 8) (h : l < cnt) : lval on cnt f (nI l) = f l := by
  unfold lval
  rw [if_pos ⟨h1, hl_in hc h⟩, nI_clamp (by omega)]
theorem lval_0 {on : Bool} {cnt : Nat} {f : Nat → Int32} {x : Int32} (h : on = false) : lval on cnt f x = -1 := by
  unfold lval
  rw [if_neg (fun q => by rw [h] at q; cases q.1)]
theorem lval_n {on : Bool} {cnt : Nat} {f : Nat → Int32} {x : Int32} (h : hl cnt x = false) : lval on cnt f x = -1 := by
  unfold lval
  rw [if_neg (fun q => by rw [h] at q; cases q.2)]
/-- answers that ask for a parameter -/
def qval (on : Bool) (cnt : Nat) (prm : Nat → Nat) (f : Nat → Nat → Int32) (x i : Int32) : Int32 := if on = true ∧ hpr cnt prm x i = true then f x.toNatClampNeg i.toNatClampNeg else -1
theorem qval_t {on : Bool} {cnt : Nat} {prm : Nat → Nat} {f : Nat → Nat → Int32} {l j : Nat} (h1 : on = true) (h : hpr cnt prm (nI l) (nI j) = true) (hl : l < 2147483648) (hj : j < 2147483648) : qval on cnt prm f (nI l) (nI j) = f l j := by
  unfold qval
  rw [if_pos ⟨h1, h⟩, nI_clamp hl, nI_clamp hj]
theorem qval_0 {on : Bool} {cnt : Nat} {prm : Nat → Nat} {f : Nat → Nat → Int32} {x i : Int32} (h : on = false) : qval on cnt prm f x i = -1 := by
  unfold qval
  rw [if_neg (fun q => by rw [h] at q; cases q.1)]
theorem qval_n {on : Bool} {cnt : Nat} {prm : Nat → Nat} {f : Nat → Nat → Int32} {x i : Int32} (h : hpr cnt prm x i = false) : qval on cnt prm f x i = -1 := by
  unfold qval
  rw [if_neg (fun q => by rw [h] at q; cases q.2)]
theorem dn {p : Prop} (h : ¬ ¬ p) : p := Classical.byContradiction h
theorem k100_of {y : Int32} (h1 : ¬ y < 0) (h2 : ¬ nI 100 < y) : ∃ k, k ≤ 100 ∧ y = nI k := by
  obtain ⟨j, hj, e⟩ := nI_of h1
  subst e
  exact ⟨j, Nat.le_of_not_lt (fun q => h2 ((nI_ltI (by omega) hj).mpr q)), rfl⟩
def bc1 (x : Int64) : Int64 := x - (usr x 1 &&& (6148914691236517205 : Int64))
def bc2 (x : Int64) : Int64 := (x &&& (3689348814741910323 : Int64)) + (usr x 2 &&& (3689348814741910323 : Int64))
def bc3 (x : Int64) : Int64 := (x + usr x 4) &&& (1085102592571150095 : Int64)
def bc4 (x : Int64) (k : Nat) : Int64 := x + usr x k
end
section
section BITC
variable {l : Launch} {D : va_G} {ad : Nat → Nat} {cI cL : ClassId}
set_option maxHeartbeats 4000000 in
set_option maxRecDepth 100000 in
theorem t_JL_bitCount {w : va_W} {x : Int64} : CT l y_JL_bitCount c_JL_bitCount 2 (some .int) (rmm 0 0) (gG D cI cL) [.long x] w (pI (nI (popL x)) w) := by
  refine CT.of R_JL (by decide) rfl (Nat.le_of_ble_eq_true rfl) ?_
  intro E A hname
  refine x_lload_n (pc := 0) d_JL_bitCount_0 0 rfl ?_
  refine x_lload_n (pc := 1) d_JL_bitCount_1 0 rfl ?_
  refine x_iconst (pc := 2) (nI 1) d_JL_bitCount_2 (by decide) ?_
  refine x_lushr (pc := 3) d_JL_bitCount_3 ?_
  refine x_ldc2 (pc := 4) d_JL_bitCount_4 k_JL_314 ?_
  refine x_land (pc := 7) d_JL_bitCount_7 ?_
  refine x_lsub (pc := 8) d_JL_bitCount_8 ?_
  refine x_tl (y := bc1 x) rfl ?_
  refine x_lstore_n (pc := 9) d_JL_bitCount_9 rfl (by decide) [(0, _)] rfl ?_
  refine x_lload_n (pc := 10) d_JL_bitCount_10 0 rfl ?_
  refine x_ldc2 (pc := 11) d_JL_bitCount_11 k_JL_316 ?_
  refine x_land (pc := 14) d_JL_bitCount_14 ?_
  refine x_lload_n (pc := 15) d_JL_bitCount_15 0 rfl ?_
  refine x_iconst (pc := 16) (nI 2) d_JL_bitCount_16 (by decide) ?_
  refine x_lushr (pc := 17) d_JL_bitCount_17 ?_
  refine x_ldc2 (pc := 18) d_JL_bitCount_18 k_JL_316 ?_
  refine x_land (pc := 21) d_JL_bitCount_21 ?_
  refine x_ladd (pc := 22) d_JL_bitCount_22 ?_
  refine x_tl (y := bc2 (bc1 x)) rfl ?_
  refine x_lstore_n (pc := 23) d_JL_bitCount_23 rfl (by decide) [(0, _)] rfl ?_
  refine x_lload_n (pc := 24) d_JL_bitCount_24 0 rfl ?_
  refine x_lload_n (pc := 25) d_JL_bitCount_25 0 rfl ?_
  refine x_iconst (pc := 26) (nI 4) d_JL_bitCount_26 (by decide) ?_
  refine x_lushr (pc := 27) d_JL_bitCount_27 ?_
  refine x_ladd (pc := 28) d_JL_bitCount_28 ?_
  refine x_ldc2 (pc := 29) d_JL_bitCount_29 k_JL_318 ?_
  refine x_land (pc := 32) d_JL_bitCount_32 ?_
  refine x_tl (y := bc3 (bc2 (bc1 x))) rfl ?_
  refine x_lstore_n (pc := 33) d_JL_bitCount_33 rfl (by decide) [(0, _)] rfl ?_
  refine x_lload_n (pc := 34) d_JL_bitCount_34 0 rfl ?_
  refine x_lload_n (pc := 35) d_JL_bitCount_35 0 rfl ?_
  refine x_bipush (pc := 36) (nI 8) d_JL_bitCount_36 (by decide) ?_
  refine x_lushr (pc := 38) d_JL_bitCount_38 ?_
  refine x_ladd (pc := 39) d_JL_bitCount_39 ?_
  refine x_tl (y := bc4 (bc3 (bc2 (bc1 x))) 8) rfl ?_
  refine x_lstore_n (pc := 40) d_JL_bitCount_40 rfl (by decide) [(0, _)] rfl ?_
  refine x_lload_n (pc := 41) d_JL_bitCount_41 0 rfl ?_
  refine x_lload_n (pc := 42) d_JL_bitCount_42 0 rfl ?_
  refine x_bipush (pc := 43) (nI 16) d_JL_bitCount_43 (by decide) ?_
  refine x_lushr (pc := 45) d_JL_bitCount_45 ?_
  refine x_ladd (pc := 46) d_JL_bitCount_46 ?_
  refine x_tl (y := bc4 (bc4 (bc3 (bc2 (bc1 x))) 8) 16) rfl ?_
  refine x_lstore_n (pc := 47) d_JL_bitCount_47 rfl (by decide) [(0, _)] rfl ?_
  refine x_lload_n (pc := 48) d_JL_bitCount_48 0 rfl ?_
  refine x_lload_n (pc := 49) d_JL_bitCount_49 0 rfl ?_
  refine x_bipush (pc := 50) (nI 32) d_JL_bitCount_50 (by decide) ?_
  refine x_lushr (pc := 52) d_JL_bitCount_52 ?_
  refine x_ladd (pc := 53) d_JL_bitCount_53 ?_
  refine x_tl (y := bc4 (bc4 (bc4 (bc3 (bc2 (bc1 x))) 8) 16) 32) rfl ?_
  refine x_lstore_n (pc := 54) d_JL_bitCount_54 rfl (by decide) [(0, _)] rfl ?_
  refine x_lload_n (pc := 55) d_JL_bitCount_55 0 rfl ?_
  refine x_l2i (pc := 56) d_JL_bitCount_56 ?_
  refine x_bipush (pc := 57) (nI 127) d_JL_bitCount_57 (by decide) ?_
  refine x_iand (pc := 59) d_JL_bitCount_59 ?_
  refine x_iret (pc := 60) d_JL_bitCount_60 rfl ?_
  exact ⟨congrArg (fun z => some (Value.int z)) (bitc (x := x) rfl rfl rfl rfl rfl rfl), rfl⟩
end BITC
end
section
section PUB
variable {l : Launch} {D : va_G} {ad : Nat → Nat} {cI cL : ClassId}
variable {par : Nat → Int32} {prm : Nat → Nat} {lin : Nat → Int32} {siz atm : Nat → Nat} {cnt : Nat} {own out bnd : Nat → Nat} {cal : Nat → Int32} {opr : Nat → Nat} {n ph oc : Nat} {P : Nat → Int32} {Q : Nat → Int64} {OC : Nat → Int32} {OP : Nat → Int64} {F : Nat → Int32} {S : Int64} {R : Int32} {vis nc : Nat} {gr md : Bool}
set_option maxHeartbeats 4000000 in
set_option maxRecDepth 100000 in
theorem t_C_forgetRuns  : CT l y_C_forgetRuns c_C_forgetRuns 1 none (rmm 1 20) (gG D cI cL) [.ref (ad 0)] (wC ad cI cL par prm lin siz atm cnt own out bnd cal opr n ph oc P Q OC OP F S R vis nc gr md) (pV (wC ad cI cL par prm lin siz atm cnt own out bnd cal opr n 0 oc P Q OC OP F S R vis nc gr false)) := by
  refine CT.of R_C (by decide) rfl (Nat.le_of_ble_eq_true rfl) ?_
  intro E A hname
  refine x_aload_n (pc := 0) d_C_forgetRuns_0 0 rfl ?_
  refine x_get (pc := 1) (ci := 3) d_C_forgetRuns_1 in_C rfl 1 (by decide) k_C_21 0 rfl rfl ?_
  refine x_callV_Z (pc := 4) (ci := 1) d_C_forgetRuns_4 k_C_113 wi_M_forget wv_M_forget w_M_forget ini_M wd_M_forget ⟨by decide, by decide⟩ ⟨rfl, rfl⟩ ⟨Nat.zero_le _, Nat.zero_le _⟩ 2 rfl rfl (t_M_forget) rfl rfl (Nat.le_of_ble_eq_true rfl) ?_
  refine x_aload_n (pc := 7) d_C_forgetRuns_7 0 rfl ?_
  refine x_get (pc := 8) (ci := 3) d_C_forgetRuns_8 in_C rfl 2 (by decide) k_C_28 0 rfl rfl ?_
  refine x_callV_Z (pc := 11) (ci := 0) d_C_forgetRuns_11 k_C_116 wi_A_forget wv_A_forget w_A_forget ini_A wd_A_forget ⟨by decide, by decide⟩ ⟨rfl, rfl⟩ ⟨Nat.zero_le _, Nat.zero_le _⟩ 3 rfl rfl (t_A_forget) rfl rfl (Nat.le_of_ble_eq_true rfl) ?_
  refine x_vret (pc := 14) d_C_forgetRuns_14 rfl ?_
  exact ⟨rfl, rfl⟩
set_option maxHeartbeats 4000000 in
set_option maxRecDepth 100000 in
theorem t_C_lambda {x y : Int32} (hc : cnt ≤ 8) : CT l y_C_lambda c_C_lambda 4 (some .int) (rmm 2 44) (gG D cI cL) [.ref (ad 0), .int x, .int y] (wC ad cI cL par prm lin siz atm cnt own out bnd cal opr n ph oc P Q OC OP F S R vis nc gr md) (fun v w2 => (∃ p k, lamok cnt x y p k ∧ v = some (.int (nI cnt)) ∧ w2 = (wC ad cI cL (upd par cnt (nI p)) (un prm cnt k) (upd lin cnt (lin p ||| 1 <<< (nI cnt &&& 31))) (un siz cnt 0) atm (cnt + 1) own out bnd cal opr n 0 oc P Q OC OP F S R vis nc gr false)) ∨ ((¬ ∃ p k, lamok cnt x y p k) ∧ v = some (.int (-1)) ∧ w2 = (wC ad cI cL par prm lin siz atm cnt own out bnd cal opr n ph oc P Q OC OP F S R vis nc gr md))) := by
  refine CT.of R_C (by decide) rfl (Nat.le_of_ble_eq_true rfl) ?_
  intro E A hname
  refine x_aload_n (pc := 0) d_C_lambda_0 0 rfl ?_
  refine x_get (pc := 1) (ci := 3) d_C_lambda_1 in_C rfl 0 (by decide) k_C_10 0 rfl rfl ?_
  refine x_iload_n (pc := 4) d_C_lambda_4 1 rfl ?_
  refine x_iload_n (pc := 5) d_C_lambda_5 2 rfl ?_
  refine x_callV_X (pc := 6) (ci := 2) d_C_lambda_6 k_C_32 wi_P_makeLambda wv_P_makeLambda w_P_makeLambda ini_P wd_P_makeLambda ⟨by decide, by decide⟩ ⟨rfl, rfl⟩ ⟨Nat.zero_le _, Nat.zero_le _⟩ 1 rfl rfl (t_P_makeLambda hc) rfl rfl (Nat.le_of_ble_eq_true rfl) (fun v6 w6 hp6 => ?_)
  rcases hp6 with ⟨p, k, hk, rfl, rfl⟩ | ⟨hn, rfl, rfl⟩
  · refine x_istore_n (pc := 9) d_C_lambda_9 rfl (by decide) [(3, _), (0, _), (1, _), (2, _)] rfl ?_
    refine x_iload_n (pc := 10) d_C_lambda_10 0 rfl ?_
    refine x_iconst (pc := 11) (-1) d_C_lambda_11 (by decide) ?_
    refine x_icmp_eq (pc := 12) (tgt := 19) d_C_lambda_12 rfl ?_ ?_
    · intro h12
      exact absurd h12.symm (m1_ne (by omega))
    · intro h12
      refine x_aload_n (pc := 15) d_C_lambda_15 1 rfl ?_
      refine x_callV_Z (pc := 16) (ci := 3) d_C_lambda_16 k_C_36 wi_C_forgetRuns wv_C_forgetRuns w_C_forgetRuns ini_C wd_C_forgetRuns ⟨by decide, by decide⟩ ⟨rfl, rfl⟩ ⟨Nat.zero_le _, Nat.zero_le _⟩ 0 rfl rfl (t_C_forgetRuns) rfl rfl (Nat.le_of_ble_eq_true rfl) ?_
      refine x_iload_n (pc := 19) d_C_lambda_19 0 rfl ?_
      refine x_iret (pc := 20) d_C_lambda_20 rfl ?_
      exact Or.inl ⟨p, k, hk, rfl, rfl⟩
  · refine x_istore_n (pc := 9) d_C_lambda_9 rfl (by decide) [(3, _), (0, _), (1, _), (2, _)] rfl ?_
    refine x_iload_n (pc := 10) d_C_lambda_10 0 rfl ?_
    refine x_iconst (pc := 11) (-1) d_C_lambda_11 (by decide) ?_
    refine x_icmp_eq (pc := 12) (tgt := 19) d_C_lambda_12 rfl ?_ ?_
    · intro h12
      refine x_iload_n (pc := 19) d_C_lambda_19 0 rfl ?_
      refine x_iret (pc := 20) d_C_lambda_20 rfl ?_
      exact Or.inr ⟨hn, rfl, rfl⟩
    · intro h12
      exact absurd rfl h12
set_option maxHeartbeats 4000000 in
set_option maxRecDepth 100000 in
theorem t_C_put {x y : Int32} (hw : pwf cnt par prm siz atm) (hli : linok cnt par lin) : CT l y_C_put c_C_put 4 (some .boolean) (rmm 4 88) (gG D cI cL) [.ref (ad 0), .int x, .int y] (wC ad cI cL par prm lin siz atm cnt own out bnd cal opr n ph oc P Q OC OP F S R vis nc gr md) (fun v w2 => (∃ lx b, putok cnt par prm siz x y lx b ∧ v = some (.int (bI true)) ∧ w2 = (wC ad cI cL par prm lin (un siz lx (siz lx + 1)) (un atm (4 * lx + siz lx) b) cnt own out bnd cal opr n 0 oc P Q OC OP F S R vis nc gr false)) ∨ ((¬ ∃ lx b, putok cnt par prm siz x y lx b) ∧ v = some (.int (bI false)) ∧ w2 = (wC ad cI cL par prm lin siz atm cnt own out bnd cal opr n ph oc P Q OC OP F S R vis nc gr md))) := by
  refine CT.of R_C (by decide) rfl (Nat.le_of_ble_eq_true rfl) ?_
  intro E A hname
  refine x_aload_n (pc := 0) d_C_put_0 0 rfl ?_
  refine x_get (pc := 1) (ci := 3) d_C_put_1 in_C rfl 0 (by decide) k_C_10 0 rfl rfl ?_
  refine x_iload_n (pc := 4) d_C_put_4 1 rfl ?_
  refine x_iload_n (pc := 5) d_C_put_5 2 rfl ?_
  refine x_callV_X (pc := 6) (ci := 2) d_C_put_6 k_C_39 wi_P_append wv_P_append w_P_append ini_P wd_P_append ⟨by decide, by decide⟩ ⟨rfl, rfl⟩ ⟨Nat.zero_le _, Nat.zero_le _⟩ 1 rfl rfl (t_P_append hw hli) rfl rfl (Nat.le_of_ble_eq_true rfl) (fun v6 w6 hp6 => ?_)
  rcases hp6 with ⟨lx, b, hk, rfl, rfl⟩ | ⟨hn, rfl, rfl⟩
  · refine x_istore_n (pc := 9) d_C_put_9 rfl (by decide) [(3, _), (0, _), (1, _), (2, _)] rfl ?_
    refine x_iload_n (pc := 10) d_C_put_10 0 rfl ?_
    first | refine x_if_eqB (pc := 11) (tgt := 18) d_C_put_11 rfl ?_ ?_ | refine x_if_eqL (pc := 11) (tgt := 18) d_C_put_11 rfl ?_ ?_ | refine x_if_eqN (pc := 11) (tgt := 18) d_C_put_11 rfl (by omega) ?_ ?_ | refine x_if_eq (pc := 11) (tgt := 18) d_C_put_11 rfl ?_ ?_
    · intro h11
      cases h11
    · intro h11
      refine x_aload_n (pc := 14) d_C_put_14 1 rfl ?_
      refine x_callV_Z (pc := 15) (ci := 3) d_C_put_15 k_C_36 wi_C_forgetRuns wv_C_forgetRuns w_C_forgetRuns ini_C wd_C_forgetRuns ⟨by decide, by decide⟩ ⟨rfl, rfl⟩ ⟨Nat.zero_le _, Nat.zero_le _⟩ 0 rfl rfl (t_C_forgetRuns) rfl rfl (Nat.le_of_ble_eq_true rfl) ?_
      refine x_iload_n (pc := 18) d_C_put_18 0 rfl ?_
      refine x_zret (pc := 19) d_C_put_19 rfl (by first | rfl | exact bI_narrow _) ?_
      exact Or.inl ⟨lx, b, hk, rfl, rfl⟩
  · refine x_istore_n (pc := 9) d_C_put_9 rfl (by decide) [(3, _), (0, _), (1, _), (2, _)] rfl ?_
    refine x_iload_n (pc := 10) d_C_put_10 0 rfl ?_
    first | refine x_if_eqB (pc := 11) (tgt := 18) d_C_put_11 rfl ?_ ?_ | refine x_if_eqL (pc := 11) (tgt := 18) d_C_put_11 rfl ?_ ?_ | refine x_if_eqN (pc := 11) (tgt := 18) d_C_put_11 rfl (by omega) ?_ ?_ | refine x_if_eq (pc := 11) (tgt := 18) d_C_put_11 rfl ?_ ?_
    · intro h11
      refine x_iload_n (pc := 18) d_C_put_18 0 rfl ?_
      refine x_zret (pc := 19) d_C_put_19 rfl (by first | rfl | exact bI_narrow _) ?_
      exact Or.inr ⟨hn, rfl, rfl⟩
    · intro h11
      cases h11
set_option maxHeartbeats 4000000 in
set_option maxRecDepth 100000 in
theorem t_C_clear  : CT l y_C_clear c_C_clear 1 none (rmm 2 40) (gG D cI cL) [.ref (ad 0)] (wC ad cI cL par prm lin siz atm cnt own out bnd cal opr n ph oc P Q OC OP F S R vis nc gr md) (pV (wC ad cI cL par prm lin (un siz 0 0) atm 1 own out bnd cal opr n 0 oc P Q OC OP F S R vis nc gr false)) := by
  refine CT.of R_C (by decide) rfl (Nat.le_of_ble_eq_true rfl) ?_
  intro E A hname
  refine x_aload_n (pc := 0) d_C_clear_0 0 rfl ?_
  refine x_get (pc := 1) (ci := 3) d_C_clear_1 in_C rfl 0 (by decide) k_C_10 0 rfl rfl ?_
  refine x_callV_Z (pc := 4) (ci := 2) d_C_clear_4 k_C_43 wi_P_empty wv_P_empty w_P_empty ini_P wd_P_empty ⟨by decide, by decide⟩ ⟨rfl, rfl⟩ ⟨Nat.zero_le _, Nat.zero_le _⟩ 1 rfl rfl (t_P_empty) rfl rfl (Nat.le_of_ble_eq_true rfl) ?_
  refine x_aload_n (pc := 7) d_C_clear_7 0 rfl ?_
  refine x_callV_Z (pc := 8) (ci := 3) d_C_clear_8 k_C_36 wi_C_forgetRuns wv_C_forgetRuns w_C_forgetRuns ini_C wd_C_forgetRuns ⟨by decide, by decide⟩ ⟨rfl, rfl⟩ ⟨Nat.zero_le _, Nat.zero_le _⟩ 0 rfl rfl (t_C_forgetRuns) rfl rfl (Nat.le_of_ble_eq_true rfl) ?_
  refine x_vret (pc := 11) d_C_clear_11 rfl ?_
  exact ⟨rfl, rfl⟩
set_option maxHeartbeats 4000000 in
set_option maxRecDepth 100000 in
theorem t_C_lambdas  : CT l y_C_lambdas c_C_lambdas 1 (some .int) (rmm 1 20) (gG D cI cL) [.ref (ad 0)] (wC ad cI cL par prm lin siz atm cnt own out bnd cal opr n ph oc P Q OC OP F S R vis nc gr md) (pI (nI cnt) (wC ad cI cL par prm lin siz atm cnt own out bnd cal opr n ph oc P Q OC OP F S R vis nc gr md)) := by
  refine CT.of R_C (by decide) rfl (Nat.le_of_ble_eq_true rfl) ?_
  intro E A hname
  refine x_aload_n (pc := 0) d_C_lambdas_0 0 rfl ?_
  refine x_get (pc := 1) (ci := 3) d_C_lambdas_1 in_C rfl 0 (by decide) k_C_10 0 rfl rfl ?_
  refine x_callV_I (pc := 4) (ci := 2) d_C_lambdas_4 k_C_46 wi_P_size wv_P_size w_P_size ini_P wd_P_size ⟨by decide, by decide⟩ ⟨rfl, rfl⟩ ⟨Nat.zero_le _, Nat.zero_le _⟩ 1 rfl rfl (t_P_size) rfl rfl (Nat.le_of_ble_eq_true rfl) ?_
  refine x_iret (pc := 7) d_C_lambdas_7 rfl ?_
  exact ⟨rfl, rfl⟩
set_option maxHeartbeats 4000000 in
set_option maxRecDepth 100000 in
theorem t_C_atom {x i : Int32} (hw : pwf cnt par prm siz atm) : CT l y_C_atom c_C_atom 3 (some .int) (rmm 2 43) (gG D cI cL) [.ref (ad 0), .int x, .int i] (wC ad cI cL par prm lin siz atm cnt own out bnd cal opr n ph oc P Q OC OP F S R vis nc gr md) (pI (aval cnt siz atm x i) (wC ad cI cL par prm lin siz atm cnt own out bnd cal opr n ph oc P Q OC OP F S R vis nc gr md)) := by
  refine CT.of R_C (by decide) rfl (Nat.le_of_ble_eq_true rfl) ?_
  intro E A hname
  refine x_aload_n (pc := 0) d_C_atom_0 0 rfl ?_
  refine x_get (pc := 1) (ci := 3) d_C_atom_1 in_C rfl 0 (by decide) k_C_10 0 rfl rfl ?_
  refine x_iload_n (pc := 4) d_C_atom_4 1 rfl ?_
  refine x_iload_n (pc := 5) d_C_atom_5 2 rfl ?_
  refine x_callV_I (pc := 6) (ci := 2) d_C_atom_6 k_C_50 wi_P_hasAtom wv_P_hasAtom w_P_hasAtom ini_P wd_P_hasAtom ⟨by decide, by decide⟩ ⟨rfl, rfl⟩ ⟨Nat.zero_le _, Nat.zero_le _⟩ 1 rfl rfl (t_P_hasAtom hw.2.1) rfl rfl (Nat.le_of_ble_eq_true rfl) ?_
  first | refine x_if_eqB (pc := 9) (tgt := 24) d_C_atom_9 rfl ?_ ?_ | refine x_if_eqL (pc := 9) (tgt := 24) d_C_atom_9 rfl ?_ ?_ | refine x_if_eqN (pc := 9) (tgt := 24) d_C_atom_9 rfl (by omega) ?_ ?_ | refine x_if_eq (pc := 9) (tgt := 24) d_C_atom_9 rfl ?_ ?_
  · intro h9
    refine x_iconst (pc := 24) (-1) d_C_atom_24 (by decide) ?_
    refine x_iret (pc := 25) d_C_atom_25 rfl ?_
    first | exact ⟨congrArg (fun z => some (Value.int z)) (aval_t h9b (by omega) (by omega)).symm, rfl⟩ | exact ⟨congrArg (fun z => some (Value.int z)) (aval_f h9).symm, rfl⟩
  · intro h9
    have h9b := h9
    obtain ⟨lx, ix, hlx, hix, rfl, rfl⟩ := hpr_of hw.2.1 hw.2.2.2.2.2.1 h9
    have hc8 := hw.2.1
    have hz := hw.2.2.2.2.2.1 lx (by omega)
    refine x_aload_n (pc := 12) d_C_atom_12 0 rfl ?_
    refine x_get (pc := 13) (ci := 3) d_C_atom_13 in_C rfl 0 (by decide) k_C_10 0 rfl rfl ?_
    refine x_iload_n (pc := 16) d_C_atom_16 1 rfl ?_
    refine x_iload_n (pc := 17) d_C_atom_17 2 rfl ?_
    refine x_callV_I (pc := 18) (ci := 2) d_C_atom_18 k_C_53 wi_P_atomOf wv_P_atomOf w_P_atomOf ini_P wd_P_atomOf ⟨by decide, by decide⟩ ⟨rfl, rfl⟩ ⟨Nat.zero_le _, Nat.zero_le _⟩ 1 rfl rfl (t_P_atomOf (by omega) (by omega)) rfl rfl (Nat.le_of_ble_eq_true rfl) ?_
    refine x_goto (pc := 21) (tgt := 25) d_C_atom_21 rfl ?_
    refine x_iret (pc := 25) d_C_atom_25 rfl ?_
    first | exact ⟨congrArg (fun z => some (Value.int z)) (aval_t h9b (by omega) (by omega)).symm, rfl⟩ | exact ⟨congrArg (fun z => some (Value.int z)) (aval_f h9).symm, rfl⟩
set_option maxHeartbeats 4000000 in
set_option maxRecDepth 100000 in
theorem t_C_start  : CT l y_C_start c_C_start 1 none (rmm 2 43) (gG D cI cL) [.ref (ad 0)] (wC ad cI cL par prm lin siz atm cnt own out bnd cal opr n ph oc P Q OC OP F S R vis nc gr md) (pV (wC ad cI cL par prm lin siz atm cnt own out bnd (fun _ => 0) opr 0 1 oc P Q OC OP F S R vis nc gr md)) := by
  refine CT.of R_C (by decide) rfl (Nat.le_of_ble_eq_true rfl) ?_
  intro E A hname
  refine x_aload_n (pc := 0) d_C_start_0 0 rfl ?_
  refine x_get (pc := 1) (ci := 3) d_C_start_1 in_C rfl 1 (by decide) k_C_21 0 rfl rfl ?_
  refine x_callV_Z (pc := 4) (ci := 1) d_C_start_4 k_C_56 wi_M_begin wv_M_begin w_M_begin ini_M wd_M_begin ⟨by decide, by decide⟩ ⟨rfl, rfl⟩ ⟨Nat.zero_le _, Nat.zero_le _⟩ 2 rfl rfl (t_M_begin) rfl rfl (Nat.le_of_ble_eq_true rfl) ?_
  refine x_vret (pc := 7) d_C_start_7 rfl ?_
  exact ⟨rfl, rfl⟩
set_option maxHeartbeats 4000000 in
set_option maxRecDepth 100000 in
theorem t_C_step {x : Int32} (hw : pwf cnt par prm siz atm) (hph : ph ≤ 4) (hs : ¬ ph = 0 → swf cnt par prm (n, own, out, bnd, cal, ph, oc)) (hopr : ∀ i, i < 4 → opr i < 100000) : CT l y_C_step c_C_step 2 (some .int) (rmm 6 133) (gG D cI cL) [.ref (ad 0), .int x] (wC ad cI cL par prm lin siz atm cnt own out bnd cal opr n ph oc P Q OC OP F S R vis nc gr md) (fun v w2 => (∃ k s2 o2, k ≤ 100 ∧ x = nI k ∧ (¬ ph = 0) ∧ s2 = (madv prm siz atm k (n, own, out, bnd, cal, ph, oc)).1 ∧ swf cnt par prm s2 ∧ (∀ i, i < 4 → o2 i < 100000) ∧ v = some (.int (nI (madv prm siz atm k (n, own, out, bnd, cal, ph, oc)).2)) ∧ w2 = (wC ad cI cL par prm lin siz atm cnt s2.2.1 s2.2.2.1 s2.2.2.2.1 s2.2.2.2.2.1 o2 s2.1 s2.2.2.2.2.2.1 s2.2.2.2.2.2.2 P Q OC OP F S R vis nc gr md)) ∨ ((ph = 0 ∨ ¬ ∃ k, k ≤ 100 ∧ x = nI k) ∧ v = some (.int (-1)) ∧ w2 = (wC ad cI cL par prm lin siz atm cnt own out bnd cal opr n ph oc P Q OC OP F S R vis nc gr md))) := by
  refine CT.of R_C (by decide) rfl (Nat.le_of_ble_eq_true rfl) ?_
  intro E A hname
  refine x_iload_n (pc := 0) d_C_step_0 1 rfl ?_
  refine x_if_lt (pc := 1) (tgt := 20) d_C_step_1 rfl ?_ ?_
  · intro h1
    refine x_iconst (pc := 20) (-1) d_C_step_20 (by decide) ?_
    refine x_iret (pc := 21) d_C_step_21 rfl ?_
    first
      | exact Or.inr ⟨Or.inr (fun q => by obtain ⟨k, hk, rfl⟩ := q; exact nI_pos (by omega) h1), rfl, rfl⟩
      | exact Or.inr ⟨Or.inr (fun q => by obtain ⟨k, hk, rfl⟩ := q; exact nI_nlt (by omega) (by omega) h7), rfl, rfl⟩
      | exact Or.inr ⟨Or.inl (dn (of_decide_eq_false h17)), rfl, rfl⟩
  · intro h1
    refine x_iload_n (pc := 4) d_C_step_4 1 rfl ?_
    refine x_bipush (pc := 5) (nI 100) d_C_step_5 (by decide) ?_
    first | refine x_icmp_gtN (pc := 7) (tgt := 20) d_C_step_7 rfl (by omega) (by omega) ?_ ?_ | refine x_icmp_gt (pc := 7) (tgt := 20) d_C_step_7 rfl ?_ ?_
    · intro h7
      refine x_iconst (pc := 20) (-1) d_C_step_20 (by decide) ?_
      refine x_iret (pc := 21) d_C_step_21 rfl ?_
      first
        | exact Or.inr ⟨Or.inr (fun q => by obtain ⟨k, hk, rfl⟩ := q; exact nI_pos (by omega) h1), rfl, rfl⟩
        | exact Or.inr ⟨Or.inr (fun q => by obtain ⟨k, hk, rfl⟩ := q; exact nI_nlt (by omega) (by omega) h7), rfl, rfl⟩
        | exact Or.inr ⟨Or.inl (dn (of_decide_eq_false h17)), rfl, rfl⟩
    · intro h7
      obtain ⟨k, hk, rfl⟩ := k100_of h1 h7
      refine x_aload_n (pc := 10) d_C_step_10 0 rfl ?_
      refine x_get (pc := 11) (ci := 3) d_C_step_11 in_C rfl 1 (by decide) k_C_21 0 rfl rfl ?_
      refine x_callV_I (pc := 14) (ci := 1) d_C_step_14 k_C_59 wi_M_isStarted wv_M_isStarted w_M_isStarted ini_M wd_M_isStarted ⟨by decide, by decide⟩ ⟨rfl, rfl⟩ ⟨Nat.zero_le _, Nat.zero_le _⟩ 2 rfl rfl (t_M_isStarted hph) rfl rfl (Nat.le_of_ble_eq_true rfl) ?_
      first | refine x_if_neB (pc := 17) (tgt := 22) d_C_step_17 rfl ?_ ?_ | refine x_if_neL (pc := 17) (tgt := 22) d_C_step_17 rfl ?_ ?_ | refine x_if_neN (pc := 17) (tgt := 22) d_C_step_17 rfl (by omega) ?_ ?_ | refine x_if_ne (pc := 17) (tgt := 22) d_C_step_17 rfl ?_ ?_
      · intro h17
        have g17 := of_decide_eq_true h17
        refine x_aload_n (pc := 22) d_C_step_22 0 rfl ?_
        refine x_get (pc := 23) (ci := 3) d_C_step_23 in_C rfl 1 (by decide) k_C_21 0 rfl rfl ?_
        refine x_iload_n (pc := 26) d_C_step_26 1 rfl ?_
        refine x_callV_X (pc := 27) (ci := 1) d_C_step_27 k_C_63 wi_M_advance wv_M_advance w_M_advance ini_M wd_M_advance ⟨by decide, by decide⟩ ⟨rfl, rfl⟩ ⟨Nat.zero_le _, Nat.zero_le _⟩ 2 rfl rfl (t_M_advance hw (hs g17) hopr hk) rfl rfl (Nat.le_of_ble_eq_true rfl) (fun v27 w27 hp27 => ?_)
        obtain ⟨s2, o2, a1, a2, a3, rfl, rfl⟩ := hp27
        refine x_iret (pc := 30) d_C_step_30 rfl ?_
        exact Or.inl ⟨k, s2, o2, hk, rfl, g17, a1, a2, a3, rfl, rfl⟩
      · intro h17
        refine x_iconst (pc := 20) (-1) d_C_step_20 (by decide) ?_
        refine x_iret (pc := 21) d_C_step_21 rfl ?_
        first
          | exact Or.inr ⟨Or.inr (fun q => by obtain ⟨k, hk, rfl⟩ := q; exact nI_pos (by omega) h1), rfl, rfl⟩
          | exact Or.inr ⟨Or.inr (fun q => by obtain ⟨k, hk, rfl⟩ := q; exact nI_nlt (by omega) (by omega) h7), rfl, rfl⟩
          | exact Or.inr ⟨Or.inl (dn (of_decide_eq_false h17)), rfl, rfl⟩
set_option maxHeartbeats 4000000 in
set_option maxRecDepth 100000 in
theorem t_C_state  : CT l y_C_state c_C_state 1 (some .int) (rmm 1 20) (gG D cI cL) [.ref (ad 0)] (wC ad cI cL par prm lin siz atm cnt own out bnd cal opr n ph oc P Q OC OP F S R vis nc gr md) (pI (nI ph) (wC ad cI cL par prm lin siz atm cnt own out bnd cal opr n ph oc P Q OC OP F S R vis nc gr md)) := by
  refine CT.of R_C (by decide) rfl (Nat.le_of_ble_eq_true rfl) ?_
  intro E A hname
  refine x_aload_n (pc := 0) d_C_state_0 0 rfl ?_
  refine x_get (pc := 1) (ci := 3) d_C_state_1 in_C rfl 1 (by decide) k_C_21 0 rfl rfl ?_
  refine x_callV_I (pc := 4) (ci := 1) d_C_state_4 k_C_67 wi_M_phase wv_M_phase w_M_phase ini_M wd_M_phase ⟨by decide, by decide⟩ ⟨rfl, rfl⟩ ⟨Nat.zero_le _, Nat.zero_le _⟩ 2 rfl rfl (t_M_phase) rfl rfl (Nat.le_of_ble_eq_true rfl) ?_
  refine x_iret (pc := 7) d_C_state_7 rfl ?_
  exact ⟨rfl, rfl⟩
set_option maxHeartbeats 4000000 in
set_option maxRecDepth 100000 in
theorem t_C_at (hph : ph ≤ 4) (hn : ¬ ph = 0 → n ≤ 64) : CT l y_C_at c_C_at 1 (some .int) (rmm 1 20) (gG D cI cL) [.ref (ad 0)] (wC ad cI cL par prm lin siz atm cnt own out bnd cal opr n ph oc P Q OC OP F S R vis nc gr md) (pI (if ph = 0 then -1 else nI (own n)) (wC ad cI cL par prm lin siz atm cnt own out bnd cal opr n ph oc P Q OC OP F S R vis nc gr md)) := by
  refine CT.of R_C (by decide) rfl (Nat.le_of_ble_eq_true rfl) ?_
  intro E A hname
  refine x_aload_n (pc := 0) d_C_at_0 0 rfl ?_
  refine x_get (pc := 1) (ci := 3) d_C_at_1 in_C rfl 1 (by decide) k_C_21 0 rfl rfl ?_
  refine x_callV_I (pc := 4) (ci := 1) d_C_at_4 k_C_59 wi_M_isStarted wv_M_isStarted w_M_isStarted ini_M wd_M_isStarted ⟨by decide, by decide⟩ ⟨rfl, rfl⟩ ⟨Nat.zero_le _, Nat.zero_le _⟩ 2 rfl rfl (t_M_isStarted hph) rfl rfl (Nat.le_of_ble_eq_true rfl) ?_
  first | refine x_if_eqB (pc := 7) (tgt := 20) d_C_at_7 rfl ?_ ?_ | refine x_if_eqL (pc := 7) (tgt := 20) d_C_at_7 rfl ?_ ?_ | refine x_if_eqN (pc := 7) (tgt := 20) d_C_at_7 rfl (by omega) ?_ ?_ | refine x_if_eq (pc := 7) (tgt := 20) d_C_at_7 rfl ?_ ?_
  · intro h7
    have g7 := dn (of_decide_eq_false h7)
    refine x_iconst (pc := 20) (-1) d_C_at_20 (by decide) ?_
    refine x_iret (pc := 21) d_C_at_21 rfl ?_
    first | exact ⟨congrArg (fun z => some (Value.int z)) (if_neg g7).symm, rfl⟩ | exact ⟨congrArg (fun z => some (Value.int z)) (if_pos g7).symm, rfl⟩
  · intro h7
    have g7 := of_decide_eq_true h7
    refine x_aload_n (pc := 10) d_C_at_10 0 rfl ?_
    refine x_get (pc := 11) (ci := 3) d_C_at_11 in_C rfl 1 (by decide) k_C_21 0 rfl rfl ?_
    refine x_callV_I (pc := 14) (ci := 1) d_C_at_14 k_C_70 wi_M_place wv_M_place w_M_place ini_M wd_M_place ⟨by decide, by decide⟩ ⟨rfl, rfl⟩ ⟨Nat.zero_le _, Nat.zero_le _⟩ 2 rfl rfl (t_M_place (hn g7)) rfl rfl (Nat.le_of_ble_eq_true rfl) ?_
    refine x_goto (pc := 17) (tgt := 21) d_C_at_17 rfl ?_
    refine x_iret (pc := 21) d_C_at_21 rfl ?_
    first | exact ⟨congrArg (fun z => some (Value.int z)) (if_neg g7).symm, rfl⟩ | exact ⟨congrArg (fun z => some (Value.int z)) (if_pos g7).symm, rfl⟩
set_option maxHeartbeats 4000000 in
set_option maxRecDepth 100000 in
theorem t_C_value {x i : Int32} (hw : pwf cnt par prm siz atm) (hph : ph ≤ 4) (hm : ¬ ph = 0 → mwf cnt par prm n own out bnd) : CT l y_C_value c_C_value 3 (some .int) (rmm 3 67) (gG D cI cL) [.ref (ad 0), .int x, .int i] (wC ad cI cL par prm lin siz atm cnt own out bnd cal opr n ph oc P Q OC OP F S R vis nc gr md) (pI (if ph = 0 then -1 else tld (bval cnt prm n own out bnd x i)) (wC ad cI cL par prm lin siz atm cnt own out bnd cal opr n ph oc P Q OC OP F S R vis nc gr md)) := by
  refine CT.of R_C (by decide) rfl (Nat.le_of_ble_eq_true rfl) ?_
  intro E A hname
  refine x_aload_n (pc := 0) d_C_value_0 0 rfl ?_
  refine x_get (pc := 1) (ci := 3) d_C_value_1 in_C rfl 1 (by decide) k_C_21 0 rfl rfl ?_
  refine x_callV_I (pc := 4) (ci := 1) d_C_value_4 k_C_59 wi_M_isStarted wv_M_isStarted w_M_isStarted ini_M wd_M_isStarted ⟨by decide, by decide⟩ ⟨rfl, rfl⟩ ⟨Nat.zero_le _, Nat.zero_le _⟩ 2 rfl rfl (t_M_isStarted hph) rfl rfl (Nat.le_of_ble_eq_true rfl) ?_
  first | refine x_if_eqB (pc := 7) (tgt := 25) d_C_value_7 rfl ?_ ?_ | refine x_if_eqL (pc := 7) (tgt := 25) d_C_value_7 rfl ?_ ?_ | refine x_if_eqN (pc := 7) (tgt := 25) d_C_value_7 rfl (by omega) ?_ ?_ | refine x_if_eq (pc := 7) (tgt := 25) d_C_value_7 rfl ?_ ?_
  · intro h7
    have g7 := dn (of_decide_eq_false h7)
    refine x_iconst (pc := 25) (-1) d_C_value_25 (by decide) ?_
    refine x_iret (pc := 26) d_C_value_26 rfl ?_
    first | exact ⟨congrArg (fun z => some (Value.int z)) (if_neg g7).symm, rfl⟩ | exact ⟨congrArg (fun z => some (Value.int z)) (if_pos g7).symm, rfl⟩
  · intro h7
    have g7 := of_decide_eq_true h7
    refine x_aload_n (pc := 10) d_C_value_10 0 rfl ?_
    refine x_get (pc := 11) (ci := 3) d_C_value_11 in_C rfl 1 (by decide) k_C_21 0 rfl rfl ?_
    refine x_iload_n (pc := 14) d_C_value_14 1 rfl ?_
    refine x_iload_n (pc := 15) d_C_value_15 2 rfl ?_
    refine x_callV_I (pc := 16) (ci := 1) d_C_value_16 k_C_73 wi_M_bound wv_M_bound w_M_bound ini_M wd_M_bound ⟨by decide, by decide⟩ ⟨rfl, rfl⟩ ⟨Nat.zero_le _, Nat.zero_le _⟩ 2 rfl rfl (t_M_bound hw (hm g7)) rfl rfl (Nat.le_of_ble_eq_true rfl) ?_
    refine x_callS_I (pc := 19) d_C_value_19 k_C_76 ws_C_told w_C_told ini_C wd_C_told ⟨by decide, by decide⟩ ⟨rfl, rfl⟩ ⟨Nat.zero_le _, Nat.zero_le _⟩ (t_C_told) rfl rfl (Nat.le_of_ble_eq_true rfl) ?_
    refine x_goto (pc := 22) (tgt := 26) d_C_value_22 rfl ?_
    refine x_iret (pc := 26) d_C_value_26 rfl ?_
    first | exact ⟨congrArg (fun z => some (Value.int z)) (if_neg g7).symm, rfl⟩ | exact ⟨congrArg (fun z => some (Value.int z)) (if_pos g7).symm, rfl⟩
set_option maxHeartbeats 4000000 in
set_option maxRecDepth 100000 in
theorem t_C_result (hph : ph ≤ 4) : CT l y_C_result c_C_result 1 (some .int) (rmm 1 20) (gG D cI cL) [.ref (ad 0)] (wC ad cI cL par prm lin siz atm cnt own out bnd cal opr n ph oc P Q OC OP F S R vis nc gr md) (pI (if ph = 2 then tld (nI oc) else -1) (wC ad cI cL par prm lin siz atm cnt own out bnd cal opr n ph oc P Q OC OP F S R vis nc gr md)) := by
  refine CT.of R_C (by decide) rfl (Nat.le_of_ble_eq_true rfl) ?_
  intro E A hname
  refine x_aload_n (pc := 0) d_C_result_0 0 rfl ?_
  refine x_get (pc := 1) (ci := 3) d_C_result_1 in_C rfl 1 (by decide) k_C_21 0 rfl rfl ?_
  refine x_callV_I (pc := 4) (ci := 1) d_C_result_4 k_C_67 wi_M_phase wv_M_phase w_M_phase ini_M wd_M_phase ⟨by decide, by decide⟩ ⟨rfl, rfl⟩ ⟨Nat.zero_le _, Nat.zero_le _⟩ 2 rfl rfl (t_M_phase) rfl rfl (Nat.le_of_ble_eq_true rfl) ?_
  refine x_iconst (pc := 7) (nI 2) d_C_result_7 (by decide) ?_
  first | refine x_icmp_neN (pc := 8) (tgt := 24) d_C_result_8 rfl (by omega) (by omega) ?_ ?_ | refine x_icmp_ne (pc := 8) (tgt := 24) d_C_result_8 rfl ?_ ?_
  · intro h8
    refine x_iconst (pc := 24) (-1) d_C_result_24 (by decide) ?_
    refine x_iret (pc := 25) d_C_result_25 rfl ?_
    first | exact ⟨congrArg (fun z => some (Value.int z)) (if_pos h8).symm, rfl⟩ | exact ⟨congrArg (fun z => some (Value.int z)) (if_neg h8).symm, rfl⟩
  · intro h8
    refine x_aload_n (pc := 11) d_C_result_11 0 rfl ?_
    refine x_get (pc := 12) (ci := 3) d_C_result_12 in_C rfl 1 (by decide) k_C_21 0 rfl rfl ?_
    refine x_callV_I (pc := 15) (ci := 1) d_C_result_15 k_C_79 wi_M_outcome wv_M_outcome w_M_outcome ini_M wd_M_outcome ⟨by decide, by decide⟩ ⟨rfl, rfl⟩ ⟨Nat.zero_le _, Nat.zero_le _⟩ 2 rfl rfl (t_M_outcome) rfl rfl (Nat.le_of_ble_eq_true rfl) ?_
    refine x_callS_I (pc := 18) d_C_result_18 k_C_76 ws_C_told w_C_told ini_C wd_C_told ⟨by decide, by decide⟩ ⟨rfl, rfl⟩ ⟨Nat.zero_le _, Nat.zero_le _⟩ (t_C_told) rfl rfl (Nat.le_of_ble_eq_true rfl) ?_
    refine x_goto (pc := 21) (tgt := 25) d_C_result_21 rfl ?_
    refine x_iret (pc := 25) d_C_result_25 rfl ?_
    first | exact ⟨congrArg (fun z => some (Value.int z)) (if_pos h8).symm, rfl⟩ | exact ⟨congrArg (fun z => some (Value.int z)) (if_neg h8).symm, rfl⟩
set_option maxHeartbeats 4000000 in
set_option maxRecDepth 100000 in
theorem t_C_called {x : Int32} (hc : cnt ≤ 8) (hph : ph ≤ 4) : CT l y_C_called c_C_called 2 (some .int) (rmm 1 21) (gG D cI cL) [.ref (ad 0), .int x] (wC ad cI cL par prm lin siz atm cnt own out bnd cal opr n ph oc P Q OC OP F S R vis nc gr md) (pI (lval (decide (¬ ph = 0)) cnt cal x) (wC ad cI cL par prm lin siz atm cnt own out bnd cal opr n ph oc P Q OC OP F S R vis nc gr md)) := by
  refine CT.of R_C (by decide) rfl (Nat.le_of_ble_eq_true rfl) ?_
  intro E A hname
  refine x_aload_n (pc := 0) d_C_called_0 0 rfl ?_
  refine x_get (pc := 1) (ci := 3) d_C_called_1 in_C rfl 1 (by decide) k_C_21 0 rfl rfl ?_
  refine x_callV_I (pc := 4) (ci := 1) d_C_called_4 k_C_59 wi_M_isStarted wv_M_isStarted w_M_isStarted ini_M wd_M_isStarted ⟨by decide, by decide⟩ ⟨rfl, rfl⟩ ⟨Nat.zero_le _, Nat.zero_le _⟩ 2 rfl rfl (t_M_isStarted hph) rfl rfl (Nat.le_of_ble_eq_true rfl) ?_
  first | refine x_if_eqB (pc := 7) (tgt := 32) d_C_called_7 rfl ?_ ?_ | refine x_if_eqL (pc := 7) (tgt := 32) d_C_called_7 rfl ?_ ?_ | refine x_if_eqN (pc := 7) (tgt := 32) d_C_called_7 rfl (by omega) ?_ ?_ | refine x_if_eq (pc := 7) (tgt := 32) d_C_called_7 rfl ?_ ?_
  · intro h7
    refine x_iconst (pc := 32) (-1) d_C_called_32 (by decide) ?_
    refine x_iret (pc := 33) d_C_called_33 rfl ?_
    first | exact ⟨congrArg (fun z => some (Value.int z)) (lval_t h7 hc hlx).symm, rfl⟩ | exact ⟨congrArg (fun z => some (Value.int z)) (lval_0 h7).symm, rfl⟩ | exact ⟨congrArg (fun z => some (Value.int z)) (lval_n h18).symm, rfl⟩
  · intro h7
    refine x_aload_n (pc := 10) d_C_called_10 0 rfl ?_
    refine x_get (pc := 11) (ci := 3) d_C_called_11 in_C rfl 0 (by decide) k_C_10 0 rfl rfl ?_
    refine x_iload_n (pc := 14) d_C_called_14 1 rfl ?_
    refine x_callV_I (pc := 15) (ci := 2) d_C_called_15 k_C_82 wi_P_hasLambda wv_P_hasLambda w_P_hasLambda ini_P wd_P_hasLambda ⟨by decide, by decide⟩ ⟨rfl, rfl⟩ ⟨Nat.zero_le _, Nat.zero_le _⟩ 1 rfl rfl (t_P_hasLambda) rfl rfl (Nat.le_of_ble_eq_true rfl) ?_
    first | refine x_if_eqB (pc := 18) (tgt := 32) d_C_called_18 rfl ?_ ?_ | refine x_if_eqL (pc := 18) (tgt := 32) d_C_called_18 rfl ?_ ?_ | refine x_if_eqN (pc := 18) (tgt := 32) d_C_called_18 rfl (by omega) ?_ ?_ | refine x_if_eq (pc := 18) (tgt := 32) d_C_called_18 rfl ?_ ?_
    · intro h18
      refine x_iconst (pc := 32) (-1) d_C_called_32 (by decide) ?_
      refine x_iret (pc := 33) d_C_called_33 rfl ?_
      first | exact ⟨congrArg (fun z => some (Value.int z)) (lval_t h7 hc hlx).symm, rfl⟩ | exact ⟨congrArg (fun z => some (Value.int z)) (lval_0 h7).symm, rfl⟩ | exact ⟨congrArg (fun z => some (Value.int z)) (lval_n h18).symm, rfl⟩
    · intro h18
      obtain ⟨lx, hlx, rfl⟩ := hl_of hc h18
      refine x_aload_n (pc := 21) d_C_called_21 0 rfl ?_
      refine x_get (pc := 22) (ci := 3) d_C_called_22 in_C rfl 1 (by decide) k_C_21 0 rfl rfl ?_
      refine x_iload_n (pc := 25) d_C_called_25 1 rfl ?_
      refine x_callV_I (pc := 26) (ci := 1) d_C_called_26 k_C_86 wi_M_calledFrom wv_M_calledFrom w_M_calledFrom ini_M wd_M_calledFrom ⟨by decide, by decide⟩ ⟨rfl, rfl⟩ ⟨Nat.zero_le _, Nat.zero_le _⟩ 2 rfl rfl (t_M_calledFrom (by omega)) rfl rfl (Nat.le_of_ble_eq_true rfl) ?_
      refine x_goto (pc := 29) (tgt := 33) d_C_called_29 rfl ?_
      refine x_iret (pc := 33) d_C_called_33 rfl ?_
      first | exact ⟨congrArg (fun z => some (Value.int z)) (lval_t h7 hc hlx).symm, rfl⟩ | exact ⟨congrArg (fun z => some (Value.int z)) (lval_0 h7).symm, rfl⟩ | exact ⟨congrArg (fun z => some (Value.int z)) (lval_n h18).symm, rfl⟩
set_option maxHeartbeats 4000000 in
set_option maxRecDepth 100000 in
theorem t_C_flow {x : Int32} (hc : cnt ≤ 8) : CT l y_C_flow c_C_flow 2 (some .int) (rmm 1 21) (gG D cI cL) [.ref (ad 0), .int x] (wC ad cI cL par prm lin siz atm cnt own out bnd cal opr n ph oc P Q OC OP F S R vis nc gr md) (pI (lval (md) cnt F x) (wC ad cI cL par prm lin siz atm cnt own out bnd cal opr n ph oc P Q OC OP F S R vis nc gr md)) := by
  refine CT.of R_C (by decide) rfl (Nat.le_of_ble_eq_true rfl) ?_
  intro E A hname
  refine x_aload_n (pc := 0) d_C_flow_0 0 rfl ?_
  refine x_get (pc := 1) (ci := 3) d_C_flow_1 in_C rfl 2 (by decide) k_C_28 0 rfl rfl ?_
  refine x_callV_I (pc := 4) (ci := 0) d_C_flow_4 k_C_92 wi_A_isMade wv_A_isMade w_A_isMade ini_A wd_A_isMade ⟨by decide, by decide⟩ ⟨rfl, rfl⟩ ⟨Nat.zero_le _, Nat.zero_le _⟩ 3 rfl rfl (t_A_isMade) rfl rfl (Nat.le_of_ble_eq_true rfl) ?_
  first | refine x_if_eqB (pc := 7) (tgt := 32) d_C_flow_7 rfl ?_ ?_ | refine x_if_eqL (pc := 7) (tgt := 32) d_C_flow_7 rfl ?_ ?_ | refine x_if_eqN (pc := 7) (tgt := 32) d_C_flow_7 rfl (by omega) ?_ ?_ | refine x_if_eq (pc := 7) (tgt := 32) d_C_flow_7 rfl ?_ ?_
  · intro h7
    refine x_iconst (pc := 32) (-1) d_C_flow_32 (by decide) ?_
    refine x_iret (pc := 33) d_C_flow_33 rfl ?_
    first | exact ⟨congrArg (fun z => some (Value.int z)) (lval_t h7 hc hlx).symm, rfl⟩ | exact ⟨congrArg (fun z => some (Value.int z)) (lval_0 h7).symm, rfl⟩ | exact ⟨congrArg (fun z => some (Value.int z)) (lval_n h18).symm, rfl⟩
  · intro h7
    refine x_aload_n (pc := 10) d_C_flow_10 0 rfl ?_
    refine x_get (pc := 11) (ci := 3) d_C_flow_11 in_C rfl 0 (by decide) k_C_10 0 rfl rfl ?_
    refine x_iload_n (pc := 14) d_C_flow_14 1 rfl ?_
    refine x_callV_I (pc := 15) (ci := 2) d_C_flow_15 k_C_82 wi_P_hasLambda wv_P_hasLambda w_P_hasLambda ini_P wd_P_hasLambda ⟨by decide, by decide⟩ ⟨rfl, rfl⟩ ⟨Nat.zero_le _, Nat.zero_le _⟩ 1 rfl rfl (t_P_hasLambda) rfl rfl (Nat.le_of_ble_eq_true rfl) ?_
    first | refine x_if_eqB (pc := 18) (tgt := 32) d_C_flow_18 rfl ?_ ?_ | refine x_if_eqL (pc := 18) (tgt := 32) d_C_flow_18 rfl ?_ ?_ | refine x_if_eqN (pc := 18) (tgt := 32) d_C_flow_18 rfl (by omega) ?_ ?_ | refine x_if_eq (pc := 18) (tgt := 32) d_C_flow_18 rfl ?_ ?_
    · intro h18
      refine x_iconst (pc := 32) (-1) d_C_flow_32 (by decide) ?_
      refine x_iret (pc := 33) d_C_flow_33 rfl ?_
      first | exact ⟨congrArg (fun z => some (Value.int z)) (lval_t h7 hc hlx).symm, rfl⟩ | exact ⟨congrArg (fun z => some (Value.int z)) (lval_0 h7).symm, rfl⟩ | exact ⟨congrArg (fun z => some (Value.int z)) (lval_n h18).symm, rfl⟩
    · intro h18
      obtain ⟨lx, hlx, rfl⟩ := hl_of hc h18
      refine x_aload_n (pc := 21) d_C_flow_21 0 rfl ?_
      refine x_get (pc := 22) (ci := 3) d_C_flow_22 in_C rfl 2 (by decide) k_C_28 0 rfl rfl ?_
      refine x_iload_n (pc := 25) d_C_flow_25 1 rfl ?_
      refine x_callV_I (pc := 26) (ci := 0) d_C_flow_26 k_C_95 wi_A_flowFrom wv_A_flowFrom w_A_flowFrom ini_A wd_A_flowFrom ⟨by decide, by decide⟩ ⟨rfl, rfl⟩ ⟨Nat.zero_le _, Nat.zero_le _⟩ 3 rfl rfl (t_A_flowFrom (by omega)) rfl rfl (Nat.le_of_ble_eq_true rfl) ?_
      refine x_goto (pc := 29) (tgt := 33) d_C_flow_29 rfl ?_
      refine x_iret (pc := 33) d_C_flow_33 rfl ?_
      first | exact ⟨congrArg (fun z => some (Value.int z)) (lval_t h7 hc hlx).symm, rfl⟩ | exact ⟨congrArg (fun z => some (Value.int z)) (lval_0 h7).symm, rfl⟩ | exact ⟨congrArg (fun z => some (Value.int z)) (lval_n h18).symm, rfl⟩
set_option maxHeartbeats 4000000 in
set_option maxRecDepth 100000 in
theorem t_C_contours {x : Int32} (hc : cnt ≤ 8) : CT l y_C_contours c_C_contours 2 (some .int) (rmm 2 43) (gG D cI cL) [.ref (ad 0), .int x] (wC ad cI cL par prm lin siz atm cnt own out bnd cal opr n ph oc P Q OC OP F S R vis nc gr md) (pI (lval (md) cnt (cin S) x) (wC ad cI cL par prm lin siz atm cnt own out bnd cal opr n ph oc P Q OC OP F S R vis nc gr md)) := by
  refine CT.of R_C (by decide) rfl (Nat.le_of_ble_eq_true rfl) ?_
  intro E A hname
  refine x_aload_n (pc := 0) d_C_contours_0 0 rfl ?_
  refine x_get (pc := 1) (ci := 3) d_C_contours_1 in_C rfl 2 (by decide) k_C_28 0 rfl rfl ?_
  refine x_callV_I (pc := 4) (ci := 0) d_C_contours_4 k_C_92 wi_A_isMade wv_A_isMade w_A_isMade ini_A wd_A_isMade ⟨by decide, by decide⟩ ⟨rfl, rfl⟩ ⟨Nat.zero_le _, Nat.zero_le _⟩ 3 rfl rfl (t_A_isMade) rfl rfl (Nat.le_of_ble_eq_true rfl) ?_
  first | refine x_if_eqB (pc := 7) (tgt := 32) d_C_contours_7 rfl ?_ ?_ | refine x_if_eqL (pc := 7) (tgt := 32) d_C_contours_7 rfl ?_ ?_ | refine x_if_eqN (pc := 7) (tgt := 32) d_C_contours_7 rfl (by omega) ?_ ?_ | refine x_if_eq (pc := 7) (tgt := 32) d_C_contours_7 rfl ?_ ?_
  · intro h7
    refine x_iconst (pc := 32) (-1) d_C_contours_32 (by decide) ?_
    refine x_iret (pc := 33) d_C_contours_33 rfl ?_
    first | exact ⟨congrArg (fun z => some (Value.int z)) (lval_t h7 hc hlx).symm, rfl⟩ | exact ⟨congrArg (fun z => some (Value.int z)) (lval_0 h7).symm, rfl⟩ | exact ⟨congrArg (fun z => some (Value.int z)) (lval_n h18).symm, rfl⟩
  · intro h7
    refine x_aload_n (pc := 10) d_C_contours_10 0 rfl ?_
    refine x_get (pc := 11) (ci := 3) d_C_contours_11 in_C rfl 0 (by decide) k_C_10 0 rfl rfl ?_
    refine x_iload_n (pc := 14) d_C_contours_14 1 rfl ?_
    refine x_callV_I (pc := 15) (ci := 2) d_C_contours_15 k_C_82 wi_P_hasLambda wv_P_hasLambda w_P_hasLambda ini_P wd_P_hasLambda ⟨by decide, by decide⟩ ⟨rfl, rfl⟩ ⟨Nat.zero_le _, Nat.zero_le _⟩ 1 rfl rfl (t_P_hasLambda) rfl rfl (Nat.le_of_ble_eq_true rfl) ?_
    first | refine x_if_eqB (pc := 18) (tgt := 32) d_C_contours_18 rfl ?_ ?_ | refine x_if_eqL (pc := 18) (tgt := 32) d_C_contours_18 rfl ?_ ?_ | refine x_if_eqN (pc := 18) (tgt := 32) d_C_contours_18 rfl (by omega) ?_ ?_ | refine x_if_eq (pc := 18) (tgt := 32) d_C_contours_18 rfl ?_ ?_
    · intro h18
      refine x_iconst (pc := 32) (-1) d_C_contours_32 (by decide) ?_
      refine x_iret (pc := 33) d_C_contours_33 rfl ?_
      first | exact ⟨congrArg (fun z => some (Value.int z)) (lval_t h7 hc hlx).symm, rfl⟩ | exact ⟨congrArg (fun z => some (Value.int z)) (lval_0 h7).symm, rfl⟩ | exact ⟨congrArg (fun z => some (Value.int z)) (lval_n h18).symm, rfl⟩
    · intro h18
      obtain ⟨lx, hlx, rfl⟩ := hl_of hc h18
      refine x_aload_n (pc := 21) d_C_contours_21 0 rfl ?_
      refine x_get (pc := 22) (ci := 3) d_C_contours_22 in_C rfl 2 (by decide) k_C_28 0 rfl rfl ?_
      refine x_iload_n (pc := 25) d_C_contours_25 1 rfl ?_
      refine x_callV_I (pc := 26) (ci := 0) d_C_contours_26 k_C_98 wi_A_contoursOf wv_A_contoursOf w_A_contoursOf ini_A wd_A_contoursOf ⟨by decide, by decide⟩ ⟨rfl, rfl⟩ ⟨Nat.zero_le _, Nat.zero_le _⟩ 3 rfl rfl (t_A_contoursOf) rfl rfl (Nat.le_of_ble_eq_true rfl) ?_
      refine x_goto (pc := 29) (tgt := 33) d_C_contours_29 rfl ?_
      refine x_iret (pc := 33) d_C_contours_33 rfl ?_
      first | exact ⟨congrArg (fun z => some (Value.int z)) (lval_t h7 hc hlx).symm, rfl⟩ | exact ⟨congrArg (fun z => some (Value.int z)) (lval_0 h7).symm, rfl⟩ | exact ⟨congrArg (fun z => some (Value.int z)) (lval_n h18).symm, rfl⟩
set_option maxHeartbeats 4000000 in
set_option maxRecDepth 100000 in
theorem t_C_constants {x i : Int32} (hw : pwf cnt par prm siz atm) : CT l y_C_constants c_C_constants 3 (some .int) (rmm 2 46) (gG D cI cL) [.ref (ad 0), .int x, .int i] (wC ad cI cL par prm lin siz atm cnt own out bnd cal opr n ph oc P Q OC OP F S R vis nc gr md) (pI (qval md cnt prm (fun l j => orf (fun c => P (sl l j c)) 8) x i) (wC ad cI cL par prm lin siz atm cnt own out bnd cal opr n ph oc P Q OC OP F S R vis nc gr md)) := by
  refine CT.of R_C (by decide) rfl (Nat.le_of_ble_eq_true rfl) ?_
  intro E A hname
  refine x_aload_n (pc := 0) d_C_constants_0 0 rfl ?_
  refine x_get (pc := 1) (ci := 3) d_C_constants_1 in_C rfl 2 (by decide) k_C_28 0 rfl rfl ?_
  refine x_callV_I (pc := 4) (ci := 0) d_C_constants_4 k_C_92 wi_A_isMade wv_A_isMade w_A_isMade ini_A wd_A_isMade ⟨by decide, by decide⟩ ⟨rfl, rfl⟩ ⟨Nat.zero_le _, Nat.zero_le _⟩ 3 rfl rfl (t_A_isMade) rfl rfl (Nat.le_of_ble_eq_true rfl) ?_
  first | refine x_if_eqB (pc := 7) (tgt := 34) d_C_constants_7 rfl ?_ ?_ | refine x_if_eqL (pc := 7) (tgt := 34) d_C_constants_7 rfl ?_ ?_ | refine x_if_eqN (pc := 7) (tgt := 34) d_C_constants_7 rfl (by omega) ?_ ?_ | refine x_if_eq (pc := 7) (tgt := 34) d_C_constants_7 rfl ?_ ?_
  · intro h7
    refine x_iconst (pc := 34) (-1) d_C_constants_34 (by decide) ?_
    refine x_iret (pc := 35) d_C_constants_35 rfl ?_
    first | exact ⟨congrArg (fun z => some (Value.int z)) (qval_t (f := fun l j => orf (fun c => P (sl l j c)) 8) h7 h19b (by omega) (by omega)).symm, rfl⟩ | exact ⟨congrArg (fun z => some (Value.int z)) (qval_0 h7).symm, rfl⟩ | exact ⟨congrArg (fun z => some (Value.int z)) (qval_n h19).symm, rfl⟩
  · intro h7
    refine x_aload_n (pc := 10) d_C_constants_10 0 rfl ?_
    refine x_get (pc := 11) (ci := 3) d_C_constants_11 in_C rfl 0 (by decide) k_C_10 0 rfl rfl ?_
    refine x_iload_n (pc := 14) d_C_constants_14 1 rfl ?_
    refine x_iload_n (pc := 15) d_C_constants_15 2 rfl ?_
    refine x_callV_I (pc := 16) (ci := 2) d_C_constants_16 k_C_101 wi_P_hasParameter wv_P_hasParameter w_P_hasParameter ini_P wd_P_hasParameter ⟨by decide, by decide⟩ ⟨rfl, rfl⟩ ⟨Nat.zero_le _, Nat.zero_le _⟩ 1 rfl rfl (t_P_hasParameter hw.2.1) rfl rfl (Nat.le_of_ble_eq_true rfl) ?_
    first | refine x_if_eqB (pc := 19) (tgt := 34) d_C_constants_19 rfl ?_ ?_ | refine x_if_eqL (pc := 19) (tgt := 34) d_C_constants_19 rfl ?_ ?_ | refine x_if_eqN (pc := 19) (tgt := 34) d_C_constants_19 rfl (by omega) ?_ ?_ | refine x_if_eq (pc := 19) (tgt := 34) d_C_constants_19 rfl ?_ ?_
    · intro h19
      refine x_iconst (pc := 34) (-1) d_C_constants_34 (by decide) ?_
      refine x_iret (pc := 35) d_C_constants_35 rfl ?_
      first | exact ⟨congrArg (fun z => some (Value.int z)) (qval_t (f := fun l j => orf (fun c => P (sl l j c)) 8) h7 h19b (by omega) (by omega)).symm, rfl⟩ | exact ⟨congrArg (fun z => some (Value.int z)) (qval_0 h7).symm, rfl⟩ | exact ⟨congrArg (fun z => some (Value.int z)) (qval_n h19).symm, rfl⟩
    · intro h19
      have h19b := h19
      obtain ⟨lx, ix, hlx, hix, rfl, rfl⟩ := hpr_of hw.2.1 (fun l h => Nat.le_trans (hw.2.2.2.1 l h) (by omega)) h19
      have hc8 := hw.2.1
      have hpz := hw.2.2.2.1 lx (by omega)
      refine x_aload_n (pc := 22) d_C_constants_22 0 rfl ?_
      refine x_get (pc := 23) (ci := 3) d_C_constants_23 in_C rfl 2 (by decide) k_C_28 0 rfl rfl ?_
      refine x_iload_n (pc := 26) d_C_constants_26 1 rfl ?_
      refine x_iload_n (pc := 27) d_C_constants_27 2 rfl ?_
      refine x_callV_I (pc := 28) (ci := 0) d_C_constants_28 k_C_104 wi_A_constantsIn wv_A_constantsIn w_A_constantsIn ini_A wd_A_constantsIn ⟨by decide, by decide⟩ ⟨rfl, rfl⟩ ⟨Nat.zero_le _, Nat.zero_le _⟩ 3 rfl rfl (t_A_constantsIn (by omega) (by omega)) rfl rfl (Nat.le_of_ble_eq_true rfl) ?_
      refine x_goto (pc := 31) (tgt := 35) d_C_constants_31 rfl ?_
      refine x_iret (pc := 35) d_C_constants_35 rfl ?_
      first | exact ⟨congrArg (fun z => some (Value.int z)) (qval_t (f := fun l j => orf (fun c => P (sl l j c)) 8) h7 h19b (by omega) (by omega)).symm, rfl⟩ | exact ⟨congrArg (fun z => some (Value.int z)) (qval_0 h7).symm, rfl⟩ | exact ⟨congrArg (fun z => some (Value.int z)) (qval_n h19).symm, rfl⟩
set_option maxHeartbeats 4000000 in
set_option maxRecDepth 100000 in
theorem t_C_closures {x i : Int32} (hw : pwf cnt par prm siz atm) : CT l y_C_closures c_C_closures 3 (some .int) (rmm 2 48) (gG D cI cL) [.ref (ad 0), .int x, .int i] (wC ad cI cL par prm lin siz atm cnt own out bnd cal opr n ph oc P Q OC OP F S R vis nc gr md) (fun v w2 => (∃ lx ix r, md = true ∧ hpr cnt prm (nI lx) (nI ix) = true ∧ lx < cnt ∧ ix < prm lx ∧ x = nI lx ∧ i = nI ix ∧ (∀ m, bt r m = true ↔ m < 8 ∧ clos Q lx ix m) ∧ v = some (.int r) ∧ w2 = (wC ad cI cL par prm lin siz atm cnt own out bnd cal opr n ph oc P Q OC OP F S R vis nc gr md)) ∨ ((md = false ∨ hpr cnt prm x i = false) ∧ v = some (.int (-1)) ∧ w2 = (wC ad cI cL par prm lin siz atm cnt own out bnd cal opr n ph oc P Q OC OP F S R vis nc gr md))) := by
  refine CT.of R_C (by decide) rfl (Nat.le_of_ble_eq_true rfl) ?_
  intro E A hname
  refine x_aload_n (pc := 0) d_C_closures_0 0 rfl ?_
  refine x_get (pc := 1) (ci := 3) d_C_closures_1 in_C rfl 2 (by decide) k_C_28 0 rfl rfl ?_
  refine x_callV_I (pc := 4) (ci := 0) d_C_closures_4 k_C_92 wi_A_isMade wv_A_isMade w_A_isMade ini_A wd_A_isMade ⟨by decide, by decide⟩ ⟨rfl, rfl⟩ ⟨Nat.zero_le _, Nat.zero_le _⟩ 3 rfl rfl (t_A_isMade) rfl rfl (Nat.le_of_ble_eq_true rfl) ?_
  first | refine x_if_eqB (pc := 7) (tgt := 34) d_C_closures_7 rfl ?_ ?_ | refine x_if_eqL (pc := 7) (tgt := 34) d_C_closures_7 rfl ?_ ?_ | refine x_if_eqN (pc := 7) (tgt := 34) d_C_closures_7 rfl (by omega) ?_ ?_ | refine x_if_eq (pc := 7) (tgt := 34) d_C_closures_7 rfl ?_ ?_
  · intro h7
    refine x_iconst (pc := 34) (-1) d_C_closures_34 (by decide) ?_
    refine x_iret (pc := 35) d_C_closures_35 rfl ?_
    first | exact Or.inl ⟨lx, ix, r, h7, h19b, hlx, hix, rfl, rfl, hr, rfl, rfl⟩ | exact Or.inr ⟨Or.inl h7, rfl, rfl⟩ | exact Or.inr ⟨Or.inr h19, rfl, rfl⟩
  · intro h7
    refine x_aload_n (pc := 10) d_C_closures_10 0 rfl ?_
    refine x_get (pc := 11) (ci := 3) d_C_closures_11 in_C rfl 0 (by decide) k_C_10 0 rfl rfl ?_
    refine x_iload_n (pc := 14) d_C_closures_14 1 rfl ?_
    refine x_iload_n (pc := 15) d_C_closures_15 2 rfl ?_
    refine x_callV_I (pc := 16) (ci := 2) d_C_closures_16 k_C_101 wi_P_hasParameter wv_P_hasParameter w_P_hasParameter ini_P wd_P_hasParameter ⟨by decide, by decide⟩ ⟨rfl, rfl⟩ ⟨Nat.zero_le _, Nat.zero_le _⟩ 1 rfl rfl (t_P_hasParameter hw.2.1) rfl rfl (Nat.le_of_ble_eq_true rfl) ?_
    first | refine x_if_eqB (pc := 19) (tgt := 34) d_C_closures_19 rfl ?_ ?_ | refine x_if_eqL (pc := 19) (tgt := 34) d_C_closures_19 rfl ?_ ?_ | refine x_if_eqN (pc := 19) (tgt := 34) d_C_closures_19 rfl (by omega) ?_ ?_ | refine x_if_eq (pc := 19) (tgt := 34) d_C_closures_19 rfl ?_ ?_
    · intro h19
      refine x_iconst (pc := 34) (-1) d_C_closures_34 (by decide) ?_
      refine x_iret (pc := 35) d_C_closures_35 rfl ?_
      first | exact Or.inl ⟨lx, ix, r, h7, h19b, hlx, hix, rfl, rfl, hr, rfl, rfl⟩ | exact Or.inr ⟨Or.inl h7, rfl, rfl⟩ | exact Or.inr ⟨Or.inr h19, rfl, rfl⟩
    · intro h19
      have h19b := h19
      obtain ⟨lx, ix, hlx, hix, rfl, rfl⟩ := hpr_of hw.2.1 (fun l h => Nat.le_trans (hw.2.2.2.1 l h) (by omega)) h19
      have hc8 := hw.2.1
      have hpz := hw.2.2.2.1 lx (by omega)
      refine x_aload_n (pc := 22) d_C_closures_22 0 rfl ?_
      refine x_get (pc := 23) (ci := 3) d_C_closures_23 in_C rfl 2 (by decide) k_C_28 0 rfl rfl ?_
      refine x_iload_n (pc := 26) d_C_closures_26 1 rfl ?_
      refine x_iload_n (pc := 27) d_C_closures_27 2 rfl ?_
      refine x_callV_X (pc := 28) (ci := 0) d_C_closures_28 k_C_107 wi_A_lambdasIn wv_A_lambdasIn w_A_lambdasIn ini_A wd_A_lambdasIn ⟨by decide, by decide⟩ ⟨rfl, rfl⟩ ⟨Nat.zero_le _, Nat.zero_le _⟩ 3 rfl rfl (t_A_lambdasIn (by omega) (by omega)) rfl rfl (Nat.le_of_ble_eq_true rfl) (fun v28 w28 hp28 => ?_)
      obtain ⟨r, hr, rfl, rfl⟩ := hp28
      refine x_goto (pc := 31) (tgt := 35) d_C_closures_31 rfl ?_
      refine x_iret (pc := 35) d_C_closures_35 rfl ?_
      first | exact Or.inl ⟨lx, ix, r, h7, h19b, hlx, hix, rfl, rfl, hr, rfl, rfl⟩ | exact Or.inr ⟨Or.inl h7, rfl, rfl⟩ | exact Or.inr ⟨Or.inr h19, rfl, rfl⟩
set_option maxHeartbeats 4000000 in
set_option maxRecDepth 100000 in
theorem t_C_results  : CT l y_C_results c_C_results 1 (some .int) (rmm 1 20) (gG D cI cL) [.ref (ad 0)] (wC ad cI cL par prm lin siz atm cnt own out bnd cal opr n ph oc P Q OC OP F S R vis nc gr md) (pI (if md = true then R else -1) (wC ad cI cL par prm lin siz atm cnt own out bnd cal opr n ph oc P Q OC OP F S R vis nc gr md)) := by
  refine CT.of R_C (by decide) rfl (Nat.le_of_ble_eq_true rfl) ?_
  intro E A hname
  refine x_aload_n (pc := 0) d_C_results_0 0 rfl ?_
  refine x_get (pc := 1) (ci := 3) d_C_results_1 in_C rfl 2 (by decide) k_C_28 0 rfl rfl ?_
  refine x_callV_I (pc := 4) (ci := 0) d_C_results_4 k_C_92 wi_A_isMade wv_A_isMade w_A_isMade ini_A wd_A_isMade ⟨by decide, by decide⟩ ⟨rfl, rfl⟩ ⟨Nat.zero_le _, Nat.zero_le _⟩ 3 rfl rfl (t_A_isMade) rfl rfl (Nat.le_of_ble_eq_true rfl) ?_
  first | refine x_if_eqB (pc := 7) (tgt := 20) d_C_results_7 rfl ?_ ?_ | refine x_if_eqL (pc := 7) (tgt := 20) d_C_results_7 rfl ?_ ?_ | refine x_if_eqN (pc := 7) (tgt := 20) d_C_results_7 rfl (by omega) ?_ ?_ | refine x_if_eq (pc := 7) (tgt := 20) d_C_results_7 rfl ?_ ?_
  · intro h7
    refine x_iconst (pc := 20) (-1) d_C_results_20 (by decide) ?_
    refine x_iret (pc := 21) d_C_results_21 rfl ?_
    first | exact ⟨congrArg (fun z => some (Value.int z)) (if_pos h7).symm, rfl⟩ | exact ⟨congrArg (fun z => some (Value.int z)) (if_neg (by rw [h7]; decide)).symm, rfl⟩
  · intro h7
    refine x_aload_n (pc := 10) d_C_results_10 0 rfl ?_
    refine x_get (pc := 11) (ci := 3) d_C_results_11 in_C rfl 2 (by decide) k_C_28 0 rfl rfl ?_
    refine x_callV_I (pc := 14) (ci := 0) d_C_results_14 k_C_110 wi_A_outcomes wv_A_outcomes w_A_outcomes ini_A wd_A_outcomes ⟨by decide, by decide⟩ ⟨rfl, rfl⟩ ⟨Nat.zero_le _, Nat.zero_le _⟩ 3 rfl rfl (t_A_outcomes) rfl rfl (Nat.le_of_ble_eq_true rfl) ?_
    refine x_goto (pc := 17) (tgt := 21) d_C_results_17 rfl ?_
    refine x_iret (pc := 21) d_C_results_21 rfl ?_
    first | exact ⟨congrArg (fun z => some (Value.int z)) (if_pos h7).symm, rfl⟩ | exact ⟨congrArg (fun z => some (Value.int z)) (if_neg (by rw [h7]; decide)).symm, rfl⟩
set_option maxHeartbeats 4000000 in
set_option maxRecDepth 100000 in
theorem t_C_analyse {x : Int32} (hw : pwf cnt par prm siz atm) (hli : linok cnt par lin) (hO4 : OP 4 = 0) : CT l y_C_analyse c_C_analyse 2 (some .int) (rmm 6 151) (gG D cI cL) [.ref (ad 0), .int x] (wC ad cI cL par prm lin siz atm cnt own out bnd cal opr n ph oc P Q OC OP F S R vis nc gr md) (fun v w2 => (∃ k P2 Q2 S2 F2 R2 g2 OC2 OP2 vi2 nc2, k ≤ 1 ∧ x = nI k ∧ aleast cnt (anc par) prm siz atm k (ofw P2 Q2 S2 F2 R2) ∧ OP2 4 = 0 ∧ v = some (.int (nI (popL S2))) ∧ w2 = (wC ad cI cL par prm lin siz atm cnt own out bnd cal opr n ph oc P2 Q2 OC2 OP2 F2 S2 R2 vi2 nc2 g2 true)) ∨ ((¬ ∃ k, k ≤ 1 ∧ x = nI k) ∧ v = some (.int (-1)) ∧ w2 = (wC ad cI cL par prm lin siz atm cnt own out bnd cal opr n ph oc P Q OC OP F S R vis nc gr md))) := by
  refine CT.of R_C (by decide) rfl (Nat.le_of_ble_eq_true rfl) ?_
  intro E A hname
  refine x_iload_n (pc := 0) d_C_analyse_0 1 rfl ?_
  first | refine x_if_eqB (pc := 1) (tgt := 9) d_C_analyse_1 rfl ?_ ?_ | refine x_if_eqL (pc := 1) (tgt := 9) d_C_analyse_1 rfl ?_ ?_ | refine x_if_eqN (pc := 1) (tgt := 9) d_C_analyse_1 rfl (by omega) ?_ ?_ | refine x_if_eq (pc := 1) (tgt := 9) d_C_analyse_1 rfl ?_ ?_
  · intro h1
    have hx : x = nI 0 := h1
    subst hx
    have hk : (0 : Nat) ≤ 1 := by omega
    refine x_aload_n (pc := 9) d_C_analyse_9 0 rfl ?_
    refine x_get (pc := 10) (ci := 3) d_C_analyse_10 in_C rfl 2 (by decide) k_C_28 0 rfl rfl ?_
    refine x_iload_n (pc := 13) d_C_analyse_13 1 rfl ?_
    refine x_callV_X (pc := 14) (ci := 0) d_C_analyse_14 k_C_89 wi_A_make wv_A_make w_A_make ini_A wd_A_make ⟨by decide, by decide⟩ ⟨rfl, rfl⟩ ⟨Nat.zero_le _, Nat.zero_le _⟩ 3 rfl rfl (t_A_make t_JL_bitCount hw hli hk hO4) rfl rfl (Nat.le_of_ble_eq_true rfl) (fun v14 w14 hp14 => ?_)
    obtain ⟨P2, Q2, S2, F2, R2, g2, OC2, OP2, vi2, nc2, a1, a2, rfl, rfl⟩ := hp14
    refine x_goto (pc := 17) (tgt := 21) d_C_analyse_17 rfl ?_
    refine x_iret (pc := 21) d_C_analyse_21 rfl ?_
    first
      | exact Or.inl ⟨_, P2, Q2, S2, F2, R2, g2, OC2, OP2, vi2, nc2, hk, rfl, a1, a2, rfl, rfl⟩
      | exact Or.inr ⟨fun q => by
          obtain ⟨k, hk, rfl⟩ := q
          rcases (show k = 0 ∨ k = 1 by omega) with e | e
          · subst e
            exact h1 nI_0
          · subst e
            exact h6 rfl, rfl, rfl⟩
  · intro h1
    refine x_iload_n (pc := 4) d_C_analyse_4 1 rfl ?_
    refine x_iconst (pc := 5) (nI 1) d_C_analyse_5 (by decide) ?_
    refine x_icmp_ne (pc := 6) (tgt := 20) d_C_analyse_6 rfl ?_ ?_
    · intro h6
      refine x_iconst (pc := 20) (-1) d_C_analyse_20 (by decide) ?_
      refine x_iret (pc := 21) d_C_analyse_21 rfl ?_
      first
        | exact Or.inl ⟨_, P2, Q2, S2, F2, R2, g2, OC2, OP2, vi2, nc2, hk, rfl, a1, a2, rfl, rfl⟩
        | exact Or.inr ⟨fun q => by
            obtain ⟨k, hk, rfl⟩ := q
            rcases (show k = 0 ∨ k = 1 by omega) with e | e
            · subst e
              exact h1 nI_0
            · subst e
              exact h6 rfl, rfl, rfl⟩
    · intro h6
      subst h6
      have hk : (1 : Nat) ≤ 1 := by omega
      refine x_aload_n (pc := 9) d_C_analyse_9 0 rfl ?_
      refine x_get (pc := 10) (ci := 3) d_C_analyse_10 in_C rfl 2 (by decide) k_C_28 0 rfl rfl ?_
      refine x_iload_n (pc := 13) d_C_analyse_13 1 rfl ?_
      refine x_callV_X (pc := 14) (ci := 0) d_C_analyse_14 k_C_89 wi_A_make wv_A_make w_A_make ini_A wd_A_make ⟨by decide, by decide⟩ ⟨rfl, rfl⟩ ⟨Nat.zero_le _, Nat.zero_le _⟩ 3 rfl rfl (t_A_make t_JL_bitCount hw hli hk hO4) rfl rfl (Nat.le_of_ble_eq_true rfl) (fun v14 w14 hp14 => ?_)
      obtain ⟨P2, Q2, S2, F2, R2, g2, OC2, OP2, vi2, nc2, a1, a2, rfl, rfl⟩ := hp14
      refine x_goto (pc := 17) (tgt := 21) d_C_analyse_17 rfl ?_
      refine x_iret (pc := 21) d_C_analyse_21 rfl ?_
      first
        | exact Or.inl ⟨_, P2, Q2, S2, F2, R2, g2, OC2, OP2, vi2, nc2, hk, rfl, a1, a2, rfl, rfl⟩
        | exact Or.inr ⟨fun q => by
            obtain ⟨k, hk, rfl⟩ := q
            rcases (show k = 0 ∨ k = 1 by omega) with e | e
            · subst e
              exact h1 nI_0
            · subst e
              exact h6 rfl, rfl, rfl⟩
end PUB
end
