section
-- ===== PART A: goes FIRST, ahead of the names: the tables' words, and 'selects' of the private methods out of them =====
/-- a private method of a class that the tables say can be made, by its rows of tables_1 -/
def lw_okq (q : MethodName × Nat) : Prop := (q.1.cls ≠ "java/lang/invoke/MethodHandle" ∧ q.1.cls ≠ "java/lang/invoke/VarHandle") ∧ Cond.instantiable q.1.cls q.2 ∈ tables_1 ∧ Cond.privateMethod q.1 ∈ tables_1 ∧ Cond.instanceMethod q.1 ∈ tables_1
theorem lw_p0 : lw_okq (⟨"WaxVoices", "isSide", "(I)Z"⟩, 7) := ⟨⟨by decide +kernel, by decide +kernel⟩, List.mem_of_getElem? (i := 14) (by decide +kernel), List.mem_of_getElem? (i := 213) (by decide +kernel), List.mem_of_getElem? (i := 214) (by decide +kernel)⟩
theorem lw_p1 : lw_okq (⟨"WaxVoices", "planRefusal", "(IIII)I"⟩, 7) := ⟨⟨by decide +kernel, by decide +kernel⟩, List.mem_of_getElem? (i := 14) (by decide +kernel), List.mem_of_getElem? (i := 240) (by decide +kernel), List.mem_of_getElem? (i := 241) (by decide +kernel)⟩
theorem lw_p2 : lw_okq (⟨"WaxVoices", "isSetOfSides", "(I)Z"⟩, 7) := ⟨⟨by decide +kernel, by decide +kernel⟩, List.mem_of_getElem? (i := 14) (by decide +kernel), List.mem_of_getElem? (i := 244) (by decide +kernel), List.mem_of_getElem? (i := 245) (by decide +kernel)⟩
theorem lw_p3 : lw_okq (⟨"WaxVoices", "takeIntoPlan", "(II)V"⟩, 7) := ⟨⟨by decide +kernel, by decide +kernel⟩, List.mem_of_getElem? (i := 14) (by decide +kernel), List.mem_of_getElem? (i := 254) (by decide +kernel), List.mem_of_getElem? (i := 255) (by decide +kernel)⟩
theorem lw_p4 : lw_okq (⟨"WaxVoices$Planner", "mostFrom", "(I)I"⟩, 12) := ⟨⟨by decide +kernel, by decide +kernel⟩, List.mem_of_getElem? (i := 24) (by decide +kernel), List.mem_of_getElem? (i := 283) (by decide +kernel), List.mem_of_getElem? (i := 284) (by decide +kernel)⟩
theorem lw_p5 : lw_okq (⟨"WaxVoices$Planner", "addUp", "([II[I)V"⟩, 12) := ⟨⟨by decide +kernel, by decide +kernel⟩, List.mem_of_getElem? (i := 24) (by decide +kernel), List.mem_of_getElem? (i := 287) (by decide +kernel), List.mem_of_getElem? (i := 288) (by decide +kernel)⟩
theorem lw_p6 : lw_okq (⟨"WaxVoices$Planner", "savedTogether", "(II)I"⟩, 12) := ⟨⟨by decide +kernel, by decide +kernel⟩, List.mem_of_getElem? (i := 24) (by decide +kernel), List.mem_of_getElem? (i := 291) (by decide +kernel), List.mem_of_getElem? (i := 292) (by decide +kernel)⟩
theorem lw_p7 : lw_okq (⟨"WaxVoices$Planner", "joinYear", "(I)V"⟩, 12) := ⟨⟨by decide +kernel, by decide +kernel⟩, List.mem_of_getElem? (i := 24) (by decide +kernel), List.mem_of_getElem? (i := 296) (by decide +kernel), List.mem_of_getElem? (i := 297) (by decide +kernel)⟩
theorem lw_p8 : lw_okq (⟨"WaxVoices$Planner", "firstOption", "(II)I"⟩, 12) := ⟨⟨by decide +kernel, by decide +kernel⟩, List.mem_of_getElem? (i := 24) (by decide +kernel), List.mem_of_getElem? (i := 309) (by decide +kernel), List.mem_of_getElem? (i := 310) (by decide +kernel)⟩
theorem lw_p9 : lw_okq (⟨"WaxVoices$Planner", "hoursFor", "(II)I"⟩, 12) := ⟨⟨by decide +kernel, by decide +kernel⟩, List.mem_of_getElem? (i := 24) (by decide +kernel), List.mem_of_getElem? (i := 313) (by decide +kernel), List.mem_of_getElem? (i := 314) (by decide +kernel)⟩
theorem lw_p10 : lw_okq (⟨"WaxVoices$Puzzle", "weighAll", "()V"⟩, 6) := ⟨⟨by decide +kernel, by decide +kernel⟩, List.mem_of_getElem? (i := 85) (by decide +kernel), List.mem_of_getElem? (i := 450) (by decide +kernel), List.mem_of_getElem? (i := 451) (by decide +kernel)⟩
theorem lw_p11 : lw_okq (⟨"WaxVoices$Puzzle", "weigh", "(IIZ)V"⟩, 6) := ⟨⟨by decide +kernel, by decide +kernel⟩, List.mem_of_getElem? (i := 85) (by decide +kernel), List.mem_of_getElem? (i := 455) (by decide +kernel), List.mem_of_getElem? (i := 456) (by decide +kernel)⟩
theorem lw_p12 : lw_okq (⟨"WaxVoices$Puzzle", "canFollow", "(III)Z"⟩, 6) := ⟨⟨by decide +kernel, by decide +kernel⟩, List.mem_of_getElem? (i := 85) (by decide +kernel), List.mem_of_getElem? (i := 459) (by decide +kernel), List.mem_of_getElem? (i := 460) (by decide +kernel)⟩
theorem lw_p13 : lw_okq (⟨"WaxVoices$Puzzle", "gap", "(II)I"⟩, 6) := ⟨⟨by decide +kernel, by decide +kernel⟩, List.mem_of_getElem? (i := 85) (by decide +kernel), List.mem_of_getElem? (i := 463) (by decide +kernel), List.mem_of_getElem? (i := 464) (by decide +kernel)⟩
theorem lw_p14 : lw_okq (⟨"WaxVoices$Puzzle", "firstPiece", "()I"⟩, 6) := ⟨⟨by decide +kernel, by decide +kernel⟩, List.mem_of_getElem? (i := 85) (by decide +kernel), List.mem_of_getElem? (i := 481) (by decide +kernel), List.mem_of_getElem? (i := 482) (by decide +kernel)⟩
theorem lw_p15 : lw_okq (⟨"WaxVoices$Puzzle", "nextPiece", "(II)I"⟩, 6) := ⟨⟨by decide +kernel, by decide +kernel⟩, List.mem_of_getElem? (i := 85) (by decide +kernel), List.mem_of_getElem? (i := 493) (by decide +kernel), List.mem_of_getElem? (i := 494) (by decide +kernel)⟩
def lw_privs_1 : List (MethodName × Nat) := [(⟨"WaxVoices", "isSide", "(I)Z"⟩, 7), (⟨"WaxVoices", "planRefusal", "(IIII)I"⟩, 7), (⟨"WaxVoices", "isSetOfSides", "(I)Z"⟩, 7), (⟨"WaxVoices", "takeIntoPlan", "(II)V"⟩, 7), (⟨"WaxVoices$Planner", "mostFrom", "(I)I"⟩, 12), (⟨"WaxVoices$Planner", "addUp", "([II[I)V"⟩, 12), (⟨"WaxVoices$Planner", "savedTogether", "(II)I"⟩, 12), (⟨"WaxVoices$Planner", "joinYear", "(I)V"⟩, 12), (⟨"WaxVoices$Planner", "firstOption", "(II)I"⟩, 12), (⟨"WaxVoices$Planner", "hoursFor", "(II)I"⟩, 12), (⟨"WaxVoices$Puzzle", "weighAll", "()V"⟩, 6), (⟨"WaxVoices$Puzzle", "weigh", "(IIZ)V"⟩, 6), (⟨"WaxVoices$Puzzle", "canFollow", "(III)Z"⟩, 6), (⟨"WaxVoices$Puzzle", "gap", "(II)I"⟩, 6), (⟨"WaxVoices$Puzzle", "firstPiece", "()I"⟩, 6), (⟨"WaxVoices$Puzzle", "nextPiece", "(II)I"⟩, 6)]
theorem lw_r1 : ∀ q ∈ lw_privs_1, lw_okq q := List.forall_mem_cons.mpr ⟨lw_p0, List.forall_mem_cons.mpr ⟨lw_p1, List.forall_mem_cons.mpr ⟨lw_p2, List.forall_mem_cons.mpr ⟨lw_p3, List.forall_mem_cons.mpr ⟨lw_p4, List.forall_mem_cons.mpr ⟨lw_p5, List.forall_mem_cons.mpr ⟨lw_p6, List.forall_mem_cons.mpr ⟨lw_p7, List.forall_mem_cons.mpr ⟨lw_p8, List.forall_mem_cons.mpr ⟨lw_p9, List.forall_mem_cons.mpr ⟨lw_p10, List.forall_mem_cons.mpr ⟨lw_p11, List.forall_mem_cons.mpr ⟨lw_p12, List.forall_mem_cons.mpr ⟨lw_p13, List.forall_mem_cons.mpr ⟨lw_p14, List.forall_mem_cons.mpr ⟨lw_p15, fun _ h => absurd h List.not_mem_nil⟩⟩⟩⟩⟩⟩⟩⟩⟩⟩⟩⟩⟩⟩⟩⟩
theorem lw_p16 : lw_okq (⟨"WaxVoices", "stepsUp", "(II)I"⟩, 7) := ⟨⟨by decide +kernel, by decide +kernel⟩, List.mem_of_getElem? (i := 14) (by decide +kernel), List.mem_of_getElem? (i := 601) (by decide +kernel), List.mem_of_getElem? (i := 602) (by decide +kernel)⟩
theorem lw_p17 : lw_okq (⟨"WaxVoices", "allSound", "()I"⟩, 7) := ⟨⟨by decide +kernel, by decide +kernel⟩, List.mem_of_getElem? (i := 14) (by decide +kernel), List.mem_of_getElem? (i := 621) (by decide +kernel), List.mem_of_getElem? (i := 622) (by decide +kernel)⟩
theorem lw_p18 : lw_okq (⟨"WaxVoicesModel", "noSide", "(I)Z"⟩, 37) := ⟨⟨by decide +kernel, by decide +kernel⟩, List.mem_of_getElem? (i := 625) (by decide +kernel), List.mem_of_getElem? (i := 757) (by decide +kernel), List.mem_of_getElem? (i := 758) (by decide +kernel)⟩
theorem lw_p19 : lw_okq (⟨"WaxVoicesModel", "noSet", "(I)Z"⟩, 37) := ⟨⟨by decide +kernel, by decide +kernel⟩, List.mem_of_getElem? (i := 625) (by decide +kernel), List.mem_of_getElem? (i := 780) (by decide +kernel), List.mem_of_getElem? (i := 781) (by decide +kernel)⟩
theorem lw_p20 : lw_okq (⟨"WaxVoicesModel", "plan", "(III)V"⟩, 37) := ⟨⟨by decide +kernel, by decide +kernel⟩, List.mem_of_getElem? (i := 625) (by decide +kernel), List.mem_of_getElem? (i := 792) (by decide +kernel), List.mem_of_getElem? (i := 793) (by decide +kernel)⟩
theorem lw_p21 : lw_okq (⟨"WaxVoicesModel", "gather", "(I)V"⟩, 37) := ⟨⟨by decide +kernel, by decide +kernel⟩, List.mem_of_getElem? (i := 625) (by decide +kernel), List.mem_of_getElem? (i := 796) (by decide +kernel), List.mem_of_getElem? (i := 797) (by decide +kernel)⟩
theorem lw_p22 : lw_okq (⟨"WaxVoicesModel", "codes", "(I)I"⟩, 37) := ⟨⟨by decide +kernel, by decide +kernel⟩, List.mem_of_getElem? (i := 625) (by decide +kernel), List.mem_of_getElem? (i := 800) (by decide +kernel), List.mem_of_getElem? (i := 801) (by decide +kernel)⟩
theorem lw_p23 : lw_okq (⟨"WaxVoicesModel", "weigh", "(II)V"⟩, 37) := ⟨⟨by decide +kernel, by decide +kernel⟩, List.mem_of_getElem? (i := 625) (by decide +kernel), List.mem_of_getElem? (i := 804) (by decide +kernel), List.mem_of_getElem? (i := 805) (by decide +kernel)⟩
theorem lw_p24 : lw_okq (⟨"WaxVoicesModel", "most", "()I"⟩, 37) := ⟨⟨by decide +kernel, by decide +kernel⟩, List.mem_of_getElem? (i := 625) (by decide +kernel), List.mem_of_getElem? (i := 808) (by decide +kernel), List.mem_of_getElem? (i := 809) (by decide +kernel)⟩
theorem lw_p25 : lw_okq (⟨"WaxVoicesModel", "speedOf", "(I)I"⟩, 37) := ⟨⟨by decide +kernel, by decide +kernel⟩, List.mem_of_getElem? (i := 625) (by decide +kernel), List.mem_of_getElem? (i := 834) (by decide +kernel), List.mem_of_getElem? (i := 835) (by decide +kernel)⟩
theorem lw_p26 : lw_okq (⟨"WaxVoicesModel", "isOf", "(II)Z"⟩, 37) := ⟨⟨by decide +kernel, by decide +kernel⟩, List.mem_of_getElem? (i := 625) (by decide +kernel), List.mem_of_getElem? (i := 838) (by decide +kernel), List.mem_of_getElem? (i := 839) (by decide +kernel)⟩
theorem lw_p27 : lw_okq (⟨"WaxVoicesModel", "weighsOf", "(II)I"⟩, 37) := ⟨⟨by decide +kernel, by decide +kernel⟩, List.mem_of_getElem? (i := 625) (by decide +kernel), List.mem_of_getElem? (i := 842) (by decide +kernel), List.mem_of_getElem? (i := 843) (by decide +kernel)⟩
theorem lw_p28 : lw_okq (⟨"WaxVoicesModel", "join", "()V"⟩, 37) := ⟨⟨by decide +kernel, by decide +kernel⟩, List.mem_of_getElem? (i := 625) (by decide +kernel), List.mem_of_getElem? (i := 876) (by decide +kernel), List.mem_of_getElem? (i := 877) (by decide +kernel)⟩
theorem lw_p29 : lw_okq (⟨"WaxVoicesModel", "apart", "(II)I"⟩, 37) := ⟨⟨by decide +kernel, by decide +kernel⟩, List.mem_of_getElem? (i := 625) (by decide +kernel), List.mem_of_getElem? (i := 881) (by decide +kernel), List.mem_of_getElem? (i := 882) (by decide +kernel)⟩
theorem lw_p30 : lw_okq (⟨"WaxVoicesModel", "others", "(I)I"⟩, 37) := ⟨⟨by decide +kernel, by decide +kernel⟩, List.mem_of_getElem? (i := 625) (by decide +kernel), List.mem_of_getElem? (i := 885) (by decide +kernel), List.mem_of_getElem? (i := 886) (by decide +kernel)⟩
theorem lw_p31 : lw_okq (⟨"WaxVoicesModel", "leastOf", "()I"⟩, 37) := ⟨⟨by decide +kernel, by decide +kernel⟩, List.mem_of_getElem? (i := 625) (by decide +kernel), List.mem_of_getElem? (i := 893) (by decide +kernel), List.mem_of_getElem? (i := 894) (by decide +kernel)⟩
def lw_privs_2 : List (MethodName × Nat) := [(⟨"WaxVoices", "stepsUp", "(II)I"⟩, 7), (⟨"WaxVoices", "allSound", "()I"⟩, 7), (⟨"WaxVoicesModel", "noSide", "(I)Z"⟩, 37), (⟨"WaxVoicesModel", "noSet", "(I)Z"⟩, 37), (⟨"WaxVoicesModel", "plan", "(III)V"⟩, 37), (⟨"WaxVoicesModel", "gather", "(I)V"⟩, 37), (⟨"WaxVoicesModel", "codes", "(I)I"⟩, 37), (⟨"WaxVoicesModel", "weigh", "(II)V"⟩, 37), (⟨"WaxVoicesModel", "most", "()I"⟩, 37), (⟨"WaxVoicesModel", "speedOf", "(I)I"⟩, 37), (⟨"WaxVoicesModel", "isOf", "(II)Z"⟩, 37), (⟨"WaxVoicesModel", "weighsOf", "(II)I"⟩, 37), (⟨"WaxVoicesModel", "join", "()V"⟩, 37), (⟨"WaxVoicesModel", "apart", "(II)I"⟩, 37), (⟨"WaxVoicesModel", "others", "(I)I"⟩, 37), (⟨"WaxVoicesModel", "leastOf", "()I"⟩, 37)]
theorem lw_r2 : ∀ q ∈ lw_privs_2, lw_okq q := List.forall_mem_cons.mpr ⟨lw_p16, List.forall_mem_cons.mpr ⟨lw_p17, List.forall_mem_cons.mpr ⟨lw_p18, List.forall_mem_cons.mpr ⟨lw_p19, List.forall_mem_cons.mpr ⟨lw_p20, List.forall_mem_cons.mpr ⟨lw_p21, List.forall_mem_cons.mpr ⟨lw_p22, List.forall_mem_cons.mpr ⟨lw_p23, List.forall_mem_cons.mpr ⟨lw_p24, List.forall_mem_cons.mpr ⟨lw_p25, List.forall_mem_cons.mpr ⟨lw_p26, List.forall_mem_cons.mpr ⟨lw_p27, List.forall_mem_cons.mpr ⟨lw_p28, List.forall_mem_cons.mpr ⟨lw_p29, List.forall_mem_cons.mpr ⟨lw_p30, List.forall_mem_cons.mpr ⟨lw_p31, fun _ h => absurd h List.not_mem_nil⟩⟩⟩⟩⟩⟩⟩⟩⟩⟩⟩⟩⟩⟩⟩⟩
theorem lw_p32 : lw_okq (⟨"WaxVoicesModel", "countsOf", "(IIII)I"⟩, 37) := ⟨⟨by decide +kernel, by decide +kernel⟩, List.mem_of_getElem? (i := 625) (by decide +kernel), List.mem_of_getElem? (i := 920) (by decide +kernel), List.mem_of_getElem? (i := 921) (by decide +kernel)⟩
theorem lw_p33 : lw_okq (⟨"WaxVoicesModel", "mayHear", "(III)Z"⟩, 37) := ⟨⟨by decide +kernel, by decide +kernel⟩, List.mem_of_getElem? (i := 625) (by decide +kernel), List.mem_of_getElem? (i := 928) (by decide +kernel), List.mem_of_getElem? (i := 929) (by decide +kernel)⟩
theorem lw_p34 : lw_okq (⟨"WaxVoicesModel", "heardOf", "(II)I"⟩, 37) := ⟨⟨by decide +kernel, by decide +kernel⟩, List.mem_of_getElem? (i := 625) (by decide +kernel), List.mem_of_getElem? (i := 936) (by decide +kernel), List.mem_of_getElem? (i := 937) (by decide +kernel)⟩
theorem lw_p35 : lw_okq (⟨"WaxVoicesModel", "stepsTo", "(II)I"⟩, 37) := ⟨⟨by decide +kernel, by decide +kernel⟩, List.mem_of_getElem? (i := 625) (by decide +kernel), List.mem_of_getElem? (i := 948) (by decide +kernel), List.mem_of_getElem? (i := 949) (by decide +kernel)⟩
def lw_privs_3 : List (MethodName × Nat) := [(⟨"WaxVoicesModel", "countsOf", "(IIII)I"⟩, 37), (⟨"WaxVoicesModel", "mayHear", "(III)Z"⟩, 37), (⟨"WaxVoicesModel", "heardOf", "(II)I"⟩, 37), (⟨"WaxVoicesModel", "stepsTo", "(II)I"⟩, 37)]
theorem lw_r3 : ∀ q ∈ lw_privs_3, lw_okq q := List.forall_mem_cons.mpr ⟨lw_p32, List.forall_mem_cons.mpr ⟨lw_p33, List.forall_mem_cons.mpr ⟨lw_p34, List.forall_mem_cons.mpr ⟨lw_p35, fun _ h => absurd h List.not_mem_nil⟩⟩⟩⟩
def lw_privs : List (MethodName × Nat) := lw_privs_1 ++ (lw_privs_2 ++ (lw_privs_3))
def lw_tbl : List Cond := k2_sels lw_privs ++ tables_1
theorem lw_privs_ok : ∀ q ∈ lw_privs, lw_okq q := by
  show ∀ q ∈ lw_privs_1 ++ (lw_privs_2 ++ (lw_privs_3)), lw_okq q
  exact List.forall_mem_append.mpr ⟨lw_r1, List.forall_mem_append.mpr ⟨lw_r2, lw_r3⟩⟩
end
section
def RX0 : String := "WaxVoices$Planner"
def TX0 : u_T := fun k => match k with
  | 0 => ("WaxVoices$Planner", "places", "I", false)
  | 1 => ("WaxVoices$Planner", "years", "I", false)
  | 2 => ("WaxVoices$Planner", "lightHours", "[I", true)
  | 3 => ("WaxVoices$Planner", "needleHours", "[I", true)
  | 4 => ("WaxVoices$Planner", "saves", "[[I", true)
  | 5 => ("WaxVoices$Planner", "hoursLeft", "[I", true)
  | 6 => ("WaxVoices$Planner", "setLightHours", "[I", true)
  | 7 => ("WaxVoices$Planner", "setNeedleHours", "[I", true)
  | 8 => ("WaxVoices$Planner", "setLightSaves", "[I", true)
  | 9 => ("WaxVoices$Planner", "setNeedleSaves", "[I", true)
  | 10 => ("WaxVoices$Planner", "inOneYear", "[I", true)
  | _ => ("WaxVoices$Planner", "most", "[I", true)
def tyX0 : Nat → FieldType := fun k => match k with
  | 0 => .int
  | 1 => .int
  | 2 => .array .int
  | 3 => .array .int
  | 4 => .array (.array .int)
  | 5 => .array .int
  | 6 => .array .int
  | 7 => .array .int
  | 8 => .array .int
  | 9 => .array .int
  | 10 => .array .int
  | _ => .array .int
abbrev wsX00 : List Cond := u_ws RX0 TX0 12
theorem nmX0 : ∀ a, a < 12 → ∀ b, b < 12 → a ≠ b → (TX0 a).2.1 ≠ (TX0 b).2.1 := by decide +kernel
theorem tyX0_ok : ∀ k, k < 12 → parseFieldDescriptor (TX0 k).2.2.1 = some (tyX0 k) := by decide +kernel
abbrev cX0_init : ByteArray := prog_2_method_1_code
def yX0_init : MethodName := ⟨RX0, "<init>", "()V"⟩
abbrev cX0_begin : ByteArray := prog_2_method_2_code
def yX0_begin : MethodName := ⟨RX0, "begin", "(I)V"⟩
abbrev cX0_take : ByteArray := prog_2_method_3_code
def yX0_take : MethodName := ⟨RX0, "take", "(LWaxVoices$Side;)V"⟩
abbrev cX0_mostWith : ByteArray := prog_2_method_4_code
def yX0_mostWith : MethodName := ⟨RX0, "mostWith", "(I)I"⟩
abbrev cX0_leastHours : ByteArray := prog_2_method_5_code
def yX0_leastHours : MethodName := ⟨RX0, "leastHours", "(I)I"⟩
abbrev cX0_optionAt : ByteArray := prog_2_method_6_code
def yX0_optionAt : MethodName := ⟨RX0, "optionAt", "(II)I"⟩
abbrev cX0_firstOption : ByteArray := prog_2_method_7_code
def yX0_firstOption : MethodName := ⟨RX0, "firstOption", "(II)I"⟩
abbrev cX0_hoursFor : ByteArray := prog_2_method_8_code
def yX0_hoursFor : MethodName := ⟨RX0, "hoursFor", "(II)I"⟩
abbrev cX0_mostFrom : ByteArray := prog_2_method_9_code
def yX0_mostFrom : MethodName := ⟨RX0, "mostFrom", "(I)I"⟩
abbrev cX0_addUp : ByteArray := prog_2_method_10_code
def yX0_addUp : MethodName := ⟨RX0, "addUp", "([II[I)V"⟩
abbrev cX0_savedTogether : ByteArray := prog_2_method_11_code
def yX0_savedTogether : MethodName := ⟨RX0, "savedTogether", "(II)I"⟩
abbrev cX0_joinYear : ByteArray := prog_2_method_12_code
def yX0_joinYear : MethodName := ⟨RX0, "joinYear", "(I)V"⟩
def RX1 : String := "WaxVoices$Puzzle"
def TX1 : u_T := fun k => match k with
  | 0 => ("WaxVoices$Puzzle", "mostApart", "I", false)
  | 1 => ("WaxVoices$Puzzle", "count", "I", false)
  | 2 => ("WaxVoices$Puzzle", "left", "[I", true)
  | 3 => ("WaxVoices$Puzzle", "right", "[I", true)
  | 4 => ("WaxVoices$Puzzle", "ways", "[I", true)
  | _ => ("WaxVoices$Puzzle", "least", "[I", true)
def tyX1 : Nat → FieldType := fun k => match k with
  | 0 => .int
  | 1 => .int
  | 2 => .array .int
  | 3 => .array .int
  | 4 => .array .int
  | _ => .array .int
abbrev wsX10 : List Cond := u_ws RX1 TX1 6
theorem nmX1 : ∀ a, a < 6 → ∀ b, b < 6 → a ≠ b → (TX1 a).2.1 ≠ (TX1 b).2.1 := by decide +kernel
theorem tyX1_ok : ∀ k, k < 6 → parseFieldDescriptor (TX1 k).2.2.1 = some (tyX1 k) := by decide +kernel
abbrev cX1_init : ByteArray := prog_3_method_1_code
def yX1_init : MethodName := ⟨RX1, "<init>", "()V"⟩
abbrev cX1_isFull : ByteArray := prog_3_method_2_code
def yX1_isFull : MethodName := ⟨RX1, "isFull", "()Z"⟩
abbrev cX1_add : ByteArray := prog_3_method_3_code
def yX1_add : MethodName := ⟨RX1, "add", "(II)I"⟩
abbrev cX1_clear : ByteArray := prog_3_method_4_code
def yX1_clear : MethodName := ⟨RX1, "clear", "()I"⟩
abbrev cX1_countRows : ByteArray := prog_3_method_5_code
def yX1_countRows : MethodName := ⟨RX1, "countRows", "()I"⟩
abbrev cX1_leastMisfit : ByteArray := prog_3_method_6_code
def yX1_leastMisfit : MethodName := ⟨RX1, "leastMisfit", "()I"⟩
abbrev cX1_pieceAt : ByteArray := prog_3_method_7_code
def yX1_pieceAt : MethodName := ⟨RX1, "pieceAt", "(I)I"⟩
abbrev cX1_firstPiece : ByteArray := prog_3_method_8_code
def yX1_firstPiece : MethodName := ⟨RX1, "firstPiece", "()I"⟩
abbrev cX1_nextPiece : ByteArray := prog_3_method_9_code
def yX1_nextPiece : MethodName := ⟨RX1, "nextPiece", "(II)I"⟩
abbrev cX1_weighAll : ByteArray := prog_3_method_10_code
def yX1_weighAll : MethodName := ⟨RX1, "weighAll", "()V"⟩
abbrev cX1_weigh : ByteArray := prog_3_method_11_code
def yX1_weigh : MethodName := ⟨RX1, "weigh", "(IIZ)V"⟩
abbrev cX1_canFollow : ByteArray := prog_3_method_12_code
def yX1_canFollow : MethodName := ⟨RX1, "canFollow", "(III)Z"⟩
abbrev cX1_gap : ByteArray := prog_3_method_13_code
def yX1_gap : MethodName := ⟨RX1, "gap", "(II)I"⟩
abbrev cX1_cell : ByteArray := prog_3_method_14_code
def yX1_cell : MethodName := ⟨RX1, "cell", "(II)I"⟩
def RX2 : String := "WaxVoices$Side"
def TX2 : u_T := fun k => match k with
  | 0 => ("WaxVoices$Side", "worth", "I", true)
  | 1 => ("WaxVoices$Side", "wear", "I", true)
  | 2 => ("WaxVoices$Side", "rot", "I", true)
  | 3 => ("WaxVoices$Side", "sound", "I", false)
  | 4 => ("WaxVoices$Side", "lightHours", "I", false)
  | 5 => ("WaxVoices$Side", "needleHours", "I", false)
  | 6 => ("WaxVoices$Side", "plays", "I", false)
  | 7 => ("WaxVoices$Side", "latestReading", "I", false)
  | 8 => ("WaxVoices$Side", "copyOf", "I", false)
  | 9 => ("WaxVoices$Side", "families", "I", false)
  | _ => ("WaxVoices$Side", "song", "I", false)
def tyX2 : Nat → FieldType := fun k => match k with
  | 0 => .int
  | 1 => .int
  | 2 => .int
  | 3 => .int
  | 4 => .int
  | 5 => .int
  | 6 => .int
  | 7 => .int
  | 8 => .int
  | 9 => .int
  | _ => .int
abbrev wsX20 : List Cond := u_ws RX2 TX2 11
theorem nmX2 : ∀ a, a < 11 → ∀ b, b < 11 → a ≠ b → (TX2 a).2.1 ≠ (TX2 b).2.1 := by decide +kernel
theorem tyX2_ok : ∀ k, k < 11 → parseFieldDescriptor (TX2 k).2.2.1 = some (tyX2 k) := by decide +kernel
abbrev cX2_init : ByteArray := prog_4_method_1_code
def yX2_init : MethodName := ⟨RX2, "<init>", "(IIII)V"⟩
abbrev cX2_lose : ByteArray := prog_4_method_2_code
def yX2_lose : MethodName := ⟨RX2, "lose", "(I)V"⟩
abbrev cX2_savedIn : ByteArray := prog_4_method_3_code
def yX2_savedIn : MethodName := ⟨RX2, "savedIn", "(IZ)I"⟩
abbrev cX2_asked : ByteArray := prog_4_method_4_code
def yX2_asked : MethodName := ⟨RX2, "asked", "()I"⟩
abbrev cX2_isLetBy : ByteArray := prog_4_method_5_code
def yX2_isLetBy : MethodName := ⟨RX2, "isLetBy", "(I)Z"⟩
def RX3 : String := "WaxVoices$Sign"
def TX3 : u_T := fun k => match k with
  | 0 => ("WaxVoices$Sign", "side", "I", true)
  | 1 => ("WaxVoices$Sign", "low", "I", true)
  | 2 => ("WaxVoices$Sign", "high", "I", true)
  | 3 => ("WaxVoices$Sign", "weight", "I", true)
  | _ => ("WaxVoices$Sign", "live", "Z", false)
def tyX3 : Nat → FieldType := fun k => match k with
  | 0 => .int
  | 1 => .int
  | 2 => .int
  | 3 => .int
  | _ => .boolean
abbrev wsX30 : List Cond := u_ws RX3 TX3 5
theorem nmX3 : ∀ a, a < 5 → ∀ b, b < 5 → a ≠ b → (TX3 a).2.1 ≠ (TX3 b).2.1 := by decide +kernel
theorem tyX3_ok : ∀ k, k < 5 → parseFieldDescriptor (TX3 k).2.2.1 = some (tyX3 k) := by decide +kernel
abbrev cX3_init : ByteArray := prog_5_method_1_code
def yX3_init : MethodName := ⟨RX3, "<init>", "(IIII)V"⟩
abbrev cX3_isOf : ByteArray := prog_5_method_2_code
def yX3_isOf : MethodName := ⟨RX3, "isOf", "(I)Z"⟩
abbrev cX3_isApartFrom : ByteArray := prog_5_method_3_code
def yX3_isApartFrom : MethodName := ⟨RX3, "isApartFrom", "(LWaxVoices$Sign;)Z"⟩
def RX4 : String := "WaxVoices$SignBook"
def TX4 : u_T := fun k => match k with
  | 0 => ("WaxVoices$SignBook", "signs", "[LWaxVoices$Sign;", true)
  | _ => ("WaxVoices$SignBook", "count", "I", false)
def tyX4 : Nat → FieldType := fun k => match k with
  | 0 => .array (.object "WaxVoices$Sign")
  | _ => .int
abbrev wsX40 : List Cond := u_ws RX4 TX4 2
theorem nmX4 : ∀ a, a < 2 → ∀ b, b < 2 → a ≠ b → (TX4 a).2.1 ≠ (TX4 b).2.1 := by decide +kernel
theorem tyX4_ok : ∀ k, k < 2 → parseFieldDescriptor (TX4 k).2.2.1 = some (tyX4 k) := by decide +kernel
abbrev cX4_init : ByteArray := prog_6_method_1_code
def yX4_init : MethodName := ⟨RX4, "<init>", "()V"⟩
abbrev cX4_isFull : ByteArray := prog_6_method_2_code
def yX4_isFull : MethodName := ⟨RX4, "isFull", "()Z"⟩
abbrev cX4_has : ByteArray := prog_6_method_3_code
def yX4_has : MethodName := ⟨RX4, "has", "(I)Z"⟩
abbrev cX4_add : ByteArray := prog_6_method_4_code
def yX4_add : MethodName := ⟨RX4, "add", "(LWaxVoices$Sign;)I"⟩
abbrev cX4_takeOut : ByteArray := prog_6_method_5_code
def yX4_takeOut : MethodName := ⟨RX4, "takeOut", "(I)Z"⟩
abbrev cX4_countLive : ByteArray := prog_6_method_6_code
def yX4_countLive : MethodName := ⟨RX4, "countLive", "()I"⟩
abbrev cX4_weightAt : ByteArray := prog_6_method_7_code
def yX4_weightAt : MethodName := ⟨RX4, "weightAt", "(II)I"⟩
abbrev cX4_leastHeaviest : ByteArray := prog_6_method_8_code
def yX4_leastHeaviest : MethodName := ⟨RX4, "leastHeaviest", "(I)I"⟩
abbrev cX4_lastHeaviest : ByteArray := prog_6_method_9_code
def yX4_lastHeaviest : MethodName := ⟨RX4, "lastHeaviest", "(I)I"⟩
abbrev cX4_pairsApart : ByteArray := prog_6_method_10_code
def yX4_pairsApart : MethodName := ⟨RX4, "pairsApart", "(I)I"⟩
def RX5 : String := "WaxVoices$Text"
def TX5 : u_T := fun k => match k with
  | 0 => ("WaxVoices$Text", "number", "I", true)
  | 1 => ("WaxVoices$Text", "pairs", "I", true)
  | 2 => ("WaxVoices$Text", "hearer", "I", true)
  | 3 => ("WaxVoices$Text", "day", "I", true)
  | _ => ("WaxVoices$Text", "lets", "Z", true)
def tyX5 : Nat → FieldType := fun k => match k with
  | 0 => .int
  | 1 => .int
  | 2 => .int
  | 3 => .int
  | _ => .boolean
abbrev wsX50 : List Cond := u_ws RX5 TX5 5
theorem nmX5 : ∀ a, a < 5 → ∀ b, b < 5 → a ≠ b → (TX5 a).2.1 ≠ (TX5 b).2.1 := by decide +kernel
theorem tyX5_ok : ∀ k, k < 5 → parseFieldDescriptor (TX5 k).2.2.1 = some (tyX5 k) := by decide +kernel
abbrev cX5_init : ByteArray := prog_7_method_1_code
def yX5_init : MethodName := ⟨RX5, "<init>", "(IIIIZ)V"⟩
abbrev cX5_isFor : ByteArray := prog_7_method_2_code
def yX5_isFor : MethodName := ⟨RX5, "isFor", "(I)Z"⟩
abbrev cX5_letAfter : ByteArray := prog_7_method_3_code
def yX5_letAfter : MethodName := ⟨RX5, "letAfter", "(I)I"⟩
def RX6 : String := "WaxVoices$TextBook"
def TX6 : u_T := fun k => match k with
  | 0 => ("WaxVoices$TextBook", "byDay", "[LWaxVoices$Text;", true)
  | _ => ("WaxVoices$TextBook", "count", "I", false)
def tyX6 : Nat → FieldType := fun k => match k with
  | 0 => .array (.object "WaxVoices$Text")
  | _ => .int
abbrev wsX60 : List Cond := u_ws RX6 TX6 2
theorem nmX6 : ∀ a, a < 2 → ∀ b, b < 2 → a ≠ b → (TX6 a).2.1 ≠ (TX6 b).2.1 := by decide +kernel
theorem tyX6_ok : ∀ k, k < 2 → parseFieldDescriptor (TX6 k).2.2.1 = some (tyX6 k) := by decide +kernel
abbrev cX6_init : ByteArray := prog_8_method_1_code
def yX6_init : MethodName := ⟨RX6, "<init>", "()V"⟩
abbrev cX6_isFull : ByteArray := prog_8_method_2_code
def yX6_isFull : MethodName := ⟨RX6, "isFull", "()Z"⟩
abbrev cX6_add : ByteArray := prog_8_method_3_code
def yX6_add : MethodName := ⟨RX6, "add", "(IIIZ)I"⟩
abbrev cX6_latestFor : ByteArray := prog_8_method_4_code
def yX6_latestFor : MethodName := ⟨RX6, "latestFor", "(III)I"⟩
abbrev cX6_letOn : ByteArray := prog_8_method_5_code
def yX6_letOn : MethodName := ⟨RX6, "letOn", "(II)I"⟩
abbrev cX6_daysThatLet : ByteArray := prog_8_method_6_code
def yX6_daysThatLet : MethodName := ⟨RX6, "daysThatLet", "(IIII)I"⟩
def RX7 : String := "WaxVoices"
def TX7 : u_T := fun k => match k with
  | 0 => ("WaxVoices", "sides", "[LWaxVoices$Side;", true)
  | 1 => ("WaxVoices", "sideCount", "I", false)
  | 2 => ("WaxVoices", "year", "I", false)
  | 3 => ("WaxVoices", "planner", "LWaxVoices$Planner;", true)
  | 4 => ("WaxVoices", "signs", "LWaxVoices$SignBook;", true)
  | 5 => ("WaxVoices", "puzzle", "LWaxVoices$Puzzle;", true)
  | _ => ("WaxVoices", "texts", "LWaxVoices$TextBook;", true)
def tyX7 : Nat → FieldType := fun k => match k with
  | 0 => .array (.object "WaxVoices$Side")
  | 1 => .int
  | 2 => .int
  | 3 => .object "WaxVoices$Planner"
  | 4 => .object "WaxVoices$SignBook"
  | 5 => .object "WaxVoices$Puzzle"
  | _ => .object "WaxVoices$TextBook"
abbrev wsX70 : List Cond := u_ws RX7 TX7 7
theorem nmX7 : ∀ a, a < 7 → ∀ b, b < 7 → a ≠ b → (TX7 a).2.1 ≠ (TX7 b).2.1 := by decide +kernel
theorem tyX7_ok : ∀ k, k < 7 → parseFieldDescriptor (TX7 k).2.2.1 = some (tyX7 k) := by decide +kernel
abbrev cX7_init : ByteArray := prog_1_method_1_code
def yX7_init : MethodName := ⟨RX7, "<init>", "()V"⟩
abbrev cX7_side : ByteArray := prog_1_method_2_code
def yX7_side : MethodName := ⟨RX7, "side", "(IIII)I"⟩
abbrev cX7_hours : ByteArray := prog_1_method_3_code
def yX7_hours : MethodName := ⟨RX7, "hours", "(III)I"⟩
abbrev cX7_told : ByteArray := prog_1_method_4_code
def yX7_told : MethodName := ⟨RX7, "told", "(II)I"⟩
abbrev cX7_read : ByteArray := prog_1_method_5_code
def yX7_read : MethodName := ⟨RX7, "read", "(IZ)I"⟩
abbrev cX7_pass : ByteArray := prog_1_method_6_code
def yX7_pass : MethodName := ⟨RX7, "pass", "(I)I"⟩
abbrev cX7_best : ByteArray := prog_1_method_7_code
def yX7_best : MethodName := ⟨RX7, "best", "(III)I"⟩
abbrev cX7_does : ByteArray := prog_1_method_8_code
def yX7_does : MethodName := ⟨RX7, "does", "(IIII)I"⟩
abbrev cX7_needed : ByteArray := prog_1_method_9_code
def yX7_needed : MethodName := ⟨RX7, "needed", "(III)I"⟩
abbrev cX7_planRefusal : ByteArray := prog_1_method_10_code
def yX7_planRefusal : MethodName := ⟨RX7, "planRefusal", "(IIII)I"⟩
abbrev cX7_takeIntoPlan : ByteArray := prog_1_method_11_code
def yX7_takeIntoPlan : MethodName := ⟨RX7, "takeIntoPlan", "(II)V"⟩
abbrev cX7_sign : ByteArray := prog_1_method_12_code
def yX7_sign : MethodName := ⟨RX7, "sign", "(IIII)I"⟩
abbrev cX7_drop : ByteArray := prog_1_method_13_code
def yX7_drop : MethodName := ⟨RX7, "drop", "(I)I"⟩
abbrev cX7_speed : ByteArray := prog_1_method_14_code
def yX7_speed : MethodName := ⟨RX7, "speed", "(I)I"⟩
abbrev cX7_span : ByteArray := prog_1_method_15_code
def yX7_span : MethodName := ⟨RX7, "span", "(I)I"⟩
abbrev cX7_weighs : ByteArray := prog_1_method_16_code
def yX7_weighs : MethodName := ⟨RX7, "weighs", "(II)I"⟩
abbrev cX7_quarrels : ByteArray := prog_1_method_17_code
def yX7_quarrels : MethodName := ⟨RX7, "quarrels", "(I)I"⟩
abbrev cX7_piece : ByteArray := prog_1_method_18_code
def yX7_piece : MethodName := ⟨RX7, "piece", "(II)I"⟩
abbrev cX7_sweep : ByteArray := prog_1_method_19_code
def yX7_sweep : MethodName := ⟨RX7, "sweep", "()I"⟩
abbrev cX7_tolerance : ByteArray := prog_1_method_20_code
def yX7_tolerance : MethodName := ⟨RX7, "tolerance", "(I)I"⟩
abbrev cX7_rows : ByteArray := prog_1_method_21_code
def yX7_rows : MethodName := ⟨RX7, "rows", "()I"⟩
abbrev cX7_misfit : ByteArray := prog_1_method_22_code
def yX7_misfit : MethodName := ⟨RX7, "misfit", "()I"⟩
abbrev cX7_inRow : ByteArray := prog_1_method_23_code
def yX7_inRow : MethodName := ⟨RX7, "inRow", "(I)I"⟩
abbrev cX7_sung : ByteArray := prog_1_method_24_code
def yX7_sung : MethodName := ⟨RX7, "sung", "(III)I"⟩
abbrev cX7_text : ByteArray := prog_1_method_25_code
def yX7_text : MethodName := ⟨RX7, "text", "(IIIIZ)I"⟩
abbrev cX7_counts : ByteArray := prog_1_method_26_code
def yX7_counts : MethodName := ⟨RX7, "counts", "(IIII)I"⟩
abbrev cX7_may : ByteArray := prog_1_method_27_code
def yX7_may : MethodName := ⟨RX7, "may", "(III)I"⟩
abbrev cX7_heard : ByteArray := prog_1_method_28_code
def yX7_heard : MethodName := ⟨RX7, "heard", "(II)I"⟩
abbrev cX7_days : ByteArray := prog_1_method_29_code
def yX7_days : MethodName := ⟨RX7, "days", "(IIII)I"⟩
abbrev cX7_askedBy : ByteArray := prog_1_method_30_code
def yX7_askedBy : MethodName := ⟨RX7, "askedBy", "(II)I"⟩
abbrev cX7_copy : ByteArray := prog_1_method_31_code
def yX7_copy : MethodName := ⟨RX7, "copy", "(II)I"⟩
abbrev cX7_copies : ByteArray := prog_1_method_32_code
def yX7_copies : MethodName := ⟨RX7, "copies", "(I)I"⟩
abbrev cX7_clearest : ByteArray := prog_1_method_33_code
def yX7_clearest : MethodName := ⟨RX7, "clearest", "(I)I"⟩
abbrev cX7_total : ByteArray := prog_1_method_34_code
def yX7_total : MethodName := ⟨RX7, "total", "(I)I"⟩
abbrev cX7_stepsUp : ByteArray := prog_1_method_35_code
def yX7_stepsUp : MethodName := ⟨RX7, "stepsUp", "(II)I"⟩
abbrev cX7_allSound : ByteArray := prog_1_method_36_code
def yX7_allSound : MethodName := ⟨RX7, "allSound", "()I"⟩
abbrev cX7_isSide : ByteArray := prog_1_method_37_code
def yX7_isSide : MethodName := ⟨RX7, "isSide", "(I)Z"⟩
abbrev cX7_isSetOfSides : ByteArray := prog_1_method_38_code
def yX7_isSetOfSides : MethodName := ⟨RX7, "isSetOfSides", "(I)Z"⟩
abbrev cX7_isFamily : ByteArray := prog_1_method_39_code
def yX7_isFamily : MethodName := ⟨RX7, "isFamily", "(I)Z"⟩
abbrev cX7_isSong : ByteArray := prog_1_method_40_code
def yX7_isSong : MethodName := ⟨RX7, "isSong", "(I)Z"⟩
abbrev cX7_isHearer : ByteArray := prog_1_method_41_code
def yX7_isHearer : MethodName := ⟨RX7, "isHearer", "(I)Z"⟩
abbrev cX7_isDay : ByteArray := prog_1_method_42_code
def yX7_isDay : MethodName := ⟨RX7, "isDay", "(I)Z"⟩
abbrev cX7_within : ByteArray := prog_1_method_43_code
def yX7_within : MethodName := ⟨RX7, "within", "(III)Z"⟩
abbrev cX7_holds : ByteArray := prog_1_method_44_code
def yX7_holds : MethodName := ⟨RX7, "holds", "(II)Z"⟩
def RX8 : String := "WaxVoicesModel"
def TX8 : u_T := fun k => match k with
  | 0 => ("WaxVoicesModel", "thrown", "I", false)
  | 1 => ("WaxVoicesModel", "sides", "I", false)
  | 2 => ("WaxVoicesModel", "year", "I", false)
  | 3 => ("WaxVoicesModel", "worth", "[I", true)
  | 4 => ("WaxVoicesModel", "sound", "[I", true)
  | 5 => ("WaxVoicesModel", "wear", "[I", true)
  | 6 => ("WaxVoicesModel", "rot", "[I", true)
  | 7 => ("WaxVoicesModel", "light", "[I", true)
  | 8 => ("WaxVoicesModel", "needle", "[I", true)
  | 9 => ("WaxVoicesModel", "plays", "[I", true)
  | 10 => ("WaxVoicesModel", "latest", "[I", true)
  | 11 => ("WaxVoicesModel", "copyOf", "[I", true)
  | 12 => ("WaxVoicesModel", "families", "[I", true)
  | 13 => ("WaxVoicesModel", "song", "[I", true)
  | 14 => ("WaxVoicesModel", "signs", "I", false)
  | 15 => ("WaxVoicesModel", "signSide", "[I", true)
  | 16 => ("WaxVoicesModel", "low", "[I", true)
  | 17 => ("WaxVoicesModel", "high", "[I", true)
  | 18 => ("WaxVoicesModel", "weight", "[I", true)
  | 19 => ("WaxVoicesModel", "isGone", "[Z", true)
  | 20 => ("WaxVoicesModel", "pieces", "I", false)
  | 21 => ("WaxVoicesModel", "tolerance", "I", false)
  | 22 => ("WaxVoicesModel", "left", "[I", true)
  | 23 => ("WaxVoicesModel", "right", "[I", true)
  | 24 => ("WaxVoicesModel", "texts", "I", false)
  | 25 => ("WaxVoicesModel", "family", "[I", true)
  | 26 => ("WaxVoicesModel", "textSong", "[I", true)
  | 27 => ("WaxVoicesModel", "hearer", "[I", true)
  | 28 => ("WaxVoicesModel", "from", "[I", true)
  | 29 => ("WaxVoicesModel", "lets", "[Z", true)
  | 30 => ("WaxVoicesModel", "members", "I", false)
  | 31 => ("WaxVoicesModel", "member", "[I", true)
  | 32 => ("WaxVoicesModel", "done", "[I", true)
  | 33 => ("WaxVoicesModel", "saved", "I", false)
  | 34 => ("WaxVoicesModel", "used", "[I", true)
  | 35 => ("WaxVoicesModel", "least", "[I", true)
  | _ => ("WaxVoicesModel", "ways", "[I", true)
def tyX8 : Nat → FieldType := fun k => match k with
  | 0 => .int
  | 1 => .int
  | 2 => .int
  | 3 => .array .int
  | 4 => .array .int
  | 5 => .array .int
  | 6 => .array .int
  | 7 => .array .int
  | 8 => .array .int
  | 9 => .array .int
  | 10 => .array .int
  | 11 => .array .int
  | 12 => .array .int
  | 13 => .array .int
  | 14 => .int
  | 15 => .array .int
  | 16 => .array .int
  | 17 => .array .int
  | 18 => .array .int
  | 19 => .array .boolean
  | 20 => .int
  | 21 => .int
  | 22 => .array .int
  | 23 => .array .int
  | 24 => .int
  | 25 => .array .int
  | 26 => .array .int
  | 27 => .array .int
  | 28 => .array .int
  | 29 => .array .boolean
  | 30 => .int
  | 31 => .array .int
  | 32 => .array .int
  | 33 => .int
  | 34 => .array .int
  | 35 => .array .int
  | _ => .array .int
abbrev wsX80 : List Cond := u_ws RX8 TX8 37
theorem nmX8 : ∀ a, a < 37 → ∀ b, b < 37 → a ≠ b → (TX8 a).2.1 ≠ (TX8 b).2.1 := by decide +kernel
theorem tyX8_ok : ∀ k, k < 37 → parseFieldDescriptor (TX8 k).2.2.1 = some (tyX8 k) := by decide +kernel
abbrev cX8_init : ByteArray := prog_10_method_1_code
def yX8_init : MethodName := ⟨RX8, "<init>", "()V"⟩
abbrev cX8_in : ByteArray := prog_10_method_3_code
def yX8_in : MethodName := ⟨RX8, "in", "(JJJ)Z"⟩
abbrev cX8_noSide : ByteArray := prog_10_method_4_code
def yX8_noSide : MethodName := ⟨RX8, "noSide", "(I)Z"⟩
abbrev cX8_noSet : ByteArray := prog_10_method_5_code
def yX8_noSet : MethodName := ⟨RX8, "noSet", "(I)Z"⟩
abbrev cX8_bits : ByteArray := prog_10_method_6_code
def yX8_bits : MethodName := ⟨RX8, "bits", "(I)I"⟩
abbrev cX8_side : ByteArray := prog_10_method_7_code
def yX8_side : MethodName := ⟨RX8, "side", "(IIII)I"⟩
abbrev cX8_hours : ByteArray := prog_10_method_8_code
def yX8_hours : MethodName := ⟨RX8, "hours", "(III)I"⟩
abbrev cX8_told : ByteArray := prog_10_method_9_code
def yX8_told : MethodName := ⟨RX8, "told", "(II)I"⟩
abbrev cX8_atLeastNone : ByteArray := prog_10_method_10_code
def yX8_atLeastNone : MethodName := ⟨RX8, "atLeastNone", "(I)I"⟩
abbrev cX8_read : ByteArray := prog_10_method_11_code
def yX8_read : MethodName := ⟨RX8, "read", "(IZ)I"⟩
abbrev cX8_pass : ByteArray := prog_10_method_12_code
def yX8_pass : MethodName := ⟨RX8, "pass", "(I)I"⟩
abbrev cX8_gather : ByteArray := prog_10_method_13_code
def yX8_gather : MethodName := ⟨RX8, "gather", "(I)V"⟩
abbrev cX8_weigh : ByteArray := prog_10_method_14_code
def yX8_weigh : MethodName := ⟨RX8, "weigh", "(II)V"⟩
abbrev cX8_most : ByteArray := prog_10_method_15_code
def yX8_most : MethodName := ⟨RX8, "most", "()I"⟩
abbrev cX8_codes : ByteArray := prog_10_method_16_code
def yX8_codes : MethodName := ⟨RX8, "codes", "(I)I"⟩
abbrev cX8_plan : ByteArray := prog_10_method_17_code
def yX8_plan : MethodName := ⟨RX8, "plan", "(III)V"⟩
abbrev cX8_badPlan : ByteArray := prog_10_method_18_code
def yX8_badPlan : MethodName := ⟨RX8, "badPlan", "(III)Z"⟩
abbrev cX8_best : ByteArray := prog_10_method_19_code
def yX8_best : MethodName := ⟨RX8, "best", "(III)I"⟩
abbrev cX8_does : ByteArray := prog_10_method_20_code
def yX8_does : MethodName := ⟨RX8, "does", "(IIII)I"⟩
abbrev cX8_needed : ByteArray := prog_10_method_21_code
def yX8_needed : MethodName := ⟨RX8, "needed", "(III)I"⟩
abbrev cX8_sign : ByteArray := prog_10_method_22_code
def yX8_sign : MethodName := ⟨RX8, "sign", "(IIII)I"⟩
abbrev cX8_drop : ByteArray := prog_10_method_23_code
def yX8_drop : MethodName := ⟨RX8, "drop", "(I)I"⟩
abbrev cX8_isOf : ByteArray := prog_10_method_24_code
def yX8_isOf : MethodName := ⟨RX8, "isOf", "(II)Z"⟩
abbrev cX8_weighsOf : ByteArray := prog_10_method_25_code
def yX8_weighsOf : MethodName := ⟨RX8, "weighsOf", "(II)I"⟩
abbrev cX8_speedOf : ByteArray := prog_10_method_26_code
def yX8_speedOf : MethodName := ⟨RX8, "speedOf", "(I)I"⟩
abbrev cX8_speed : ByteArray := prog_10_method_27_code
def yX8_speed : MethodName := ⟨RX8, "speed", "(I)I"⟩
abbrev cX8_span : ByteArray := prog_10_method_28_code
def yX8_span : MethodName := ⟨RX8, "span", "(I)I"⟩
abbrev cX8_weighs : ByteArray := prog_10_method_29_code
def yX8_weighs : MethodName := ⟨RX8, "weighs", "(II)I"⟩
abbrev cX8_quarrels : ByteArray := prog_10_method_30_code
def yX8_quarrels : MethodName := ⟨RX8, "quarrels", "(I)I"⟩
abbrev cX8_piece : ByteArray := prog_10_method_31_code
def yX8_piece : MethodName := ⟨RX8, "piece", "(II)I"⟩
abbrev cX8_sweep : ByteArray := prog_10_method_32_code
def yX8_sweep : MethodName := ⟨RX8, "sweep", "()I"⟩
abbrev cX8_tolerance : ByteArray := prog_10_method_33_code
def yX8_tolerance : MethodName := ⟨RX8, "tolerance", "(I)I"⟩
abbrev cX8_apart : ByteArray := prog_10_method_34_code
def yX8_apart : MethodName := ⟨RX8, "apart", "(II)I"⟩
abbrev cX8_join : ByteArray := prog_10_method_35_code
def yX8_join : MethodName := ⟨RX8, "join", "()V"⟩
abbrev cX8_others : ByteArray := prog_10_method_36_code
def yX8_others : MethodName := ⟨RX8, "others", "(I)I"⟩
abbrev cX8_rows : ByteArray := prog_10_method_37_code
def yX8_rows : MethodName := ⟨RX8, "rows", "()I"⟩
abbrev cX8_leastOf : ByteArray := prog_10_method_38_code
def yX8_leastOf : MethodName := ⟨RX8, "leastOf", "()I"⟩
abbrev cX8_misfit : ByteArray := prog_10_method_39_code
def yX8_misfit : MethodName := ⟨RX8, "misfit", "()I"⟩
abbrev cX8_inRow : ByteArray := prog_10_method_40_code
def yX8_inRow : MethodName := ⟨RX8, "inRow", "(I)I"⟩
abbrev cX8_sung : ByteArray := prog_10_method_41_code
def yX8_sung : MethodName := ⟨RX8, "sung", "(III)I"⟩
abbrev cX8_noDay : ByteArray := prog_10_method_42_code
def yX8_noDay : MethodName := ⟨RX8, "noDay", "(I)Z"⟩
abbrev cX8_text : ByteArray := prog_10_method_43_code
def yX8_text : MethodName := ⟨RX8, "text", "(IIIIZ)I"⟩
abbrev cX8_countsOf : ByteArray := prog_10_method_44_code
def yX8_countsOf : MethodName := ⟨RX8, "countsOf", "(IIII)I"⟩
abbrev cX8_counts : ByteArray := prog_10_method_45_code
def yX8_counts : MethodName := ⟨RX8, "counts", "(IIII)I"⟩
abbrev cX8_mayHear : ByteArray := prog_10_method_46_code
def yX8_mayHear : MethodName := ⟨RX8, "mayHear", "(III)Z"⟩
abbrev cX8_may : ByteArray := prog_10_method_47_code
def yX8_may : MethodName := ⟨RX8, "may", "(III)I"⟩
abbrev cX8_heardOf : ByteArray := prog_10_method_48_code
def yX8_heardOf : MethodName := ⟨RX8, "heardOf", "(II)I"⟩
abbrev cX8_heard : ByteArray := prog_10_method_49_code
def yX8_heard : MethodName := ⟨RX8, "heard", "(II)I"⟩
abbrev cX8_days : ByteArray := prog_10_method_50_code
def yX8_days : MethodName := ⟨RX8, "days", "(IIII)I"⟩
abbrev cX8_stepsTo : ByteArray := prog_10_method_51_code
def yX8_stepsTo : MethodName := ⟨RX8, "stepsTo", "(II)I"⟩
abbrev cX8_copy : ByteArray := prog_10_method_52_code
def yX8_copy : MethodName := ⟨RX8, "copy", "(II)I"⟩
abbrev cX8_copies : ByteArray := prog_10_method_53_code
def yX8_copies : MethodName := ⟨RX8, "copies", "(I)I"⟩
abbrev cX8_clearest : ByteArray := prog_10_method_54_code
def yX8_clearest : MethodName := ⟨RX8, "clearest", "(I)I"⟩
abbrev cX8_total : ByteArray := prog_10_method_55_code
def yX8_total : MethodName := ⟨RX8, "total", "(I)I"⟩
def RJ6 : String := "java/lang/Integer"
def TJ6 : u_T := fun k => match k with
  | _ => ("", "", "", false)
def tyJ6 : Nat → FieldType := fun k => match k with
  | _ => .int
abbrev wsJ60 : List Cond := u_ws RJ6 TJ6 0
theorem nmJ6 : ∀ a, a < 0 → ∀ b, b < 0 → a ≠ b → (TJ6 a).2.1 ≠ (TJ6 b).2.1 := by decide +kernel
theorem tyJ6_ok : ∀ k, k < 0 → parseFieldDescriptor (TJ6 k).2.2.1 = some (tyJ6 k) := by decide +kernel
abbrev cJ6_bitCount_0f7a4 : ByteArray := prog_11_method_49_code
def yJ6_bitCount_0f7a4 : MethodName := ⟨RJ6, "bitCount", "(I)I"⟩
def RJ9 : String := "java/lang/Math"
def TJ9 : u_T := fun k => match k with
  | _ => ("", "", "", false)
def tyJ9 : Nat → FieldType := fun k => match k with
  | _ => .int
abbrev wsJ90 : List Cond := u_ws RJ9 TJ9 0
theorem nmJ9 : ∀ a, a < 0 → ∀ b, b < 0 → a ≠ b → (TJ9 a).2.1 ≠ (TJ9 b).2.1 := by decide +kernel
theorem tyJ9_ok : ∀ k, k < 0 → parseFieldDescriptor (TJ9 k).2.2.1 = some (tyJ9 k) := by decide +kernel
abbrev cJ9_abs_0f7a4 : ByteArray := prog_12_method_59_code
def yJ9_abs_0f7a4 : MethodName := ⟨RJ9, "abs", "(I)I"⟩
abbrev cJ9_max_7cf53 : ByteArray := prog_12_method_65_code
def yJ9_max_7cf53 : MethodName := ⟨RJ9, "max", "(II)I"⟩
abbrev cJ9_min_7cf53 : ByteArray := prog_12_method_69_code
def yJ9_min_7cf53 : MethodName := ⟨RJ9, "min", "(II)I"⟩
def RJ7 : String := "java/util/Arrays"
def TJ7 : u_T := fun k => match k with
  | _ => ("", "", "", false)
def tyJ7 : Nat → FieldType := fun k => match k with
  | _ => .int
abbrev wsJ70 : List Cond := u_ws RJ7 TJ7 0
theorem nmJ7 : ∀ a, a < 0 → ∀ b, b < 0 → a ≠ b → (TJ7 a).2.1 ≠ (TJ7 b).2.1 := by decide +kernel
theorem tyJ7_ok : ∀ k, k < 0 → parseFieldDescriptor (TJ7 k).2.2.1 = some (tyJ7 k) := by decide +kernel
abbrev cJ7_fill_53178 : ByteArray := prog_13_method_103_code
def yJ7_fill_53178 : MethodName := ⟨RJ7, "fill", "([II)V"⟩
def RL : String := "WaxVoicesLaw"
abbrev cL_law : ByteArray := code
def yL_law : MethodName := ⟨RL, "law", "([I)Z"⟩
abbrev vwCl : List vw_C := [(RX0, TX0, 12), (RX1, TX1, 6), (RX2, TX2, 11), (RX3, TX3, 5), (RX4, TX4, 2), (RX5, TX5, 5), (RX6, TX6, 2), (RX7, TX7, 7), (RX8, TX8, 37)]
end
section
/-- the words that every method gets: the tables' words, those that keep -/
def wsG : List Cond := lw_tbl.filter goodWord
theorem wsG_good : wsG.all goodWord = true := List.all_eq_true.mpr fun _ h => (List.mem_filter.mp h).2
theorem inTb {w : Cond} (h : w ∈ tables_1) (hg : goodWord w = true) : w ∈ wsG := List.mem_filter.mpr ⟨List.mem_append_right _ h, hg⟩
theorem inT1 {w : Cond} {i : Nat} (h : tables_1_1[i]? = some w) (hg : goodWord w = true) : w ∈ wsG := inTb (List.mem_append_left _ (List.mem_of_getElem? h)) hg
theorem inT2 {w : Cond} {i : Nat} (h : tables_1_2[i]? = some w) (hg : goodWord w = true) : w ∈ wsG := inTb (List.mem_append_right _ (List.mem_append_left _ (List.mem_of_getElem? h))) hg
theorem inT3 {w : Cond} {i : Nat} (h : tables_1_3[i]? = some w) (hg : goodWord w = true) : w ∈ wsG := inTb (List.mem_append_right _ (List.mem_append_right _ (List.mem_append_left _ (List.mem_of_getElem? h)))) hg
theorem inT4 {w : Cond} {i : Nat} (h : tables_1_4[i]? = some w) (hg : goodWord w = true) : w ∈ wsG := inTb (List.mem_append_right _ (List.mem_append_right _ (List.mem_append_right _ (List.mem_append_left _ (List.mem_of_getElem? h))))) hg
theorem inT5 {w : Cond} {i : Nat} (h : tables_1_5[i]? = some w) (hg : goodWord w = true) : w ∈ wsG := inTb (List.mem_append_right _ (List.mem_append_right _ (List.mem_append_right _ (List.mem_append_right _ (List.mem_of_getElem? h))))) hg
theorem inS {w : Cond} {i : Nat} (h : (k2_sels lw_privs)[i]? = some w) (hg : goodWord w = true) : w ∈ wsG := List.mem_filter.mpr ⟨List.mem_append_left _ (List.mem_of_getElem? h), hg⟩

theorem lyX0_0 : u_lay RX0 TX0 0 ∈ wsG := inT1 (i := 43) rfl rfl
theorem lyX0_1 : u_lay RX0 TX0 1 ∈ wsG := inT1 (i := 45) rfl rfl
theorem lyX0_2 : u_lay RX0 TX0 2 ∈ wsG := inT1 (i := 47) rfl rfl
theorem lyX0_3 : u_lay RX0 TX0 3 ∈ wsG := inT1 (i := 49) rfl rfl
theorem lyX0_4 : u_lay RX0 TX0 4 ∈ wsG := inT1 (i := 51) rfl rfl
theorem lyX0_5 : u_lay RX0 TX0 5 ∈ wsG := inT1 (i := 53) rfl rfl
theorem lyX0_6 : u_lay RX0 TX0 6 ∈ wsG := inT1 (i := 55) rfl rfl
theorem lyX0_7 : u_lay RX0 TX0 7 ∈ wsG := inT1 (i := 57) rfl rfl
theorem lyX0_8 : u_lay RX0 TX0 8 ∈ wsG := inT1 (i := 59) rfl rfl
theorem lyX0_9 : u_lay RX0 TX0 9 ∈ wsG := inT1 (i := 61) rfl rfl
theorem lyX0_10 : u_lay RX0 TX0 10 ∈ wsG := inT1 (i := 63) rfl rfl
theorem lyX0_11 : u_lay RX0 TX0 11 ∈ wsG := inT1 (i := 65) rfl rfl
theorem inX0 : ∀ w ∈ u_ws RX0 TX0 12, w ∈ wsG := fun w h => by
  obtain ⟨k, hk, rfl⟩ := List.mem_map.mp h
  have hk := List.mem_range.mp hk
  match k, hk with
  | 0, _ => exact lyX0_0
  | 1, _ => exact lyX0_1
  | 2, _ => exact lyX0_2
  | 3, _ => exact lyX0_3
  | 4, _ => exact lyX0_4
  | 5, _ => exact lyX0_5
  | 6, _ => exact lyX0_6
  | 7, _ => exact lyX0_7
  | 8, _ => exact lyX0_8
  | 9, _ => exact lyX0_9
  | 10, _ => exact lyX0_10
  | 11, _ => exact lyX0_11
  | k + 12, hk => omega
theorem lyX1_0 : u_lay RX1 TX1 0 ∈ wsG := inT1 (i := 98) rfl rfl
theorem lyX1_1 : u_lay RX1 TX1 1 ∈ wsG := inT1 (i := 100) rfl rfl
theorem lyX1_2 : u_lay RX1 TX1 2 ∈ wsG := inT1 (i := 102) rfl rfl
theorem lyX1_3 : u_lay RX1 TX1 3 ∈ wsG := inT1 (i := 104) rfl rfl
theorem lyX1_4 : u_lay RX1 TX1 4 ∈ wsG := inT1 (i := 106) rfl rfl
theorem lyX1_5 : u_lay RX1 TX1 5 ∈ wsG := inT1 (i := 108) rfl rfl
theorem inX1 : ∀ w ∈ u_ws RX1 TX1 6, w ∈ wsG := fun w h => by
  obtain ⟨k, hk, rfl⟩ := List.mem_map.mp h
  have hk := List.mem_range.mp hk
  match k, hk with
  | 0, _ => exact lyX1_0
  | 1, _ => exact lyX1_1
  | 2, _ => exact lyX1_2
  | 3, _ => exact lyX1_3
  | 4, _ => exact lyX1_4
  | 5, _ => exact lyX1_5
  | k + 6, hk => omega
theorem lyX2_0 : u_lay RX2 TX2 0 ∈ wsG := inT1 (i := 185) rfl rfl
theorem lyX2_1 : u_lay RX2 TX2 1 ∈ wsG := inT1 (i := 187) rfl rfl
theorem lyX2_2 : u_lay RX2 TX2 2 ∈ wsG := inT1 (i := 189) rfl rfl
theorem lyX2_3 : u_lay RX2 TX2 3 ∈ wsG := inT1 (i := 191) rfl rfl
theorem lyX2_4 : u_lay RX2 TX2 4 ∈ wsG := inT1 (i := 193) rfl rfl
theorem lyX2_5 : u_lay RX2 TX2 5 ∈ wsG := inT1 (i := 195) rfl rfl
theorem lyX2_6 : u_lay RX2 TX2 6 ∈ wsG := inT1 (i := 197) rfl rfl
theorem lyX2_7 : u_lay RX2 TX2 7 ∈ wsG := inT1 (i := 199) rfl rfl
theorem lyX2_8 : u_lay RX2 TX2 8 ∈ wsG := inT1 (i := 201) rfl rfl
theorem lyX2_9 : u_lay RX2 TX2 9 ∈ wsG := inT1 (i := 203) rfl rfl
theorem lyX2_10 : u_lay RX2 TX2 10 ∈ wsG := inT1 (i := 205) rfl rfl
theorem inX2 : ∀ w ∈ u_ws RX2 TX2 11, w ∈ wsG := fun w h => by
  obtain ⟨k, hk, rfl⟩ := List.mem_map.mp h
  have hk := List.mem_range.mp hk
  match k, hk with
  | 0, _ => exact lyX2_0
  | 1, _ => exact lyX2_1
  | 2, _ => exact lyX2_2
  | 3, _ => exact lyX2_3
  | 4, _ => exact lyX2_4
  | 5, _ => exact lyX2_5
  | 6, _ => exact lyX2_6
  | 7, _ => exact lyX2_7
  | 8, _ => exact lyX2_8
  | 9, _ => exact lyX2_9
  | 10, _ => exact lyX2_10
  | k + 11, hk => omega
theorem lyX3_0 : u_lay RX3 TX3 0 ∈ wsG := inT2 (i := 108) rfl rfl
theorem lyX3_1 : u_lay RX3 TX3 1 ∈ wsG := inT2 (i := 110) rfl rfl
theorem lyX3_2 : u_lay RX3 TX3 2 ∈ wsG := inT2 (i := 112) rfl rfl
theorem lyX3_3 : u_lay RX3 TX3 3 ∈ wsG := inT2 (i := 114) rfl rfl
theorem lyX3_4 : u_lay RX3 TX3 4 ∈ wsG := inT2 (i := 116) rfl rfl
theorem inX3 : ∀ w ∈ u_ws RX3 TX3 5, w ∈ wsG := fun w h => by
  obtain ⟨k, hk, rfl⟩ := List.mem_map.mp h
  have hk := List.mem_range.mp hk
  match k, hk with
  | 0, _ => exact lyX3_0
  | 1, _ => exact lyX3_1
  | 2, _ => exact lyX3_2
  | 3, _ => exact lyX3_3
  | 4, _ => exact lyX3_4
  | k + 5, hk => omega
theorem lyX4_0 : u_lay RX4 TX4 0 ∈ wsG := inT1 (i := 79) rfl rfl
theorem lyX4_1 : u_lay RX4 TX4 1 ∈ wsG := inT1 (i := 81) rfl rfl
theorem inX4 : ∀ w ∈ u_ws RX4 TX4 2, w ∈ wsG := fun w h => by
  obtain ⟨k, hk, rfl⟩ := List.mem_map.mp h
  have hk := List.mem_range.mp hk
  match k, hk with
  | 0, _ => exact lyX4_0
  | 1, _ => exact lyX4_1
  | k + 2, hk => omega
theorem lyX5_0 : u_lay RX5 TX5 0 ∈ wsG := inT3 (i := 60) rfl rfl
theorem lyX5_1 : u_lay RX5 TX5 1 ∈ wsG := inT3 (i := 62) rfl rfl
theorem lyX5_2 : u_lay RX5 TX5 2 ∈ wsG := inT3 (i := 64) rfl rfl
theorem lyX5_3 : u_lay RX5 TX5 3 ∈ wsG := inT3 (i := 66) rfl rfl
theorem lyX5_4 : u_lay RX5 TX5 4 ∈ wsG := inT3 (i := 68) rfl rfl
theorem inX5 : ∀ w ∈ u_ws RX5 TX5 5, w ∈ wsG := fun w h => by
  obtain ⟨k, hk, rfl⟩ := List.mem_map.mp h
  have hk := List.mem_range.mp hk
  match k, hk with
  | 0, _ => exact lyX5_0
  | 1, _ => exact lyX5_1
  | 2, _ => exact lyX5_2
  | 3, _ => exact lyX5_3
  | 4, _ => exact lyX5_4
  | k + 5, hk => omega
theorem lyX6_0 : u_lay RX6 TX6 0 ∈ wsG := inT1 (i := 122) rfl rfl
theorem lyX6_1 : u_lay RX6 TX6 1 ∈ wsG := inT1 (i := 124) rfl rfl
theorem inX6 : ∀ w ∈ u_ws RX6 TX6 2, w ∈ wsG := fun w h => by
  obtain ⟨k, hk, rfl⟩ := List.mem_map.mp h
  have hk := List.mem_range.mp hk
  match k, hk with
  | 0, _ => exact lyX6_0
  | 1, _ => exact lyX6_1
  | k + 2, hk => omega
theorem lyX7_0 : u_lay RX7 TX7 0 ∈ wsG := inT1 (i := 134) rfl rfl
theorem lyX7_1 : u_lay RX7 TX7 1 ∈ wsG := inT1 (i := 136) rfl rfl
theorem lyX7_2 : u_lay RX7 TX7 2 ∈ wsG := inT1 (i := 138) rfl rfl
theorem lyX7_3 : u_lay RX7 TX7 3 ∈ wsG := inT1 (i := 140) rfl rfl
theorem lyX7_4 : u_lay RX7 TX7 4 ∈ wsG := inT1 (i := 142) rfl rfl
theorem lyX7_5 : u_lay RX7 TX7 5 ∈ wsG := inT1 (i := 144) rfl rfl
theorem lyX7_6 : u_lay RX7 TX7 6 ∈ wsG := inT1 (i := 146) rfl rfl
theorem inX7 : ∀ w ∈ u_ws RX7 TX7 7, w ∈ wsG := fun w h => by
  obtain ⟨k, hk, rfl⟩ := List.mem_map.mp h
  have hk := List.mem_range.mp hk
  match k, hk with
  | 0, _ => exact lyX7_0
  | 1, _ => exact lyX7_1
  | 2, _ => exact lyX7_2
  | 3, _ => exact lyX7_3
  | 4, _ => exact lyX7_4
  | 5, _ => exact lyX7_5
  | 6, _ => exact lyX7_6
  | k + 7, hk => omega
theorem lyX8_0 : u_lay RX8 TX8 0 ∈ wsG := inT3 (i := 187) rfl rfl
theorem lyX8_1 : u_lay RX8 TX8 1 ∈ wsG := inT3 (i := 189) rfl rfl
theorem lyX8_2 : u_lay RX8 TX8 2 ∈ wsG := inT3 (i := 191) rfl rfl
theorem lyX8_3 : u_lay RX8 TX8 3 ∈ wsG := inT3 (i := 193) rfl rfl
theorem lyX8_4 : u_lay RX8 TX8 4 ∈ wsG := inT3 (i := 195) rfl rfl
theorem lyX8_5 : u_lay RX8 TX8 5 ∈ wsG := inT3 (i := 197) rfl rfl
theorem lyX8_6 : u_lay RX8 TX8 6 ∈ wsG := inT3 (i := 199) rfl rfl
theorem lyX8_7 : u_lay RX8 TX8 7 ∈ wsG := inT3 (i := 201) rfl rfl
theorem lyX8_8 : u_lay RX8 TX8 8 ∈ wsG := inT3 (i := 203) rfl rfl
theorem lyX8_9 : u_lay RX8 TX8 9 ∈ wsG := inT3 (i := 205) rfl rfl
theorem lyX8_10 : u_lay RX8 TX8 10 ∈ wsG := inT3 (i := 207) rfl rfl
theorem lyX8_11 : u_lay RX8 TX8 11 ∈ wsG := inT3 (i := 209) rfl rfl
theorem lyX8_12 : u_lay RX8 TX8 12 ∈ wsG := inT3 (i := 211) rfl rfl
theorem lyX8_13 : u_lay RX8 TX8 13 ∈ wsG := inT3 (i := 213) rfl rfl
theorem lyX8_14 : u_lay RX8 TX8 14 ∈ wsG := inT3 (i := 215) rfl rfl
theorem lyX8_15 : u_lay RX8 TX8 15 ∈ wsG := inT3 (i := 217) rfl rfl
theorem lyX8_16 : u_lay RX8 TX8 16 ∈ wsG := inT3 (i := 219) rfl rfl
theorem lyX8_17 : u_lay RX8 TX8 17 ∈ wsG := inT3 (i := 221) rfl rfl
theorem lyX8_18 : u_lay RX8 TX8 18 ∈ wsG := inT3 (i := 223) rfl rfl
theorem lyX8_19 : u_lay RX8 TX8 19 ∈ wsG := inT3 (i := 225) rfl rfl
theorem lyX8_20 : u_lay RX8 TX8 20 ∈ wsG := inT3 (i := 227) rfl rfl
theorem lyX8_21 : u_lay RX8 TX8 21 ∈ wsG := inT3 (i := 229) rfl rfl
theorem lyX8_22 : u_lay RX8 TX8 22 ∈ wsG := inT3 (i := 231) rfl rfl
theorem lyX8_23 : u_lay RX8 TX8 23 ∈ wsG := inT3 (i := 233) rfl rfl
theorem lyX8_24 : u_lay RX8 TX8 24 ∈ wsG := inT3 (i := 235) rfl rfl
theorem lyX8_25 : u_lay RX8 TX8 25 ∈ wsG := inT3 (i := 237) rfl rfl
theorem lyX8_26 : u_lay RX8 TX8 26 ∈ wsG := inT3 (i := 239) rfl rfl
theorem lyX8_27 : u_lay RX8 TX8 27 ∈ wsG := inT4 (i := 1) rfl rfl
theorem lyX8_28 : u_lay RX8 TX8 28 ∈ wsG := inT4 (i := 3) rfl rfl
theorem lyX8_29 : u_lay RX8 TX8 29 ∈ wsG := inT4 (i := 5) rfl rfl
theorem lyX8_30 : u_lay RX8 TX8 30 ∈ wsG := inT4 (i := 7) rfl rfl
theorem lyX8_31 : u_lay RX8 TX8 31 ∈ wsG := inT4 (i := 9) rfl rfl
theorem lyX8_32 : u_lay RX8 TX8 32 ∈ wsG := inT4 (i := 11) rfl rfl
theorem lyX8_33 : u_lay RX8 TX8 33 ∈ wsG := inT4 (i := 13) rfl rfl
theorem lyX8_34 : u_lay RX8 TX8 34 ∈ wsG := inT4 (i := 15) rfl rfl
theorem lyX8_35 : u_lay RX8 TX8 35 ∈ wsG := inT4 (i := 17) rfl rfl
theorem lyX8_36 : u_lay RX8 TX8 36 ∈ wsG := inT4 (i := 19) rfl rfl
theorem inX8 : ∀ w ∈ u_ws RX8 TX8 37, w ∈ wsG := fun w h => by
  obtain ⟨k, hk, rfl⟩ := List.mem_map.mp h
  have hk := List.mem_range.mp hk
  match k, hk with
  | 0, _ => exact lyX8_0
  | 1, _ => exact lyX8_1
  | 2, _ => exact lyX8_2
  | 3, _ => exact lyX8_3
  | 4, _ => exact lyX8_4
  | 5, _ => exact lyX8_5
  | 6, _ => exact lyX8_6
  | 7, _ => exact lyX8_7
  | 8, _ => exact lyX8_8
  | 9, _ => exact lyX8_9
  | 10, _ => exact lyX8_10
  | 11, _ => exact lyX8_11
  | 12, _ => exact lyX8_12
  | 13, _ => exact lyX8_13
  | 14, _ => exact lyX8_14
  | 15, _ => exact lyX8_15
  | 16, _ => exact lyX8_16
  | 17, _ => exact lyX8_17
  | 18, _ => exact lyX8_18
  | 19, _ => exact lyX8_19
  | 20, _ => exact lyX8_20
  | 21, _ => exact lyX8_21
  | 22, _ => exact lyX8_22
  | 23, _ => exact lyX8_23
  | 24, _ => exact lyX8_24
  | 25, _ => exact lyX8_25
  | 26, _ => exact lyX8_26
  | 27, _ => exact lyX8_27
  | 28, _ => exact lyX8_28
  | 29, _ => exact lyX8_29
  | 30, _ => exact lyX8_30
  | 31, _ => exact lyX8_31
  | 32, _ => exact lyX8_32
  | 33, _ => exact lyX8_33
  | 34, _ => exact lyX8_34
  | 35, _ => exact lyX8_35
  | 36, _ => exact lyX8_36
  | k + 37, hk => omega
theorem ini_L : Cond.initialized RL ∈ wsG := inT1 (i := 0) rfl rfl
theorem ini_X7 : Cond.initialized RX7 ∈ wsG := inT1 (i := 1) rfl rfl
theorem ini_X0 : Cond.initialized RX0 ∈ wsG := inT1 (i := 2) rfl rfl
theorem ini_X4 : Cond.initialized RX4 ∈ wsG := inT1 (i := 3) rfl rfl
theorem ini_X1 : Cond.initialized RX1 ∈ wsG := inT1 (i := 4) rfl rfl
theorem ini_X6 : Cond.initialized RX6 ∈ wsG := inT1 (i := 5) rfl rfl
theorem ini_X8 : Cond.initialized RX8 ∈ wsG := inT1 (i := 6) rfl rfl
theorem ini_X2 : Cond.initialized RX2 ∈ wsG := inT1 (i := 7) rfl rfl
theorem ini_J9 : Cond.initialized RJ9 ∈ wsG := inT1 (i := 8) rfl rfl
theorem ini_J6 : Cond.initialized RJ6 ∈ wsG := inT1 (i := 9) rfl rfl
theorem ini_J7 : Cond.initialized RJ7 ∈ wsG := inT1 (i := 10) rfl rfl
theorem ini_X3 : Cond.initialized RX3 ∈ wsG := inT1 (i := 11) rfl rfl
theorem ini_X5 : Cond.initialized RX5 ∈ wsG := inT1 (i := 12) rfl rfl
theorem cl_L_7 : Cond.classLink RL 7 RX7 ∈ wsG := inT1 (i := 13) rfl rfl
theorem ins_X7 : Cond.instantiable RX7 7 ∈ wsG := inT1 (i := 14) rfl rfl
theorem ml_L_9 : Cond.methodLink RL 9 yX7_init ∈ wsG := inT1 (i := 15) rfl rfl
theorem ml_X7_1 : Cond.methodLink RX7 1 objectInit ∈ wsG := inT1 (i := 18) rfl rfl
theorem cl_X7_9 : Cond.classLink RX7 9 RX2 ∈ wsG := inT1 (i := 21) rfl rfl
theorem cl_X7_22 : Cond.classLink RX7 22 RX0 ∈ wsG := inT1 (i := 23) rfl rfl
theorem ins_X0 : Cond.instantiable RX0 12 ∈ wsG := inT1 (i := 24) rfl rfl
theorem ml_X7_24 : Cond.methodLink RX7 24 yX0_init ∈ wsG := inT1 (i := 25) rfl rfl
theorem ml_X0_5 : Cond.methodLink RX0 5 objectInit ∈ wsG := inT1 (i := 28) rfl rfl
theorem ac_int : Cond.arrayClass .int ∈ wsG := inT1 (i := 68) rfl rfl
theorem cl_X7_29 : Cond.classLink RX7 29 RX4 ∈ wsG := inT1 (i := 69) rfl rfl
theorem ins_X4 : Cond.instantiable RX4 2 ∈ wsG := inT1 (i := 70) rfl rfl
theorem ml_X7_31 : Cond.methodLink RX7 31 yX4_init ∈ wsG := inT1 (i := 71) rfl rfl
theorem ml_X4_3 : Cond.methodLink RX4 3 objectInit ∈ wsG := inT1 (i := 74) rfl rfl
theorem cl_X4_11 : Cond.classLink RX4 11 RX3 ∈ wsG := inT1 (i := 75) rfl rfl
theorem cl_X7_36 : Cond.classLink RX7 36 RX1 ∈ wsG := inT1 (i := 84) rfl rfl
theorem ins_X1 : Cond.instantiable RX1 6 ∈ wsG := inT1 (i := 85) rfl rfl
theorem ml_X7_38 : Cond.methodLink RX7 38 yX1_init ∈ wsG := inT1 (i := 86) rfl rfl
theorem ml_X1_5 : Cond.methodLink RX1 5 objectInit ∈ wsG := inT1 (i := 89) rfl rfl
theorem cl_X7_43 : Cond.classLink RX7 43 RX6 ∈ wsG := inT1 (i := 111) rfl rfl
theorem ins_X6 : Cond.instantiable RX6 2 ∈ wsG := inT1 (i := 112) rfl rfl
theorem ml_X7_45 : Cond.methodLink RX7 45 yX6_init ∈ wsG := inT1 (i := 113) rfl rfl
theorem ml_X6_3 : Cond.methodLink RX6 3 objectInit ∈ wsG := inT1 (i := 116) rfl rfl
theorem cl_X6_11 : Cond.classLink RX6 11 RX5 ∈ wsG := inT1 (i := 117) rfl rfl
theorem ml_L_13 : Cond.methodLink RL 13 yX7_side ∈ wsG := inT1 (i := 149) rfl rfl
theorem ml_X7_50 : Cond.methodLink RX7 50 yX7_within ∈ wsG := inT1 (i := 153) rfl rfl
theorem ins_X2 : Cond.instantiable RX2 11 ∈ wsG := inT1 (i := 156) rfl rfl
theorem ml_X7_54 : Cond.methodLink RX7 54 yX2_init ∈ wsG := inT1 (i := 157) rfl rfl
theorem ml_X2_3 : Cond.methodLink RX2 3 objectInit ∈ wsG := inT1 (i := 160) rfl rfl
theorem ml_L_18 : Cond.methodLink RL 18 yX7_hours ∈ wsG := inT1 (i := 208) rfl rfl
theorem ml_X7_57 : Cond.methodLink RX7 57 yX7_isSide ∈ wsG := inT1 (i := 212) rfl rfl
theorem ml_L_23 : Cond.methodLink RL 23 yX7_told ∈ wsG := inT1 (i := 216) rfl rfl
theorem ml_L_28 : Cond.methodLink RL 28 yX7_read ∈ wsG := inT1 (i := 220) rfl rfl
theorem ml_X7_88 : Cond.methodLink RX7 88 yX2_lose ∈ wsG := inT1 (i := 224) rfl rfl
theorem ml_X2_45 : Cond.methodLink RX2 45 Lib.Math.max.name ∈ wsG := inT1 (i := 228) rfl rfl
theorem ml_L_33 : Cond.methodLink RL 33 yX7_pass ∈ wsG := inT1 (i := 231) rfl rfl
theorem ml_L_38 : Cond.methodLink RL 38 yX7_best ∈ wsG := inT1 (i := 235) rfl rfl
theorem ml_X7_92 : Cond.methodLink RX7 92 yX7_planRefusal ∈ wsG := inT1 (i := 239) rfl rfl
theorem ml_X7_121 : Cond.methodLink RX7 121 yX7_isSetOfSides ∈ wsG := inT2 (i := 3) rfl rfl
theorem ml_X7_108 : Cond.methodLink RX7 108 yJ6_bitCount_0f7a4 ∈ wsG := inT2 (i := 7) rfl rfl
theorem ct_J6_265 : Cond.constant RJ6 265 (1431655765) ∈ wsG := inT2 (i := 10) rfl rfl
theorem ct_J6_266 : Cond.constant RJ6 266 (858993459) ∈ wsG := inT2 (i := 11) rfl rfl
theorem ct_J6_267 : Cond.constant RJ6 267 (252645135) ∈ wsG := inT2 (i := 12) rfl rfl
theorem ml_X7_96 : Cond.methodLink RX7 96 yX7_takeIntoPlan ∈ wsG := inT2 (i := 13) rfl rfl
theorem ml_X7_124 : Cond.methodLink RX7 124 yX0_begin ∈ wsG := inT2 (i := 17) rfl rfl
theorem ml_X0_51 : Cond.methodLink RX0 51 Lib.Math.min.name ∈ wsG := inT2 (i := 21) rfl rfl
theorem ml_X7_104 : Cond.methodLink RX7 104 yX7_holds ∈ wsG := inT2 (i := 24) rfl rfl
theorem ml_X7_127 : Cond.methodLink RX7 127 yX0_take ∈ wsG := inT2 (i := 27) rfl rfl
theorem ml_X0_63 : Cond.methodLink RX0 63 yX2_savedIn ∈ wsG := inT2 (i := 31) rfl rfl
theorem ml_X7_100 : Cond.methodLink RX7 100 yX0_mostWith ∈ wsG := inT2 (i := 35) rfl rfl
theorem ml_X0_67 : Cond.methodLink RX0 67 yJ7_fill_53178 ∈ wsG := inT2 (i := 39) rfl rfl
theorem ml_X0_73 : Cond.methodLink RX0 73 yX0_mostFrom ∈ wsG := inT2 (i := 42) rfl rfl
theorem ml_X0_86 : Cond.methodLink RX0 86 yX0_addUp ∈ wsG := inT2 (i := 46) rfl rfl
theorem ml_X0_90 : Cond.methodLink RX0 90 yX0_savedTogether ∈ wsG := inT2 (i := 50) rfl rfl
theorem ml_X0_97 : Cond.methodLink RX0 97 Lib.Math.max.name ∈ wsG := inT2 (i := 54) rfl rfl
theorem ml_X0_93 : Cond.methodLink RX0 93 yX0_joinYear ∈ wsG := inT2 (i := 55) rfl rfl
theorem ml_L_42 : Cond.methodLink RL 42 yX7_does ∈ wsG := inT2 (i := 59) rfl rfl
theorem ml_X7_113 : Cond.methodLink RX7 113 yX0_optionAt ∈ wsG := inT2 (i := 63) rfl rfl
theorem ml_X0_77 : Cond.methodLink RX0 77 yX0_mostWith ∈ wsG := inT2 (i := 67) rfl rfl
theorem ml_X0_80 : Cond.methodLink RX0 80 yX0_firstOption ∈ wsG := inT2 (i := 68) rfl rfl
theorem ml_X0_83 : Cond.methodLink RX0 83 yX0_hoursFor ∈ wsG := inT2 (i := 72) rfl rfl
theorem ml_L_46 : Cond.methodLink RL 46 yX7_needed ∈ wsG := inT2 (i := 76) rfl rfl
theorem ct_X7_117 : Cond.constant RX7 117 (600000) ∈ wsG := inT2 (i := 80) rfl rfl
theorem ml_X7_118 : Cond.methodLink RX7 118 yX0_leastHours ∈ wsG := inT2 (i := 81) rfl rfl
theorem ml_L_50 : Cond.methodLink RL 50 yX7_sign ∈ wsG := inT2 (i := 85) rfl rfl
theorem ml_X7_131 : Cond.methodLink RX7 131 yX4_isFull ∈ wsG := inT2 (i := 89) rfl rfl
theorem cl_X7_135 : Cond.classLink RX7 135 RX3 ∈ wsG := inT2 (i := 93) rfl rfl
theorem ins_X3 : Cond.instantiable RX3 5 ∈ wsG := inT2 (i := 94) rfl rfl
theorem ml_X7_137 : Cond.methodLink RX7 137 yX3_init ∈ wsG := inT2 (i := 95) rfl rfl
theorem ml_X3_1 : Cond.methodLink RX3 1 objectInit ∈ wsG := inT2 (i := 98) rfl rfl
theorem ml_X7_138 : Cond.methodLink RX7 138 yX4_add ∈ wsG := inT2 (i := 119) rfl rfl
theorem ml_L_54 : Cond.methodLink RL 54 yX7_drop ∈ wsG := inT2 (i := 123) rfl rfl
theorem ml_X7_142 : Cond.methodLink RX7 142 yX4_has ∈ wsG := inT2 (i := 127) rfl rfl
theorem ml_X7_145 : Cond.methodLink RX7 145 yX4_takeOut ∈ wsG := inT2 (i := 131) rfl rfl
theorem ml_L_58 : Cond.methodLink RL 58 yX7_speed ∈ wsG := inT2 (i := 135) rfl rfl
theorem ml_X7_148 : Cond.methodLink RX7 148 yX4_leastHeaviest ∈ wsG := inT2 (i := 139) rfl rfl
theorem ml_X4_25 : Cond.methodLink RX4 25 yX3_isOf ∈ wsG := inT2 (i := 143) rfl rfl
theorem ml_X4_38 : Cond.methodLink RX4 38 yX4_weightAt ∈ wsG := inT2 (i := 147) rfl rfl
theorem ml_L_62 : Cond.methodLink RL 62 yX7_span ∈ wsG := inT2 (i := 151) rfl rfl
theorem ml_X7_151 : Cond.methodLink RX7 151 yX4_lastHeaviest ∈ wsG := inT2 (i := 155) rfl rfl
theorem ml_X4_42 : Cond.methodLink RX4 42 yX4_leastHeaviest ∈ wsG := inT2 (i := 159) rfl rfl
theorem ml_L_66 : Cond.methodLink RL 66 yX7_weighs ∈ wsG := inT2 (i := 160) rfl rfl
theorem ml_X7_154 : Cond.methodLink RX7 154 yX4_weightAt ∈ wsG := inT2 (i := 164) rfl rfl
theorem ml_L_70 : Cond.methodLink RL 70 yX7_quarrels ∈ wsG := inT2 (i := 165) rfl rfl
theorem ml_X7_157 : Cond.methodLink RX7 157 yX4_pairsApart ∈ wsG := inT2 (i := 169) rfl rfl
theorem ml_X4_46 : Cond.methodLink RX4 46 yX3_isApartFrom ∈ wsG := inT2 (i := 173) rfl rfl
theorem ml_L_74 : Cond.methodLink RL 74 yX7_piece ∈ wsG := inT2 (i := 177) rfl rfl
theorem ml_X7_160 : Cond.methodLink RX7 160 yX1_isFull ∈ wsG := inT2 (i := 181) rfl rfl
theorem ml_X7_161 : Cond.methodLink RX7 161 yX1_add ∈ wsG := inT2 (i := 185) rfl rfl
theorem ml_L_78 : Cond.methodLink RL 78 yX7_sweep ∈ wsG := inT2 (i := 189) rfl rfl
theorem ml_X7_163 : Cond.methodLink RX7 163 yX1_clear ∈ wsG := inT2 (i := 193) rfl rfl
theorem ml_L_83 : Cond.methodLink RL 83 yX7_tolerance ∈ wsG := inT2 (i := 197) rfl rfl
theorem ml_L_87 : Cond.methodLink RL 87 yX7_rows ∈ wsG := inT2 (i := 201) rfl rfl
theorem ml_X7_170 : Cond.methodLink RX7 170 yX1_countRows ∈ wsG := inT2 (i := 205) rfl rfl
theorem ml_X1_31 : Cond.methodLink RX1 31 yX1_weighAll ∈ wsG := inT2 (i := 209) rfl rfl
theorem ml_X1_56 : Cond.methodLink RX1 56 yX1_weigh ∈ wsG := inT2 (i := 214) rfl rfl
theorem ml_X1_45 : Cond.methodLink RX1 45 yX1_canFollow ∈ wsG := inT2 (i := 218) rfl rfl
theorem ml_X1_49 : Cond.methodLink RX1 49 yX1_gap ∈ wsG := inT2 (i := 222) rfl rfl
theorem ml_X1_60 : Cond.methodLink RX1 60 Lib.Math.abs.name ∈ wsG := inT2 (i := 226) rfl rfl
theorem ml_X1_34 : Cond.methodLink RX1 34 yX1_cell ∈ wsG := inT2 (i := 229) rfl rfl
theorem ml_L_91 : Cond.methodLink RL 91 yX7_misfit ∈ wsG := inT2 (i := 232) rfl rfl
theorem ml_X7_173 : Cond.methodLink RX7 173 yX1_leastMisfit ∈ wsG := inT2 (i := 236) rfl rfl
theorem ml_X1_38 : Cond.methodLink RX1 38 yX1_firstPiece ∈ wsG := inT3 (i := 0) rfl rfl
theorem ml_L_95 : Cond.methodLink RL 95 yX7_inRow ∈ wsG := inT3 (i := 4) rfl rfl
theorem ml_X7_176 : Cond.methodLink RX7 176 yX1_pieceAt ∈ wsG := inT3 (i := 8) rfl rfl
theorem ml_X1_42 : Cond.methodLink RX1 42 yX1_nextPiece ∈ wsG := inT3 (i := 12) rfl rfl
theorem ml_L_99 : Cond.methodLink RL 99 yX7_sung ∈ wsG := inT3 (i := 16) rfl rfl
theorem ml_X7_179 : Cond.methodLink RX7 179 yX7_isSong ∈ wsG := inT3 (i := 20) rfl rfl
theorem ml_L_103 : Cond.methodLink RL 103 yX7_text ∈ wsG := inT3 (i := 23) rfl rfl
theorem ml_X7_188 : Cond.methodLink RX7 188 yX7_isHearer ∈ wsG := inT3 (i := 27) rfl rfl
theorem ml_X7_191 : Cond.methodLink RX7 191 yX7_isFamily ∈ wsG := inT3 (i := 30) rfl rfl
theorem ml_X7_194 : Cond.methodLink RX7 194 yX7_isDay ∈ wsG := inT3 (i := 33) rfl rfl
theorem ml_X7_197 : Cond.methodLink RX7 197 yX6_isFull ∈ wsG := inT3 (i := 36) rfl rfl
theorem ml_X7_198 : Cond.methodLink RX7 198 yX7_askedBy ∈ wsG := inT3 (i := 40) rfl rfl
theorem ml_X7_201 : Cond.methodLink RX7 201 yX6_add ∈ wsG := inT3 (i := 43) rfl rfl
theorem ins_X5 : Cond.instantiable RX5 5 ∈ wsG := inT3 (i := 47) rfl rfl
theorem ml_X6_24 : Cond.methodLink RX6 24 yX5_init ∈ wsG := inT3 (i := 48) rfl rfl
theorem ml_X5_3 : Cond.methodLink RX5 3 objectInit ∈ wsG := inT3 (i := 51) rfl rfl
theorem ml_L_108 : Cond.methodLink RL 108 yX7_counts ∈ wsG := inT3 (i := 71) rfl rfl
theorem ml_X7_204 : Cond.methodLink RX7 204 yX6_latestFor ∈ wsG := inT3 (i := 75) rfl rfl
theorem ml_X6_30 : Cond.methodLink RX6 30 yX5_isFor ∈ wsG := inT3 (i := 79) rfl rfl
theorem ml_L_112 : Cond.methodLink RL 112 yX7_may ∈ wsG := inT3 (i := 83) rfl rfl
theorem ml_X7_208 : Cond.methodLink RX7 208 yX6_letOn ∈ wsG := inT3 (i := 87) rfl rfl
theorem ml_X6_37 : Cond.methodLink RX6 37 yX5_letAfter ∈ wsG := inT3 (i := 91) rfl rfl
theorem ml_X7_211 : Cond.methodLink RX7 211 yX2_isLetBy ∈ wsG := inT3 (i := 95) rfl rfl
theorem ml_X2_51 : Cond.methodLink RX2 51 yX2_asked ∈ wsG := inT3 (i := 99) rfl rfl
theorem ml_L_116 : Cond.methodLink RL 116 yX7_heard ∈ wsG := inT3 (i := 103) rfl rfl
theorem ml_L_120 : Cond.methodLink RL 120 yX7_days ∈ wsG := inT3 (i := 107) rfl rfl
theorem ml_X7_214 : Cond.methodLink RX7 214 yX2_asked ∈ wsG := inT3 (i := 111) rfl rfl
theorem ml_X7_217 : Cond.methodLink RX7 217 yX6_daysThatLet ∈ wsG := inT3 (i := 112) rfl rfl
theorem ml_L_124 : Cond.methodLink RL 124 yX7_copy ∈ wsG := inT3 (i := 116) rfl rfl
theorem ml_X7_220 : Cond.methodLink RX7 220 yX7_stepsUp ∈ wsG := inT3 (i := 120) rfl rfl
theorem ml_L_128 : Cond.methodLink RL 128 yX7_copies ∈ wsG := inT3 (i := 124) rfl rfl
theorem ml_L_132 : Cond.methodLink RL 132 yX7_clearest ∈ wsG := inT3 (i := 128) rfl rfl
theorem ml_L_136 : Cond.methodLink RL 136 yX7_total ∈ wsG := inT3 (i := 132) rfl rfl
theorem ml_X7_223 : Cond.methodLink RX7 223 yX4_countLive ∈ wsG := inT3 (i := 136) rfl rfl
theorem ml_X7_230 : Cond.methodLink RX7 230 yX7_allSound ∈ wsG := inT3 (i := 140) rfl rfl
theorem cl_L_10 : Cond.classLink RL 10 RX8 ∈ wsG := inT3 (i := 144) rfl rfl
theorem ins_X8 : Cond.instantiable RX8 37 ∈ wsG := inT3 (i := 145) rfl rfl
theorem ml_L_12 : Cond.methodLink RL 12 yX8_init ∈ wsG := inT3 (i := 146) rfl rfl
theorem ml_X8_1 : Cond.methodLink RX8 1 objectInit ∈ wsG := inT3 (i := 149) rfl rfl
theorem ac_boolean : Cond.arrayClass .boolean ∈ wsG := inT4 (i := 22) rfl rfl
theorem ml_L_17 : Cond.methodLink RL 17 yX8_side ∈ wsG := inT4 (i := 23) rfl rfl
theorem ct_X8_106 : Cond.constantLong RX8 106 (1000) ∈ wsG := inT4 (i := 27) rfl rfl
theorem ml_X8_102 : Cond.methodLink RX8 102 yX8_in ∈ wsG := inT4 (i := 28) rfl rfl
theorem ct_X8_108 : Cond.constantLong RX8 108 (100) ∈ wsG := inT4 (i := 31) rfl rfl
theorem ml_L_22 : Cond.methodLink RL 22 yX8_hours ∈ wsG := inT4 (i := 32) rfl rfl
theorem ml_X8_110 : Cond.methodLink RX8 110 yX8_noSide ∈ wsG := inT4 (i := 36) rfl rfl
theorem ml_L_27 : Cond.methodLink RL 27 yX8_told ∈ wsG := inT4 (i := 40) rfl rfl
theorem ml_L_32 : Cond.methodLink RL 32 yX8_read ∈ wsG := inT4 (i := 44) rfl rfl
theorem ml_X8_114 : Cond.methodLink RX8 114 yX8_atLeastNone ∈ wsG := inT4 (i := 48) rfl rfl
theorem ml_L_37 : Cond.methodLink RL 37 yX8_pass ∈ wsG := inT4 (i := 51) rfl rfl
theorem ml_L_41 : Cond.methodLink RL 41 yX8_best ∈ wsG := inT4 (i := 55) rfl rfl
theorem ml_X8_149 : Cond.methodLink RX8 149 yX8_noSet ∈ wsG := inT4 (i := 59) rfl rfl
theorem ml_X8_152 : Cond.methodLink RX8 152 yX8_badPlan ∈ wsG := inT4 (i := 63) rfl rfl
theorem ml_X8_142 : Cond.methodLink RX8 142 yX8_bits ∈ wsG := inT4 (i := 66) rfl rfl
theorem ct_X8_145 : Cond.constantLong RX8 145 (3) ∈ wsG := inT4 (i := 69) rfl rfl
theorem ct_X8_147 : Cond.constantLong RX8 147 (3000) ∈ wsG := inT4 (i := 70) rfl rfl
theorem ml_X8_156 : Cond.methodLink RX8 156 yX8_plan ∈ wsG := inT4 (i := 71) rfl rfl
theorem ml_X8_127 : Cond.methodLink RX8 127 yX8_gather ∈ wsG := inT4 (i := 75) rfl rfl
theorem ml_X8_131 : Cond.methodLink RX8 131 yX8_codes ∈ wsG := inT4 (i := 79) rfl rfl
theorem ml_X8_134 : Cond.methodLink RX8 134 yX8_weigh ∈ wsG := inT4 (i := 83) rfl rfl
theorem ml_X8_138 : Cond.methodLink RX8 138 yX8_most ∈ wsG := inT4 (i := 87) rfl rfl
theorem ml_L_45 : Cond.methodLink RL 45 yX8_does ∈ wsG := inT4 (i := 91) rfl rfl
theorem ml_L_49 : Cond.methodLink RL 49 yX8_needed ∈ wsG := inT4 (i := 95) rfl rfl
theorem ct_X8_160 : Cond.constantLong RX8 160 (600000) ∈ wsG := inT4 (i := 99) rfl rfl
theorem ml_L_53 : Cond.methodLink RL 53 yX8_sign ∈ wsG := inT4 (i := 100) rfl rfl
theorem ct_X8_162 : Cond.constantLong RX8 162 (9) ∈ wsG := inT4 (i := 104) rfl rfl
theorem ml_L_57 : Cond.methodLink RL 57 yX8_drop ∈ wsG := inT4 (i := 105) rfl rfl
theorem ml_L_61 : Cond.methodLink RL 61 yX8_speed ∈ wsG := inT4 (i := 109) rfl rfl
theorem ml_X8_175 : Cond.methodLink RX8 175 yX8_speedOf ∈ wsG := inT4 (i := 113) rfl rfl
theorem ml_X8_167 : Cond.methodLink RX8 167 yX8_isOf ∈ wsG := inT4 (i := 117) rfl rfl
theorem ml_X8_171 : Cond.methodLink RX8 171 yX8_weighsOf ∈ wsG := inT4 (i := 121) rfl rfl
theorem ml_L_65 : Cond.methodLink RL 65 yX8_span ∈ wsG := inT4 (i := 125) rfl rfl
theorem ml_L_69 : Cond.methodLink RL 69 yX8_weighs ∈ wsG := inT4 (i := 129) rfl rfl
theorem ct_X8_178 : Cond.constantLong RX8 178 (30000) ∈ wsG := inT4 (i := 133) rfl rfl
theorem ml_L_73 : Cond.methodLink RL 73 yX8_quarrels ∈ wsG := inT4 (i := 134) rfl rfl
theorem ml_L_77 : Cond.methodLink RL 77 yX8_piece ∈ wsG := inT4 (i := 138) rfl rfl
theorem ct_X8_180 : Cond.constantLong RX8 180 (99) ∈ wsG := inT4 (i := 142) rfl rfl
theorem ml_L_82 : Cond.methodLink RL 82 yX8_sweep ∈ wsG := inT4 (i := 143) rfl rfl
theorem ml_L_86 : Cond.methodLink RL 86 yX8_tolerance ∈ wsG := inT4 (i := 147) rfl rfl
theorem ml_L_90 : Cond.methodLink RL 90 yX8_rows ∈ wsG := inT4 (i := 151) rfl rfl
theorem ml_X8_192 : Cond.methodLink RX8 192 yX8_join ∈ wsG := inT4 (i := 155) rfl rfl
theorem ct_X8_188 : Cond.constant RX8 188 (1000000) ∈ wsG := inT4 (i := 159) rfl rfl
theorem ml_X8_189 : Cond.methodLink RX8 189 yX8_apart ∈ wsG := inT4 (i := 160) rfl rfl
theorem ml_X8_195 : Cond.methodLink RX8 195 yX8_others ∈ wsG := inT4 (i := 164) rfl rfl
theorem ml_L_94 : Cond.methodLink RL 94 yX8_misfit ∈ wsG := inT4 (i := 168) rfl rfl
theorem ml_X8_198 : Cond.methodLink RX8 198 yX8_leastOf ∈ wsG := inT4 (i := 172) rfl rfl
theorem ml_L_98 : Cond.methodLink RL 98 yX8_inRow ∈ wsG := inT4 (i := 176) rfl rfl
theorem ml_L_102 : Cond.methodLink RL 102 yX8_sung ∈ wsG := inT4 (i := 180) rfl rfl
theorem ct_X8_201 : Cond.constantLong RX8 201 (255) ∈ wsG := inT4 (i := 184) rfl rfl
theorem ml_L_107 : Cond.methodLink RL 107 yX8_text ∈ wsG := inT4 (i := 185) rfl rfl
theorem ct_X8_205 : Cond.constantLong RX8 205 (7) ∈ wsG := inT4 (i := 189) rfl rfl
theorem ct_X8_207 : Cond.constantLong RX8 207 (5) ∈ wsG := inT4 (i := 190) rfl rfl
theorem ml_X8_209 : Cond.methodLink RX8 209 yX8_noDay ∈ wsG := inT4 (i := 191) rfl rfl
theorem ct_X8_203 : Cond.constantLong RX8 203 (9999) ∈ wsG := inT4 (i := 194) rfl rfl
theorem ml_L_111 : Cond.methodLink RL 111 yX8_counts ∈ wsG := inT4 (i := 195) rfl rfl
theorem ml_X8_215 : Cond.methodLink RX8 215 yX8_countsOf ∈ wsG := inT4 (i := 199) rfl rfl
theorem ml_L_115 : Cond.methodLink RL 115 yX8_may ∈ wsG := inT4 (i := 203) rfl rfl
theorem ml_X8_219 : Cond.methodLink RX8 219 yX8_mayHear ∈ wsG := inT4 (i := 207) rfl rfl
theorem ml_L_119 : Cond.methodLink RL 119 yX8_heard ∈ wsG := inT4 (i := 211) rfl rfl
theorem ml_X8_222 : Cond.methodLink RX8 222 yX8_heardOf ∈ wsG := inT4 (i := 215) rfl rfl
theorem ml_L_123 : Cond.methodLink RL 123 yX8_days ∈ wsG := inT4 (i := 219) rfl rfl
theorem ml_L_127 : Cond.methodLink RL 127 yX8_copy ∈ wsG := inT4 (i := 223) rfl rfl
theorem ml_X8_225 : Cond.methodLink RX8 225 yX8_stepsTo ∈ wsG := inT4 (i := 227) rfl rfl
theorem ml_L_131 : Cond.methodLink RL 131 yX8_copies ∈ wsG := inT4 (i := 231) rfl rfl
theorem ml_L_135 : Cond.methodLink RL 135 yX8_clearest ∈ wsG := inT4 (i := 235) rfl rfl
theorem ml_L_139 : Cond.methodLink RL 139 yX8_total ∈ wsG := inT4 (i := 239) rfl rfl
theorem co_X7_init : Cond.code yX7_init cX7_init 1 none ∈ wsG := inT1 (i := 17) rfl rfl
theorem im_X7_init : Cond.instanceMethod yX7_init ∈ wsG := inT1 (i := 16) rfl rfl
theorem co_Object : Cond.code objectInit ⟨#[0xb1]⟩ 1 none ∈ wsG := inT1 (i := 20) rfl rfl
theorem im_Object : Cond.instanceMethod objectInit ∈ wsG := inT1 (i := 19) rfl rfl
theorem co_X0_init : Cond.code yX0_init cX0_init 1 none ∈ wsG := inT1 (i := 27) rfl rfl
theorem im_X0_init : Cond.instanceMethod yX0_init ∈ wsG := inT1 (i := 26) rfl rfl
theorem co_X4_init : Cond.code yX4_init cX4_init 1 none ∈ wsG := inT1 (i := 73) rfl rfl
theorem im_X4_init : Cond.instanceMethod yX4_init ∈ wsG := inT1 (i := 72) rfl rfl
theorem co_X1_init : Cond.code yX1_init cX1_init 1 none ∈ wsG := inT1 (i := 88) rfl rfl
theorem im_X1_init : Cond.instanceMethod yX1_init ∈ wsG := inT1 (i := 87) rfl rfl
theorem co_X6_init : Cond.code yX6_init cX6_init 1 none ∈ wsG := inT1 (i := 115) rfl rfl
theorem im_X6_init : Cond.instanceMethod yX6_init ∈ wsG := inT1 (i := 114) rfl rfl
theorem co_X7_side : Cond.code yX7_side cX7_side 6 (some .int) ∈ wsG := inT1 (i := 152) rfl rfl
theorem im_X7_side : Cond.instanceMethod yX7_side ∈ wsG := inT1 (i := 150) rfl rfl
theorem se_X7_side : Cond.selects RX7 yX7_side yX7_side ∈ wsG := inT1 (i := 151) rfl rfl
theorem co_X7_within : Cond.code yX7_within cX7_within 3 (some .boolean) ∈ wsG := inT1 (i := 155) rfl rfl
theorem sm_X7_within : Cond.static yX7_within ∈ wsG := inT1 (i := 154) rfl rfl
theorem co_X2_init : Cond.code yX2_init cX2_init 5 none ∈ wsG := inT1 (i := 159) rfl rfl
theorem im_X2_init : Cond.instanceMethod yX2_init ∈ wsG := inT1 (i := 158) rfl rfl
theorem co_X7_hours : Cond.code yX7_hours cX7_hours 4 (some .int) ∈ wsG := inT1 (i := 211) rfl rfl
theorem im_X7_hours : Cond.instanceMethod yX7_hours ∈ wsG := inT1 (i := 209) rfl rfl
theorem se_X7_hours : Cond.selects RX7 yX7_hours yX7_hours ∈ wsG := inT1 (i := 210) rfl rfl
theorem co_X7_isSide : Cond.code yX7_isSide cX7_isSide 2 (some .boolean) ∈ wsG := inT1 (i := 215) rfl rfl
theorem im_X7_isSide : Cond.instanceMethod yX7_isSide ∈ wsG := inT1 (i := 214) rfl rfl
theorem se_X7_isSide : Cond.selects RX7 yX7_isSide yX7_isSide ∈ wsG := inS (i := 0) rfl rfl
theorem co_X7_told : Cond.code yX7_told cX7_told 4 (some .int) ∈ wsG := inT1 (i := 219) rfl rfl
theorem im_X7_told : Cond.instanceMethod yX7_told ∈ wsG := inT1 (i := 217) rfl rfl
theorem se_X7_told : Cond.selects RX7 yX7_told yX7_told ∈ wsG := inT1 (i := 218) rfl rfl
theorem co_X7_read : Cond.code yX7_read cX7_read 4 (some .int) ∈ wsG := inT1 (i := 223) rfl rfl
theorem im_X7_read : Cond.instanceMethod yX7_read ∈ wsG := inT1 (i := 221) rfl rfl
theorem se_X7_read : Cond.selects RX7 yX7_read yX7_read ∈ wsG := inT1 (i := 222) rfl rfl
theorem co_X2_lose : Cond.code yX2_lose cX2_lose 2 none ∈ wsG := inT1 (i := 227) rfl rfl
theorem im_X2_lose : Cond.instanceMethod yX2_lose ∈ wsG := inT1 (i := 225) rfl rfl
theorem se_X2_lose : Cond.selects RX2 yX2_lose yX2_lose ∈ wsG := inT1 (i := 226) rfl rfl
theorem co_Mmax : Cond.code Lib.Math.max.name Lib.Math.max.code 2 (some .int) ∈ wsG := inT1 (i := 230) rfl rfl
theorem sm_Mmax : Cond.static Lib.Math.max.name ∈ wsG := inT1 (i := 229) rfl rfl
theorem co_X7_pass : Cond.code yX7_pass cX7_pass 3 (some .int) ∈ wsG := inT1 (i := 234) rfl rfl
theorem im_X7_pass : Cond.instanceMethod yX7_pass ∈ wsG := inT1 (i := 232) rfl rfl
theorem se_X7_pass : Cond.selects RX7 yX7_pass yX7_pass ∈ wsG := inT1 (i := 233) rfl rfl
theorem co_X7_best : Cond.code yX7_best cX7_best 5 (some .int) ∈ wsG := inT1 (i := 238) rfl rfl
theorem im_X7_best : Cond.instanceMethod yX7_best ∈ wsG := inT1 (i := 236) rfl rfl
theorem se_X7_best : Cond.selects RX7 yX7_best yX7_best ∈ wsG := inT1 (i := 237) rfl rfl
theorem co_X7_planRefusal : Cond.code yX7_planRefusal cX7_planRefusal 6 (some .int) ∈ wsG := inT2 (i := 2) rfl rfl
theorem im_X7_planRefusal : Cond.instanceMethod yX7_planRefusal ∈ wsG := inT2 (i := 1) rfl rfl
theorem se_X7_planRefusal : Cond.selects RX7 yX7_planRefusal yX7_planRefusal ∈ wsG := inS (i := 1) rfl rfl
theorem co_X7_isSetOfSides : Cond.code yX7_isSetOfSides cX7_isSetOfSides 2 (some .boolean) ∈ wsG := inT2 (i := 6) rfl rfl
theorem im_X7_isSetOfSides : Cond.instanceMethod yX7_isSetOfSides ∈ wsG := inT2 (i := 5) rfl rfl
theorem se_X7_isSetOfSides : Cond.selects RX7 yX7_isSetOfSides yX7_isSetOfSides ∈ wsG := inS (i := 2) rfl rfl
theorem co_J6_bitCount_0f7a4 : Cond.code yJ6_bitCount_0f7a4 cJ6_bitCount_0f7a4 1 (some .int) ∈ wsG := inT2 (i := 9) rfl rfl
theorem sm_J6_bitCount_0f7a4 : Cond.static yJ6_bitCount_0f7a4 ∈ wsG := inT2 (i := 8) rfl rfl
theorem co_X7_takeIntoPlan : Cond.code yX7_takeIntoPlan cX7_takeIntoPlan 4 none ∈ wsG := inT2 (i := 16) rfl rfl
theorem im_X7_takeIntoPlan : Cond.instanceMethod yX7_takeIntoPlan ∈ wsG := inT2 (i := 15) rfl rfl
theorem se_X7_takeIntoPlan : Cond.selects RX7 yX7_takeIntoPlan yX7_takeIntoPlan ∈ wsG := inS (i := 3) rfl rfl
theorem co_X0_begin : Cond.code yX0_begin cX0_begin 2 none ∈ wsG := inT2 (i := 20) rfl rfl
theorem im_X0_begin : Cond.instanceMethod yX0_begin ∈ wsG := inT2 (i := 18) rfl rfl
theorem se_X0_begin : Cond.selects RX0 yX0_begin yX0_begin ∈ wsG := inT2 (i := 19) rfl rfl
theorem co_Mmin : Cond.code Lib.Math.min.name Lib.Math.min.code 2 (some .int) ∈ wsG := inT2 (i := 23) rfl rfl
theorem sm_Mmin : Cond.static Lib.Math.min.name ∈ wsG := inT2 (i := 22) rfl rfl
theorem co_X7_holds : Cond.code yX7_holds cX7_holds 2 (some .boolean) ∈ wsG := inT2 (i := 26) rfl rfl
theorem sm_X7_holds : Cond.static yX7_holds ∈ wsG := inT2 (i := 25) rfl rfl
theorem co_X0_take : Cond.code yX0_take cX0_take 3 none ∈ wsG := inT2 (i := 30) rfl rfl
theorem im_X0_take : Cond.instanceMethod yX0_take ∈ wsG := inT2 (i := 28) rfl rfl
theorem se_X0_take : Cond.selects RX0 yX0_take yX0_take ∈ wsG := inT2 (i := 29) rfl rfl
theorem co_X2_savedIn : Cond.code yX2_savedIn cX2_savedIn 4 (some .int) ∈ wsG := inT2 (i := 34) rfl rfl
theorem im_X2_savedIn : Cond.instanceMethod yX2_savedIn ∈ wsG := inT2 (i := 32) rfl rfl
theorem se_X2_savedIn : Cond.selects RX2 yX2_savedIn yX2_savedIn ∈ wsG := inT2 (i := 33) rfl rfl
theorem co_X0_mostWith : Cond.code yX0_mostWith cX0_mostWith 2 (some .int) ∈ wsG := inT2 (i := 38) rfl rfl
theorem im_X0_mostWith : Cond.instanceMethod yX0_mostWith ∈ wsG := inT2 (i := 36) rfl rfl
theorem se_X0_mostWith : Cond.selects RX0 yX0_mostWith yX0_mostWith ∈ wsG := inT2 (i := 37) rfl rfl
theorem co_J7_fill_53178 : Cond.code yJ7_fill_53178 cJ7_fill_53178 4 none ∈ wsG := inT2 (i := 41) rfl rfl
theorem sm_J7_fill_53178 : Cond.static yJ7_fill_53178 ∈ wsG := inT2 (i := 40) rfl rfl
theorem co_X0_mostFrom : Cond.code yX0_mostFrom cX0_mostFrom 5 (some .int) ∈ wsG := inT2 (i := 45) rfl rfl
theorem im_X0_mostFrom : Cond.instanceMethod yX0_mostFrom ∈ wsG := inT2 (i := 44) rfl rfl
theorem se_X0_mostFrom : Cond.selects RX0 yX0_mostFrom yX0_mostFrom ∈ wsG := inS (i := 4) rfl rfl
theorem co_X0_addUp : Cond.code yX0_addUp cX0_addUp 7 none ∈ wsG := inT2 (i := 49) rfl rfl
theorem im_X0_addUp : Cond.instanceMethod yX0_addUp ∈ wsG := inT2 (i := 48) rfl rfl
theorem se_X0_addUp : Cond.selects RX0 yX0_addUp yX0_addUp ∈ wsG := inS (i := 5) rfl rfl
theorem co_X0_savedTogether : Cond.code yX0_savedTogether cX0_savedTogether 6 (some .int) ∈ wsG := inT2 (i := 53) rfl rfl
theorem im_X0_savedTogether : Cond.instanceMethod yX0_savedTogether ∈ wsG := inT2 (i := 52) rfl rfl
theorem se_X0_savedTogether : Cond.selects RX0 yX0_savedTogether yX0_savedTogether ∈ wsG := inS (i := 6) rfl rfl
theorem co_X0_joinYear : Cond.code yX0_joinYear cX0_joinYear 5 none ∈ wsG := inT2 (i := 58) rfl rfl
theorem im_X0_joinYear : Cond.instanceMethod yX0_joinYear ∈ wsG := inT2 (i := 57) rfl rfl
theorem se_X0_joinYear : Cond.selects RX0 yX0_joinYear yX0_joinYear ∈ wsG := inS (i := 7) rfl rfl
theorem co_X7_does : Cond.code yX7_does cX7_does 7 (some .int) ∈ wsG := inT2 (i := 62) rfl rfl
theorem im_X7_does : Cond.instanceMethod yX7_does ∈ wsG := inT2 (i := 60) rfl rfl
theorem se_X7_does : Cond.selects RX7 yX7_does yX7_does ∈ wsG := inT2 (i := 61) rfl rfl
theorem co_X0_optionAt : Cond.code yX0_optionAt cX0_optionAt 6 (some .int) ∈ wsG := inT2 (i := 66) rfl rfl
theorem im_X0_optionAt : Cond.instanceMethod yX0_optionAt ∈ wsG := inT2 (i := 64) rfl rfl
theorem se_X0_optionAt : Cond.selects RX0 yX0_optionAt yX0_optionAt ∈ wsG := inT2 (i := 65) rfl rfl
theorem co_X0_firstOption : Cond.code yX0_firstOption cX0_firstOption 7 (some .int) ∈ wsG := inT2 (i := 71) rfl rfl
theorem im_X0_firstOption : Cond.instanceMethod yX0_firstOption ∈ wsG := inT2 (i := 70) rfl rfl
theorem se_X0_firstOption : Cond.selects RX0 yX0_firstOption yX0_firstOption ∈ wsG := inS (i := 8) rfl rfl
theorem co_X0_hoursFor : Cond.code yX0_hoursFor cX0_hoursFor 3 (some .int) ∈ wsG := inT2 (i := 75) rfl rfl
theorem im_X0_hoursFor : Cond.instanceMethod yX0_hoursFor ∈ wsG := inT2 (i := 74) rfl rfl
theorem se_X0_hoursFor : Cond.selects RX0 yX0_hoursFor yX0_hoursFor ∈ wsG := inS (i := 9) rfl rfl
theorem co_X7_needed : Cond.code yX7_needed cX7_needed 5 (some .int) ∈ wsG := inT2 (i := 79) rfl rfl
theorem im_X7_needed : Cond.instanceMethod yX7_needed ∈ wsG := inT2 (i := 77) rfl rfl
theorem se_X7_needed : Cond.selects RX7 yX7_needed yX7_needed ∈ wsG := inT2 (i := 78) rfl rfl
theorem co_X0_leastHours : Cond.code yX0_leastHours cX0_leastHours 5 (some .int) ∈ wsG := inT2 (i := 84) rfl rfl
theorem im_X0_leastHours : Cond.instanceMethod yX0_leastHours ∈ wsG := inT2 (i := 82) rfl rfl
theorem se_X0_leastHours : Cond.selects RX0 yX0_leastHours yX0_leastHours ∈ wsG := inT2 (i := 83) rfl rfl
theorem co_X7_sign : Cond.code yX7_sign cX7_sign 6 (some .int) ∈ wsG := inT2 (i := 88) rfl rfl
theorem im_X7_sign : Cond.instanceMethod yX7_sign ∈ wsG := inT2 (i := 86) rfl rfl
theorem se_X7_sign : Cond.selects RX7 yX7_sign yX7_sign ∈ wsG := inT2 (i := 87) rfl rfl
theorem co_X4_isFull : Cond.code yX4_isFull cX4_isFull 1 (some .boolean) ∈ wsG := inT2 (i := 92) rfl rfl
theorem im_X4_isFull : Cond.instanceMethod yX4_isFull ∈ wsG := inT2 (i := 90) rfl rfl
theorem se_X4_isFull : Cond.selects RX4 yX4_isFull yX4_isFull ∈ wsG := inT2 (i := 91) rfl rfl
theorem co_X3_init : Cond.code yX3_init cX3_init 5 none ∈ wsG := inT2 (i := 97) rfl rfl
theorem im_X3_init : Cond.instanceMethod yX3_init ∈ wsG := inT2 (i := 96) rfl rfl
theorem co_X4_add : Cond.code yX4_add cX4_add 2 (some .int) ∈ wsG := inT2 (i := 122) rfl rfl
theorem im_X4_add : Cond.instanceMethod yX4_add ∈ wsG := inT2 (i := 120) rfl rfl
theorem se_X4_add : Cond.selects RX4 yX4_add yX4_add ∈ wsG := inT2 (i := 121) rfl rfl
theorem co_X7_drop : Cond.code yX7_drop cX7_drop 2 (some .int) ∈ wsG := inT2 (i := 126) rfl rfl
theorem im_X7_drop : Cond.instanceMethod yX7_drop ∈ wsG := inT2 (i := 124) rfl rfl
theorem se_X7_drop : Cond.selects RX7 yX7_drop yX7_drop ∈ wsG := inT2 (i := 125) rfl rfl
theorem co_X4_has : Cond.code yX4_has cX4_has 2 (some .boolean) ∈ wsG := inT2 (i := 130) rfl rfl
theorem im_X4_has : Cond.instanceMethod yX4_has ∈ wsG := inT2 (i := 128) rfl rfl
theorem se_X4_has : Cond.selects RX4 yX4_has yX4_has ∈ wsG := inT2 (i := 129) rfl rfl
theorem co_X4_takeOut : Cond.code yX4_takeOut cX4_takeOut 3 (some .boolean) ∈ wsG := inT2 (i := 134) rfl rfl
theorem im_X4_takeOut : Cond.instanceMethod yX4_takeOut ∈ wsG := inT2 (i := 132) rfl rfl
theorem se_X4_takeOut : Cond.selects RX4 yX4_takeOut yX4_takeOut ∈ wsG := inT2 (i := 133) rfl rfl
theorem co_X7_speed : Cond.code yX7_speed cX7_speed 2 (some .int) ∈ wsG := inT2 (i := 138) rfl rfl
theorem im_X7_speed : Cond.instanceMethod yX7_speed ∈ wsG := inT2 (i := 136) rfl rfl
theorem se_X7_speed : Cond.selects RX7 yX7_speed yX7_speed ∈ wsG := inT2 (i := 137) rfl rfl
theorem co_X4_leastHeaviest : Cond.code yX4_leastHeaviest cX4_leastHeaviest 7 (some .int) ∈ wsG := inT2 (i := 142) rfl rfl
theorem im_X4_leastHeaviest : Cond.instanceMethod yX4_leastHeaviest ∈ wsG := inT2 (i := 140) rfl rfl
theorem se_X4_leastHeaviest : Cond.selects RX4 yX4_leastHeaviest yX4_leastHeaviest ∈ wsG := inT2 (i := 141) rfl rfl
theorem co_X3_isOf : Cond.code yX3_isOf cX3_isOf 2 (some .boolean) ∈ wsG := inT2 (i := 146) rfl rfl
theorem im_X3_isOf : Cond.instanceMethod yX3_isOf ∈ wsG := inT2 (i := 144) rfl rfl
theorem se_X3_isOf : Cond.selects RX3 yX3_isOf yX3_isOf ∈ wsG := inT2 (i := 145) rfl rfl
theorem co_X4_weightAt : Cond.code yX4_weightAt cX4_weightAt 6 (some .int) ∈ wsG := inT2 (i := 150) rfl rfl
theorem im_X4_weightAt : Cond.instanceMethod yX4_weightAt ∈ wsG := inT2 (i := 148) rfl rfl
theorem se_X4_weightAt : Cond.selects RX4 yX4_weightAt yX4_weightAt ∈ wsG := inT2 (i := 149) rfl rfl
theorem co_X7_span : Cond.code yX7_span cX7_span 2 (some .int) ∈ wsG := inT2 (i := 154) rfl rfl
theorem im_X7_span : Cond.instanceMethod yX7_span ∈ wsG := inT2 (i := 152) rfl rfl
theorem se_X7_span : Cond.selects RX7 yX7_span yX7_span ∈ wsG := inT2 (i := 153) rfl rfl
theorem co_X4_lastHeaviest : Cond.code yX4_lastHeaviest cX4_lastHeaviest 8 (some .int) ∈ wsG := inT2 (i := 158) rfl rfl
theorem im_X4_lastHeaviest : Cond.instanceMethod yX4_lastHeaviest ∈ wsG := inT2 (i := 156) rfl rfl
theorem se_X4_lastHeaviest : Cond.selects RX4 yX4_lastHeaviest yX4_lastHeaviest ∈ wsG := inT2 (i := 157) rfl rfl
theorem co_X7_weighs : Cond.code yX7_weighs cX7_weighs 3 (some .int) ∈ wsG := inT2 (i := 163) rfl rfl
theorem im_X7_weighs : Cond.instanceMethod yX7_weighs ∈ wsG := inT2 (i := 161) rfl rfl
theorem se_X7_weighs : Cond.selects RX7 yX7_weighs yX7_weighs ∈ wsG := inT2 (i := 162) rfl rfl
theorem co_X7_quarrels : Cond.code yX7_quarrels cX7_quarrels 2 (some .int) ∈ wsG := inT2 (i := 168) rfl rfl
theorem im_X7_quarrels : Cond.instanceMethod yX7_quarrels ∈ wsG := inT2 (i := 166) rfl rfl
theorem se_X7_quarrels : Cond.selects RX7 yX7_quarrels yX7_quarrels ∈ wsG := inT2 (i := 167) rfl rfl
theorem co_X4_pairsApart : Cond.code yX4_pairsApart cX4_pairsApart 5 (some .int) ∈ wsG := inT2 (i := 172) rfl rfl
theorem im_X4_pairsApart : Cond.instanceMethod yX4_pairsApart ∈ wsG := inT2 (i := 170) rfl rfl
theorem se_X4_pairsApart : Cond.selects RX4 yX4_pairsApart yX4_pairsApart ∈ wsG := inT2 (i := 171) rfl rfl
theorem co_X3_isApartFrom : Cond.code yX3_isApartFrom cX3_isApartFrom 2 (some .boolean) ∈ wsG := inT2 (i := 176) rfl rfl
theorem im_X3_isApartFrom : Cond.instanceMethod yX3_isApartFrom ∈ wsG := inT2 (i := 174) rfl rfl
theorem se_X3_isApartFrom : Cond.selects RX3 yX3_isApartFrom yX3_isApartFrom ∈ wsG := inT2 (i := 175) rfl rfl
theorem co_X7_piece : Cond.code yX7_piece cX7_piece 3 (some .int) ∈ wsG := inT2 (i := 180) rfl rfl
theorem im_X7_piece : Cond.instanceMethod yX7_piece ∈ wsG := inT2 (i := 178) rfl rfl
theorem se_X7_piece : Cond.selects RX7 yX7_piece yX7_piece ∈ wsG := inT2 (i := 179) rfl rfl
theorem co_X1_isFull : Cond.code yX1_isFull cX1_isFull 1 (some .boolean) ∈ wsG := inT2 (i := 184) rfl rfl
theorem im_X1_isFull : Cond.instanceMethod yX1_isFull ∈ wsG := inT2 (i := 182) rfl rfl
theorem se_X1_isFull : Cond.selects RX1 yX1_isFull yX1_isFull ∈ wsG := inT2 (i := 183) rfl rfl
theorem co_X1_add : Cond.code yX1_add cX1_add 3 (some .int) ∈ wsG := inT2 (i := 188) rfl rfl
theorem im_X1_add : Cond.instanceMethod yX1_add ∈ wsG := inT2 (i := 186) rfl rfl
theorem se_X1_add : Cond.selects RX1 yX1_add yX1_add ∈ wsG := inT2 (i := 187) rfl rfl
theorem co_X7_sweep : Cond.code yX7_sweep cX7_sweep 1 (some .int) ∈ wsG := inT2 (i := 192) rfl rfl
theorem im_X7_sweep : Cond.instanceMethod yX7_sweep ∈ wsG := inT2 (i := 190) rfl rfl
theorem se_X7_sweep : Cond.selects RX7 yX7_sweep yX7_sweep ∈ wsG := inT2 (i := 191) rfl rfl
theorem co_X1_clear : Cond.code yX1_clear cX1_clear 2 (some .int) ∈ wsG := inT2 (i := 196) rfl rfl
theorem im_X1_clear : Cond.instanceMethod yX1_clear ∈ wsG := inT2 (i := 194) rfl rfl
theorem se_X1_clear : Cond.selects RX1 yX1_clear yX1_clear ∈ wsG := inT2 (i := 195) rfl rfl
theorem co_X7_tolerance : Cond.code yX7_tolerance cX7_tolerance 3 (some .int) ∈ wsG := inT2 (i := 200) rfl rfl
theorem im_X7_tolerance : Cond.instanceMethod yX7_tolerance ∈ wsG := inT2 (i := 198) rfl rfl
theorem se_X7_tolerance : Cond.selects RX7 yX7_tolerance yX7_tolerance ∈ wsG := inT2 (i := 199) rfl rfl
theorem co_X7_rows : Cond.code yX7_rows cX7_rows 1 (some .int) ∈ wsG := inT2 (i := 204) rfl rfl
theorem im_X7_rows : Cond.instanceMethod yX7_rows ∈ wsG := inT2 (i := 202) rfl rfl
theorem se_X7_rows : Cond.selects RX7 yX7_rows yX7_rows ∈ wsG := inT2 (i := 203) rfl rfl
theorem co_X1_countRows : Cond.code yX1_countRows cX1_countRows 3 (some .int) ∈ wsG := inT2 (i := 208) rfl rfl
theorem im_X1_countRows : Cond.instanceMethod yX1_countRows ∈ wsG := inT2 (i := 206) rfl rfl
theorem se_X1_countRows : Cond.selects RX1 yX1_countRows yX1_countRows ∈ wsG := inT2 (i := 207) rfl rfl
theorem co_X1_weighAll : Cond.code yX1_weighAll cX1_weighAll 4 none ∈ wsG := inT2 (i := 212) rfl rfl
theorem im_X1_weighAll : Cond.instanceMethod yX1_weighAll ∈ wsG := inT2 (i := 211) rfl rfl
theorem se_X1_weighAll : Cond.selects RX1 yX1_weighAll yX1_weighAll ∈ wsG := inS (i := 10) rfl rfl
theorem co_X1_weigh : Cond.code yX1_weigh cX1_weigh 8 none ∈ wsG := inT2 (i := 217) rfl rfl
theorem im_X1_weigh : Cond.instanceMethod yX1_weigh ∈ wsG := inT2 (i := 216) rfl rfl
theorem se_X1_weigh : Cond.selects RX1 yX1_weigh yX1_weigh ∈ wsG := inS (i := 11) rfl rfl
theorem co_X1_canFollow : Cond.code yX1_canFollow cX1_canFollow 4 (some .boolean) ∈ wsG := inT2 (i := 221) rfl rfl
theorem im_X1_canFollow : Cond.instanceMethod yX1_canFollow ∈ wsG := inT2 (i := 220) rfl rfl
theorem se_X1_canFollow : Cond.selects RX1 yX1_canFollow yX1_canFollow ∈ wsG := inS (i := 12) rfl rfl
theorem co_X1_gap : Cond.code yX1_gap cX1_gap 3 (some .int) ∈ wsG := inT2 (i := 225) rfl rfl
theorem im_X1_gap : Cond.instanceMethod yX1_gap ∈ wsG := inT2 (i := 224) rfl rfl
theorem se_X1_gap : Cond.selects RX1 yX1_gap yX1_gap ∈ wsG := inS (i := 13) rfl rfl
theorem co_Mabs : Cond.code Lib.Math.abs.name Lib.Math.abs.code 1 (some .int) ∈ wsG := inT2 (i := 228) rfl rfl
theorem sm_Mabs : Cond.static Lib.Math.abs.name ∈ wsG := inT2 (i := 227) rfl rfl
theorem co_X1_cell : Cond.code yX1_cell cX1_cell 2 (some .int) ∈ wsG := inT2 (i := 231) rfl rfl
theorem sm_X1_cell : Cond.static yX1_cell ∈ wsG := inT2 (i := 230) rfl rfl
theorem co_X7_misfit : Cond.code yX7_misfit cX7_misfit 1 (some .int) ∈ wsG := inT2 (i := 235) rfl rfl
theorem im_X7_misfit : Cond.instanceMethod yX7_misfit ∈ wsG := inT2 (i := 233) rfl rfl
theorem se_X7_misfit : Cond.selects RX7 yX7_misfit yX7_misfit ∈ wsG := inT2 (i := 234) rfl rfl
theorem co_X1_leastMisfit : Cond.code yX1_leastMisfit cX1_leastMisfit 2 (some .int) ∈ wsG := inT2 (i := 239) rfl rfl
theorem im_X1_leastMisfit : Cond.instanceMethod yX1_leastMisfit ∈ wsG := inT2 (i := 237) rfl rfl
theorem se_X1_leastMisfit : Cond.selects RX1 yX1_leastMisfit yX1_leastMisfit ∈ wsG := inT2 (i := 238) rfl rfl
theorem co_X1_firstPiece : Cond.code yX1_firstPiece cX1_firstPiece 5 (some .int) ∈ wsG := inT3 (i := 3) rfl rfl
theorem im_X1_firstPiece : Cond.instanceMethod yX1_firstPiece ∈ wsG := inT3 (i := 2) rfl rfl
theorem se_X1_firstPiece : Cond.selects RX1 yX1_firstPiece yX1_firstPiece ∈ wsG := inS (i := 14) rfl rfl
theorem co_X7_inRow : Cond.code yX7_inRow cX7_inRow 2 (some .int) ∈ wsG := inT3 (i := 7) rfl rfl
theorem im_X7_inRow : Cond.instanceMethod yX7_inRow ∈ wsG := inT3 (i := 5) rfl rfl
theorem se_X7_inRow : Cond.selects RX7 yX7_inRow yX7_inRow ∈ wsG := inT3 (i := 6) rfl rfl
theorem co_X1_pieceAt : Cond.code yX1_pieceAt cX1_pieceAt 5 (some .int) ∈ wsG := inT3 (i := 11) rfl rfl
theorem im_X1_pieceAt : Cond.instanceMethod yX1_pieceAt ∈ wsG := inT3 (i := 9) rfl rfl
theorem se_X1_pieceAt : Cond.selects RX1 yX1_pieceAt yX1_pieceAt ∈ wsG := inT3 (i := 10) rfl rfl
theorem co_X1_nextPiece : Cond.code yX1_nextPiece cX1_nextPiece 4 (some .int) ∈ wsG := inT3 (i := 15) rfl rfl
theorem im_X1_nextPiece : Cond.instanceMethod yX1_nextPiece ∈ wsG := inT3 (i := 14) rfl rfl
theorem se_X1_nextPiece : Cond.selects RX1 yX1_nextPiece yX1_nextPiece ∈ wsG := inS (i := 15) rfl rfl
theorem co_X7_sung : Cond.code yX7_sung cX7_sung 5 (some .int) ∈ wsG := inT3 (i := 19) rfl rfl
theorem im_X7_sung : Cond.instanceMethod yX7_sung ∈ wsG := inT3 (i := 17) rfl rfl
theorem se_X7_sung : Cond.selects RX7 yX7_sung yX7_sung ∈ wsG := inT3 (i := 18) rfl rfl
theorem co_X7_isSong : Cond.code yX7_isSong cX7_isSong 1 (some .boolean) ∈ wsG := inT3 (i := 22) rfl rfl
theorem sm_X7_isSong : Cond.static yX7_isSong ∈ wsG := inT3 (i := 21) rfl rfl
theorem co_X7_text : Cond.code yX7_text cX7_text 8 (some .int) ∈ wsG := inT3 (i := 26) rfl rfl
theorem im_X7_text : Cond.instanceMethod yX7_text ∈ wsG := inT3 (i := 24) rfl rfl
theorem se_X7_text : Cond.selects RX7 yX7_text yX7_text ∈ wsG := inT3 (i := 25) rfl rfl
theorem co_X7_isHearer : Cond.code yX7_isHearer cX7_isHearer 1 (some .boolean) ∈ wsG := inT3 (i := 29) rfl rfl
theorem sm_X7_isHearer : Cond.static yX7_isHearer ∈ wsG := inT3 (i := 28) rfl rfl
theorem co_X7_isFamily : Cond.code yX7_isFamily cX7_isFamily 1 (some .boolean) ∈ wsG := inT3 (i := 32) rfl rfl
theorem sm_X7_isFamily : Cond.static yX7_isFamily ∈ wsG := inT3 (i := 31) rfl rfl
theorem co_X7_isDay : Cond.code yX7_isDay cX7_isDay 1 (some .boolean) ∈ wsG := inT3 (i := 35) rfl rfl
theorem sm_X7_isDay : Cond.static yX7_isDay ∈ wsG := inT3 (i := 34) rfl rfl
theorem co_X6_isFull : Cond.code yX6_isFull cX6_isFull 1 (some .boolean) ∈ wsG := inT3 (i := 39) rfl rfl
theorem im_X6_isFull : Cond.instanceMethod yX6_isFull ∈ wsG := inT3 (i := 37) rfl rfl
theorem se_X6_isFull : Cond.selects RX6 yX6_isFull yX6_isFull ∈ wsG := inT3 (i := 38) rfl rfl
theorem co_X7_askedBy : Cond.code yX7_askedBy cX7_askedBy 4 (some .int) ∈ wsG := inT3 (i := 42) rfl rfl
theorem sm_X7_askedBy : Cond.static yX7_askedBy ∈ wsG := inT3 (i := 41) rfl rfl
theorem co_X6_add : Cond.code yX6_add cX6_add 6 (some .int) ∈ wsG := inT3 (i := 46) rfl rfl
theorem im_X6_add : Cond.instanceMethod yX6_add ∈ wsG := inT3 (i := 44) rfl rfl
theorem se_X6_add : Cond.selects RX6 yX6_add yX6_add ∈ wsG := inT3 (i := 45) rfl rfl
theorem co_X5_init : Cond.code yX5_init cX5_init 6 none ∈ wsG := inT3 (i := 50) rfl rfl
theorem im_X5_init : Cond.instanceMethod yX5_init ∈ wsG := inT3 (i := 49) rfl rfl
theorem co_X7_counts : Cond.code yX7_counts cX7_counts 5 (some .int) ∈ wsG := inT3 (i := 74) rfl rfl
theorem im_X7_counts : Cond.instanceMethod yX7_counts ∈ wsG := inT3 (i := 72) rfl rfl
theorem se_X7_counts : Cond.selects RX7 yX7_counts yX7_counts ∈ wsG := inT3 (i := 73) rfl rfl
theorem co_X6_latestFor : Cond.code yX6_latestFor cX6_latestFor 6 (some .int) ∈ wsG := inT3 (i := 78) rfl rfl
theorem im_X6_latestFor : Cond.instanceMethod yX6_latestFor ∈ wsG := inT3 (i := 76) rfl rfl
theorem se_X6_latestFor : Cond.selects RX6 yX6_latestFor yX6_latestFor ∈ wsG := inT3 (i := 77) rfl rfl
theorem co_X5_isFor : Cond.code yX5_isFor cX5_isFor 2 (some .boolean) ∈ wsG := inT3 (i := 82) rfl rfl
theorem im_X5_isFor : Cond.instanceMethod yX5_isFor ∈ wsG := inT3 (i := 80) rfl rfl
theorem se_X5_isFor : Cond.selects RX5 yX5_isFor yX5_isFor ∈ wsG := inT3 (i := 81) rfl rfl
theorem co_X7_may : Cond.code yX7_may cX7_may 4 (some .int) ∈ wsG := inT3 (i := 86) rfl rfl
theorem im_X7_may : Cond.instanceMethod yX7_may ∈ wsG := inT3 (i := 84) rfl rfl
theorem se_X7_may : Cond.selects RX7 yX7_may yX7_may ∈ wsG := inT3 (i := 85) rfl rfl
theorem co_X6_letOn : Cond.code yX6_letOn cX6_letOn 5 (some .int) ∈ wsG := inT3 (i := 90) rfl rfl
theorem im_X6_letOn : Cond.instanceMethod yX6_letOn ∈ wsG := inT3 (i := 88) rfl rfl
theorem se_X6_letOn : Cond.selects RX6 yX6_letOn yX6_letOn ∈ wsG := inT3 (i := 89) rfl rfl
theorem co_X5_letAfter : Cond.code yX5_letAfter cX5_letAfter 2 (some .int) ∈ wsG := inT3 (i := 94) rfl rfl
theorem im_X5_letAfter : Cond.instanceMethod yX5_letAfter ∈ wsG := inT3 (i := 92) rfl rfl
theorem se_X5_letAfter : Cond.selects RX5 yX5_letAfter yX5_letAfter ∈ wsG := inT3 (i := 93) rfl rfl
theorem co_X2_isLetBy : Cond.code yX2_isLetBy cX2_isLetBy 2 (some .boolean) ∈ wsG := inT3 (i := 98) rfl rfl
theorem im_X2_isLetBy : Cond.instanceMethod yX2_isLetBy ∈ wsG := inT3 (i := 96) rfl rfl
theorem se_X2_isLetBy : Cond.selects RX2 yX2_isLetBy yX2_isLetBy ∈ wsG := inT3 (i := 97) rfl rfl
theorem co_X2_asked : Cond.code yX2_asked cX2_asked 1 (some .int) ∈ wsG := inT3 (i := 102) rfl rfl
theorem im_X2_asked : Cond.instanceMethod yX2_asked ∈ wsG := inT3 (i := 100) rfl rfl
theorem se_X2_asked : Cond.selects RX2 yX2_asked yX2_asked ∈ wsG := inT3 (i := 101) rfl rfl
theorem co_X7_heard : Cond.code yX7_heard cX7_heard 6 (some .int) ∈ wsG := inT3 (i := 106) rfl rfl
theorem im_X7_heard : Cond.instanceMethod yX7_heard ∈ wsG := inT3 (i := 104) rfl rfl
theorem se_X7_heard : Cond.selects RX7 yX7_heard yX7_heard ∈ wsG := inT3 (i := 105) rfl rfl
theorem co_X7_days : Cond.code yX7_days cX7_days 7 (some .int) ∈ wsG := inT3 (i := 110) rfl rfl
theorem im_X7_days : Cond.instanceMethod yX7_days ∈ wsG := inT3 (i := 108) rfl rfl
theorem se_X7_days : Cond.selects RX7 yX7_days yX7_days ∈ wsG := inT3 (i := 109) rfl rfl
theorem co_X6_daysThatLet : Cond.code yX6_daysThatLet cX6_daysThatLet 10 (some .int) ∈ wsG := inT3 (i := 115) rfl rfl
theorem im_X6_daysThatLet : Cond.instanceMethod yX6_daysThatLet ∈ wsG := inT3 (i := 113) rfl rfl
theorem se_X6_daysThatLet : Cond.selects RX6 yX6_daysThatLet yX6_daysThatLet ∈ wsG := inT3 (i := 114) rfl rfl
theorem co_X7_copy : Cond.code yX7_copy cX7_copy 4 (some .int) ∈ wsG := inT3 (i := 119) rfl rfl
theorem im_X7_copy : Cond.instanceMethod yX7_copy ∈ wsG := inT3 (i := 117) rfl rfl
theorem se_X7_copy : Cond.selects RX7 yX7_copy yX7_copy ∈ wsG := inT3 (i := 118) rfl rfl
theorem co_X7_stepsUp : Cond.code yX7_stepsUp cX7_stepsUp 5 (some .int) ∈ wsG := inT3 (i := 123) rfl rfl
theorem im_X7_stepsUp : Cond.instanceMethod yX7_stepsUp ∈ wsG := inT3 (i := 122) rfl rfl
theorem se_X7_stepsUp : Cond.selects RX7 yX7_stepsUp yX7_stepsUp ∈ wsG := inS (i := 16) rfl rfl
theorem co_X7_copies : Cond.code yX7_copies cX7_copies 4 (some .int) ∈ wsG := inT3 (i := 127) rfl rfl
theorem im_X7_copies : Cond.instanceMethod yX7_copies ∈ wsG := inT3 (i := 125) rfl rfl
theorem se_X7_copies : Cond.selects RX7 yX7_copies yX7_copies ∈ wsG := inT3 (i := 126) rfl rfl
theorem co_X7_clearest : Cond.code yX7_clearest cX7_clearest 7 (some .int) ∈ wsG := inT3 (i := 131) rfl rfl
theorem im_X7_clearest : Cond.instanceMethod yX7_clearest ∈ wsG := inT3 (i := 129) rfl rfl
theorem se_X7_clearest : Cond.selects RX7 yX7_clearest yX7_clearest ∈ wsG := inT3 (i := 130) rfl rfl
theorem co_X7_total : Cond.code yX7_total cX7_total 2 (some .int) ∈ wsG := inT3 (i := 135) rfl rfl
theorem im_X7_total : Cond.instanceMethod yX7_total ∈ wsG := inT3 (i := 133) rfl rfl
theorem se_X7_total : Cond.selects RX7 yX7_total yX7_total ∈ wsG := inT3 (i := 134) rfl rfl
theorem co_X4_countLive : Cond.code yX4_countLive cX4_countLive 3 (some .int) ∈ wsG := inT3 (i := 139) rfl rfl
theorem im_X4_countLive : Cond.instanceMethod yX4_countLive ∈ wsG := inT3 (i := 137) rfl rfl
theorem se_X4_countLive : Cond.selects RX4 yX4_countLive yX4_countLive ∈ wsG := inT3 (i := 138) rfl rfl
theorem co_X7_allSound : Cond.code yX7_allSound cX7_allSound 3 (some .int) ∈ wsG := inT3 (i := 143) rfl rfl
theorem im_X7_allSound : Cond.instanceMethod yX7_allSound ∈ wsG := inT3 (i := 142) rfl rfl
theorem se_X7_allSound : Cond.selects RX7 yX7_allSound yX7_allSound ∈ wsG := inS (i := 17) rfl rfl
theorem co_X8_init : Cond.code yX8_init cX8_init 1 none ∈ wsG := inT3 (i := 148) rfl rfl
theorem im_X8_init : Cond.instanceMethod yX8_init ∈ wsG := inT3 (i := 147) rfl rfl
theorem co_X8_side : Cond.code yX8_side cX8_side 5 (some .int) ∈ wsG := inT4 (i := 26) rfl rfl
theorem im_X8_side : Cond.instanceMethod yX8_side ∈ wsG := inT4 (i := 24) rfl rfl
theorem se_X8_side : Cond.selects RX8 yX8_side yX8_side ∈ wsG := inT4 (i := 25) rfl rfl
theorem co_X8_in : Cond.code yX8_in cX8_in 6 (some .boolean) ∈ wsG := inT4 (i := 30) rfl rfl
theorem sm_X8_in : Cond.static yX8_in ∈ wsG := inT4 (i := 29) rfl rfl
theorem co_X8_hours : Cond.code yX8_hours cX8_hours 4 (some .int) ∈ wsG := inT4 (i := 35) rfl rfl
theorem im_X8_hours : Cond.instanceMethod yX8_hours ∈ wsG := inT4 (i := 33) rfl rfl
theorem se_X8_hours : Cond.selects RX8 yX8_hours yX8_hours ∈ wsG := inT4 (i := 34) rfl rfl
theorem co_X8_noSide : Cond.code yX8_noSide cX8_noSide 2 (some .boolean) ∈ wsG := inT4 (i := 39) rfl rfl
theorem im_X8_noSide : Cond.instanceMethod yX8_noSide ∈ wsG := inT4 (i := 38) rfl rfl
theorem se_X8_noSide : Cond.selects RX8 yX8_noSide yX8_noSide ∈ wsG := inS (i := 18) rfl rfl
theorem co_X8_told : Cond.code yX8_told cX8_told 3 (some .int) ∈ wsG := inT4 (i := 43) rfl rfl
theorem im_X8_told : Cond.instanceMethod yX8_told ∈ wsG := inT4 (i := 41) rfl rfl
theorem se_X8_told : Cond.selects RX8 yX8_told yX8_told ∈ wsG := inT4 (i := 42) rfl rfl
theorem co_X8_read : Cond.code yX8_read cX8_read 3 (some .int) ∈ wsG := inT4 (i := 47) rfl rfl
theorem im_X8_read : Cond.instanceMethod yX8_read ∈ wsG := inT4 (i := 45) rfl rfl
theorem se_X8_read : Cond.selects RX8 yX8_read yX8_read ∈ wsG := inT4 (i := 46) rfl rfl
theorem co_X8_atLeastNone : Cond.code yX8_atLeastNone cX8_atLeastNone 1 (some .int) ∈ wsG := inT4 (i := 50) rfl rfl
theorem sm_X8_atLeastNone : Cond.static yX8_atLeastNone ∈ wsG := inT4 (i := 49) rfl rfl
theorem co_X8_pass : Cond.code yX8_pass cX8_pass 3 (some .int) ∈ wsG := inT4 (i := 54) rfl rfl
theorem im_X8_pass : Cond.instanceMethod yX8_pass ∈ wsG := inT4 (i := 52) rfl rfl
theorem se_X8_pass : Cond.selects RX8 yX8_pass yX8_pass ∈ wsG := inT4 (i := 53) rfl rfl
theorem co_X8_best : Cond.code yX8_best cX8_best 4 (some .int) ∈ wsG := inT4 (i := 58) rfl rfl
theorem im_X8_best : Cond.instanceMethod yX8_best ∈ wsG := inT4 (i := 56) rfl rfl
theorem se_X8_best : Cond.selects RX8 yX8_best yX8_best ∈ wsG := inT4 (i := 57) rfl rfl
theorem co_X8_noSet : Cond.code yX8_noSet cX8_noSet 2 (some .boolean) ∈ wsG := inT4 (i := 62) rfl rfl
theorem im_X8_noSet : Cond.instanceMethod yX8_noSet ∈ wsG := inT4 (i := 61) rfl rfl
theorem se_X8_noSet : Cond.selects RX8 yX8_noSet yX8_noSet ∈ wsG := inS (i := 19) rfl rfl
theorem co_X8_badPlan : Cond.code yX8_badPlan cX8_badPlan 3 (some .boolean) ∈ wsG := inT4 (i := 65) rfl rfl
theorem sm_X8_badPlan : Cond.static yX8_badPlan ∈ wsG := inT4 (i := 64) rfl rfl
theorem co_X8_bits : Cond.code yX8_bits cX8_bits 3 (some .int) ∈ wsG := inT4 (i := 68) rfl rfl
theorem sm_X8_bits : Cond.static yX8_bits ∈ wsG := inT4 (i := 67) rfl rfl
theorem co_X8_plan : Cond.code yX8_plan cX8_plan 7 none ∈ wsG := inT4 (i := 74) rfl rfl
theorem im_X8_plan : Cond.instanceMethod yX8_plan ∈ wsG := inT4 (i := 73) rfl rfl
theorem se_X8_plan : Cond.selects RX8 yX8_plan yX8_plan ∈ wsG := inS (i := 20) rfl rfl
theorem co_X8_gather : Cond.code yX8_gather cX8_gather 3 none ∈ wsG := inT4 (i := 78) rfl rfl
theorem im_X8_gather : Cond.instanceMethod yX8_gather ∈ wsG := inT4 (i := 77) rfl rfl
theorem se_X8_gather : Cond.selects RX8 yX8_gather yX8_gather ∈ wsG := inS (i := 21) rfl rfl
theorem co_X8_codes : Cond.code yX8_codes cX8_codes 4 (some .int) ∈ wsG := inT4 (i := 82) rfl rfl
theorem im_X8_codes : Cond.instanceMethod yX8_codes ∈ wsG := inT4 (i := 81) rfl rfl
theorem se_X8_codes : Cond.selects RX8 yX8_codes yX8_codes ∈ wsG := inS (i := 22) rfl rfl
theorem co_X8_weigh : Cond.code yX8_weigh cX8_weigh 8 none ∈ wsG := inT4 (i := 86) rfl rfl
theorem im_X8_weigh : Cond.instanceMethod yX8_weigh ∈ wsG := inT4 (i := 85) rfl rfl
theorem se_X8_weigh : Cond.selects RX8 yX8_weigh yX8_weigh ∈ wsG := inS (i := 23) rfl rfl
theorem co_X8_most : Cond.code yX8_most cX8_most 2 (some .int) ∈ wsG := inT4 (i := 90) rfl rfl
theorem im_X8_most : Cond.instanceMethod yX8_most ∈ wsG := inT4 (i := 89) rfl rfl
theorem se_X8_most : Cond.selects RX8 yX8_most yX8_most ∈ wsG := inS (i := 24) rfl rfl
theorem co_X8_does : Cond.code yX8_does cX8_does 7 (some .int) ∈ wsG := inT4 (i := 94) rfl rfl
theorem im_X8_does : Cond.instanceMethod yX8_does ∈ wsG := inT4 (i := 92) rfl rfl
theorem se_X8_does : Cond.selects RX8 yX8_does yX8_does ∈ wsG := inT4 (i := 93) rfl rfl
theorem co_X8_needed : Cond.code yX8_needed cX8_needed 6 (some .int) ∈ wsG := inT4 (i := 98) rfl rfl
theorem im_X8_needed : Cond.instanceMethod yX8_needed ∈ wsG := inT4 (i := 96) rfl rfl
theorem se_X8_needed : Cond.selects RX8 yX8_needed yX8_needed ∈ wsG := inT4 (i := 97) rfl rfl
theorem co_X8_sign : Cond.code yX8_sign cX8_sign 5 (some .int) ∈ wsG := inT4 (i := 103) rfl rfl
theorem im_X8_sign : Cond.instanceMethod yX8_sign ∈ wsG := inT4 (i := 101) rfl rfl
theorem se_X8_sign : Cond.selects RX8 yX8_sign yX8_sign ∈ wsG := inT4 (i := 102) rfl rfl
theorem co_X8_drop : Cond.code yX8_drop cX8_drop 2 (some .int) ∈ wsG := inT4 (i := 108) rfl rfl
theorem im_X8_drop : Cond.instanceMethod yX8_drop ∈ wsG := inT4 (i := 106) rfl rfl
theorem se_X8_drop : Cond.selects RX8 yX8_drop yX8_drop ∈ wsG := inT4 (i := 107) rfl rfl
theorem co_X8_speed : Cond.code yX8_speed cX8_speed 2 (some .int) ∈ wsG := inT4 (i := 112) rfl rfl
theorem im_X8_speed : Cond.instanceMethod yX8_speed ∈ wsG := inT4 (i := 110) rfl rfl
theorem se_X8_speed : Cond.selects RX8 yX8_speed yX8_speed ∈ wsG := inT4 (i := 111) rfl rfl
theorem co_X8_speedOf : Cond.code yX8_speedOf cX8_speedOf 6 (some .int) ∈ wsG := inT4 (i := 116) rfl rfl
theorem im_X8_speedOf : Cond.instanceMethod yX8_speedOf ∈ wsG := inT4 (i := 115) rfl rfl
theorem se_X8_speedOf : Cond.selects RX8 yX8_speedOf yX8_speedOf ∈ wsG := inS (i := 25) rfl rfl
theorem co_X8_isOf : Cond.code yX8_isOf cX8_isOf 3 (some .boolean) ∈ wsG := inT4 (i := 120) rfl rfl
theorem im_X8_isOf : Cond.instanceMethod yX8_isOf ∈ wsG := inT4 (i := 119) rfl rfl
theorem se_X8_isOf : Cond.selects RX8 yX8_isOf yX8_isOf ∈ wsG := inS (i := 26) rfl rfl
theorem co_X8_weighsOf : Cond.code yX8_weighsOf cX8_weighsOf 5 (some .int) ∈ wsG := inT4 (i := 124) rfl rfl
theorem im_X8_weighsOf : Cond.instanceMethod yX8_weighsOf ∈ wsG := inT4 (i := 123) rfl rfl
theorem se_X8_weighsOf : Cond.selects RX8 yX8_weighsOf yX8_weighsOf ∈ wsG := inS (i := 27) rfl rfl
theorem co_X8_span : Cond.code yX8_span cX8_span 7 (some .int) ∈ wsG := inT4 (i := 128) rfl rfl
theorem im_X8_span : Cond.instanceMethod yX8_span ∈ wsG := inT4 (i := 126) rfl rfl
theorem se_X8_span : Cond.selects RX8 yX8_span yX8_span ∈ wsG := inT4 (i := 127) rfl rfl
theorem co_X8_weighs : Cond.code yX8_weighs cX8_weighs 3 (some .int) ∈ wsG := inT4 (i := 132) rfl rfl
theorem im_X8_weighs : Cond.instanceMethod yX8_weighs ∈ wsG := inT4 (i := 130) rfl rfl
theorem se_X8_weighs : Cond.selects RX8 yX8_weighs yX8_weighs ∈ wsG := inT4 (i := 131) rfl rfl
theorem co_X8_quarrels : Cond.code yX8_quarrels cX8_quarrels 5 (some .int) ∈ wsG := inT4 (i := 137) rfl rfl
theorem im_X8_quarrels : Cond.instanceMethod yX8_quarrels ∈ wsG := inT4 (i := 135) rfl rfl
theorem se_X8_quarrels : Cond.selects RX8 yX8_quarrels yX8_quarrels ∈ wsG := inT4 (i := 136) rfl rfl
theorem co_X8_piece : Cond.code yX8_piece cX8_piece 3 (some .int) ∈ wsG := inT4 (i := 141) rfl rfl
theorem im_X8_piece : Cond.instanceMethod yX8_piece ∈ wsG := inT4 (i := 139) rfl rfl
theorem se_X8_piece : Cond.selects RX8 yX8_piece yX8_piece ∈ wsG := inT4 (i := 140) rfl rfl
theorem co_X8_sweep : Cond.code yX8_sweep cX8_sweep 2 (some .int) ∈ wsG := inT4 (i := 146) rfl rfl
theorem im_X8_sweep : Cond.instanceMethod yX8_sweep ∈ wsG := inT4 (i := 144) rfl rfl
theorem se_X8_sweep : Cond.selects RX8 yX8_sweep yX8_sweep ∈ wsG := inT4 (i := 145) rfl rfl
theorem co_X8_tolerance : Cond.code yX8_tolerance cX8_tolerance 3 (some .int) ∈ wsG := inT4 (i := 150) rfl rfl
theorem im_X8_tolerance : Cond.instanceMethod yX8_tolerance ∈ wsG := inT4 (i := 148) rfl rfl
theorem se_X8_tolerance : Cond.selects RX8 yX8_tolerance yX8_tolerance ∈ wsG := inT4 (i := 149) rfl rfl
theorem co_X8_rows : Cond.code yX8_rows cX8_rows 3 (some .int) ∈ wsG := inT4 (i := 154) rfl rfl
theorem im_X8_rows : Cond.instanceMethod yX8_rows ∈ wsG := inT4 (i := 152) rfl rfl
theorem se_X8_rows : Cond.selects RX8 yX8_rows yX8_rows ∈ wsG := inT4 (i := 153) rfl rfl
theorem co_X8_join : Cond.code yX8_join cX8_join 7 none ∈ wsG := inT4 (i := 158) rfl rfl
theorem im_X8_join : Cond.instanceMethod yX8_join ∈ wsG := inT4 (i := 157) rfl rfl
theorem se_X8_join : Cond.selects RX8 yX8_join yX8_join ∈ wsG := inS (i := 28) rfl rfl
theorem co_X8_apart : Cond.code yX8_apart cX8_apart 4 (some .int) ∈ wsG := inT4 (i := 163) rfl rfl
theorem im_X8_apart : Cond.instanceMethod yX8_apart ∈ wsG := inT4 (i := 162) rfl rfl
theorem se_X8_apart : Cond.selects RX8 yX8_apart yX8_apart ∈ wsG := inS (i := 29) rfl rfl
theorem co_X8_others : Cond.code yX8_others cX8_others 2 (some .int) ∈ wsG := inT4 (i := 167) rfl rfl
theorem im_X8_others : Cond.instanceMethod yX8_others ∈ wsG := inT4 (i := 166) rfl rfl
theorem se_X8_others : Cond.selects RX8 yX8_others yX8_others ∈ wsG := inS (i := 30) rfl rfl
theorem co_X8_misfit : Cond.code yX8_misfit cX8_misfit 2 (some .int) ∈ wsG := inT4 (i := 171) rfl rfl
theorem im_X8_misfit : Cond.instanceMethod yX8_misfit ∈ wsG := inT4 (i := 169) rfl rfl
theorem se_X8_misfit : Cond.selects RX8 yX8_misfit yX8_misfit ∈ wsG := inT4 (i := 170) rfl rfl
theorem co_X8_leastOf : Cond.code yX8_leastOf cX8_leastOf 3 (some .int) ∈ wsG := inT4 (i := 175) rfl rfl
theorem im_X8_leastOf : Cond.instanceMethod yX8_leastOf ∈ wsG := inT4 (i := 174) rfl rfl
theorem se_X8_leastOf : Cond.selects RX8 yX8_leastOf yX8_leastOf ∈ wsG := inS (i := 31) rfl rfl
theorem co_X8_inRow : Cond.code yX8_inRow cX8_inRow 9 (some .int) ∈ wsG := inT4 (i := 179) rfl rfl
theorem im_X8_inRow : Cond.instanceMethod yX8_inRow ∈ wsG := inT4 (i := 177) rfl rfl
theorem se_X8_inRow : Cond.selects RX8 yX8_inRow yX8_inRow ∈ wsG := inT4 (i := 178) rfl rfl
theorem co_X8_sung : Cond.code yX8_sung cX8_sung 5 (some .int) ∈ wsG := inT4 (i := 183) rfl rfl
theorem im_X8_sung : Cond.instanceMethod yX8_sung ∈ wsG := inT4 (i := 181) rfl rfl
theorem se_X8_sung : Cond.selects RX8 yX8_sung yX8_sung ∈ wsG := inT4 (i := 182) rfl rfl
theorem co_X8_text : Cond.code yX8_text cX8_text 6 (some .int) ∈ wsG := inT4 (i := 188) rfl rfl
theorem im_X8_text : Cond.instanceMethod yX8_text ∈ wsG := inT4 (i := 186) rfl rfl
theorem se_X8_text : Cond.selects RX8 yX8_text yX8_text ∈ wsG := inT4 (i := 187) rfl rfl
theorem co_X8_noDay : Cond.code yX8_noDay cX8_noDay 1 (some .boolean) ∈ wsG := inT4 (i := 193) rfl rfl
theorem sm_X8_noDay : Cond.static yX8_noDay ∈ wsG := inT4 (i := 192) rfl rfl
theorem co_X8_counts : Cond.code yX8_counts cX8_counts 5 (some .int) ∈ wsG := inT4 (i := 198) rfl rfl
theorem im_X8_counts : Cond.instanceMethod yX8_counts ∈ wsG := inT4 (i := 196) rfl rfl
theorem se_X8_counts : Cond.selects RX8 yX8_counts yX8_counts ∈ wsG := inT4 (i := 197) rfl rfl
theorem co_X8_countsOf : Cond.code yX8_countsOf cX8_countsOf 8 (some .int) ∈ wsG := inT4 (i := 202) rfl rfl
theorem im_X8_countsOf : Cond.instanceMethod yX8_countsOf ∈ wsG := inT4 (i := 201) rfl rfl
theorem se_X8_countsOf : Cond.selects RX8 yX8_countsOf yX8_countsOf ∈ wsG := inS (i := 32) rfl rfl
theorem co_X8_may : Cond.code yX8_may cX8_may 4 (some .int) ∈ wsG := inT4 (i := 206) rfl rfl
theorem im_X8_may : Cond.instanceMethod yX8_may ∈ wsG := inT4 (i := 204) rfl rfl
theorem se_X8_may : Cond.selects RX8 yX8_may yX8_may ∈ wsG := inT4 (i := 205) rfl rfl
theorem co_X8_mayHear : Cond.code yX8_mayHear cX8_mayHear 7 (some .boolean) ∈ wsG := inT4 (i := 210) rfl rfl
theorem im_X8_mayHear : Cond.instanceMethod yX8_mayHear ∈ wsG := inT4 (i := 209) rfl rfl
theorem se_X8_mayHear : Cond.selects RX8 yX8_mayHear yX8_mayHear ∈ wsG := inS (i := 33) rfl rfl
theorem co_X8_heard : Cond.code yX8_heard cX8_heard 3 (some .int) ∈ wsG := inT4 (i := 214) rfl rfl
theorem im_X8_heard : Cond.instanceMethod yX8_heard ∈ wsG := inT4 (i := 212) rfl rfl
theorem se_X8_heard : Cond.selects RX8 yX8_heard yX8_heard ∈ wsG := inT4 (i := 213) rfl rfl
theorem co_X8_heardOf : Cond.code yX8_heardOf cX8_heardOf 5 (some .int) ∈ wsG := inT4 (i := 218) rfl rfl
theorem im_X8_heardOf : Cond.instanceMethod yX8_heardOf ∈ wsG := inT4 (i := 217) rfl rfl
theorem se_X8_heardOf : Cond.selects RX8 yX8_heardOf yX8_heardOf ∈ wsG := inS (i := 34) rfl rfl
theorem co_X8_days : Cond.code yX8_days cX8_days 9 (some .int) ∈ wsG := inT4 (i := 222) rfl rfl
theorem im_X8_days : Cond.instanceMethod yX8_days ∈ wsG := inT4 (i := 220) rfl rfl
theorem se_X8_days : Cond.selects RX8 yX8_days yX8_days ∈ wsG := inT4 (i := 221) rfl rfl
theorem co_X8_copy : Cond.code yX8_copy cX8_copy 4 (some .int) ∈ wsG := inT4 (i := 226) rfl rfl
theorem im_X8_copy : Cond.instanceMethod yX8_copy ∈ wsG := inT4 (i := 224) rfl rfl
theorem se_X8_copy : Cond.selects RX8 yX8_copy yX8_copy ∈ wsG := inT4 (i := 225) rfl rfl
theorem co_X8_stepsTo : Cond.code yX8_stepsTo cX8_stepsTo 5 (some .int) ∈ wsG := inT4 (i := 230) rfl rfl
theorem im_X8_stepsTo : Cond.instanceMethod yX8_stepsTo ∈ wsG := inT4 (i := 229) rfl rfl
theorem se_X8_stepsTo : Cond.selects RX8 yX8_stepsTo yX8_stepsTo ∈ wsG := inS (i := 35) rfl rfl
theorem co_X8_copies : Cond.code yX8_copies cX8_copies 4 (some .int) ∈ wsG := inT4 (i := 234) rfl rfl
theorem im_X8_copies : Cond.instanceMethod yX8_copies ∈ wsG := inT4 (i := 232) rfl rfl
theorem se_X8_copies : Cond.selects RX8 yX8_copies yX8_copies ∈ wsG := inT4 (i := 233) rfl rfl
theorem co_X8_clearest : Cond.code yX8_clearest cX8_clearest 6 (some .int) ∈ wsG := inT4 (i := 238) rfl rfl
theorem im_X8_clearest : Cond.instanceMethod yX8_clearest ∈ wsG := inT4 (i := 236) rfl rfl
theorem se_X8_clearest : Cond.selects RX8 yX8_clearest yX8_clearest ∈ wsG := inT4 (i := 237) rfl rfl
theorem co_X8_total : Cond.code yX8_total cX8_total 5 (some .int) ∈ wsG := inT5 (i := 2) rfl rfl
theorem im_X8_total : Cond.instanceMethod yX8_total ∈ wsG := inT5 (i := 0) rfl rfl
theorem se_X8_total : Cond.selects RX8 yX8_total yX8_total ∈ wsG := inT5 (i := 1) rfl rfl
end
section
/-! the layer of virtual worlds: keys, values, cells, worlds; a world is held by a heap through a map of keys to addresses -/
abbrev vk : Type := Nat × Nat
abbrev vv : Type := Int32 ⊕ (Int64 ⊕ vk)
abbrev vI (x : Int32) : vv := .inl x
abbrev vJ (x : Int64) : vv := .inr (.inl x)
abbrev vR (k : vk) : vv := .inr (.inr k)
def mv (al : vk → Nat) (v : vv) : Value := match v with
  | .inl x => .int x
  | .inr (.inl x) => .long x
  | .inr (.inr k) => .ref (al k)
def vcat (v : vv) : Nat := match v with
  | .inr (.inl _) => 2
  | _ => 1
theorem mv_cat (al : vk → Nat) (v : vv) : (mv al v).category = vcat v := by
  rcases v with x | x | k <;> rfl
abbrev vf : Type := Int32 ⊕ Option vk
def mf (al : vk → Nat) (v : vf) : Value := match v with
  | .inl x => .int x
  | .inr r => va_rf (r.map al)
abbrev vc : Type := (Nat × List vf) ⊕ (Nat × Nat × ((Nat → Int32) ⊕ (Nat → Option vk)))
def rc (ar : Nat → ClassId) (al : vk → Nat) (c : vc) : va_E := match c with
  | .inl o => .inr (o.1, o.2.map (mf al))
  | .inr (t, n, .inl f) => .inl (ar t, n, .inl f)
  | .inr (t, n, .inr f) => .inl (ar t, n, .inr (.inr (.inr (.inr (fun j => (f j).map al)))))
abbrev vw : Type := vk → Option vc
def vref (c : vc) (r : vk) : Prop := match c with
  | .inl o => Sum.inr (some r) ∈ o.2
  | .inr (_, _, .inl _) => False
  | .inr (_, _, .inr f) => ∃ j, f j = some r
abbrev vg : Type := va_G × (Nat → ClassId) × Nat
def Hol (G : vg) (al : vk → Nat) (w : vw) (H : Heap) : Prop :=
  (∀ k c, w k = some c → va_at G.1 vwCl (al k, rc G.2.1 al c) H) ∧ (∀ j k a b, w j = some a → w k = some b → al j = al k → j = k) ∧ (∀ k c, w k = some c → G.2.2 ≤ al k) ∧ (∀ k c r, w k = some c → vref c r → ∃ d, w r = some d)
def wup (w : vw) (k : vk) (c : vc) : vw := fun j => if j = k then some c else w j
theorem wup_s (w : vw) (k : vk) (c : vc) : wup w k c k = some c := by simp [wup]
theorem wup_n (w : vw) {k j : vk} (c : vc) (h : j ≠ k) : wup w k c j = w j := by simp [wup, h]
/-- a cell changes in place -/
theorem Hol.set {G : vg} {al : vk → Nat} {w : vw} {H H1 : Heap} {k : vk} {c0 c : vc} (h : Hol G al w H) (hk : w k = some c0) (he : va_at G.1 vwCl (al k, rc G.2.1 al c) H1) (oq : ∀ q : Nat, q ≠ al k → H1[q]? = H[q]?) (hr : ∀ r, vref c r → ∃ d, w r = some d) : Hol G al (wup w k c) H1 := by
  obtain ⟨h1, h2, h3, h4⟩ := h
  have dom : ∀ j a, wup w k c j = some a → ∃ b, w j = some b := fun j a hj => by
    by_cases e : j = k
    · subst e; exact ⟨_, hk⟩
    · rw [wup_n w c e] at hj; exact ⟨_, hj⟩
  have cod : ∀ j a, w j = some a → ∃ b, wup w k c j = some b := fun j a hj => by
    by_cases e : j = k
    · subst e; exact ⟨_, wup_s w j c⟩
    · exact ⟨_, (wup_n w c e).trans hj⟩
  refine ⟨fun j a hj => ?_, fun i j a b hi hj e => ?_, fun j a hj => ?_, fun j a r hj hv => ?_⟩
  · by_cases e : j = k
    · subst e
      rw [wup_s] at hj
      cases hj
      exact he
    · rw [wup_n w c e] at hj
      refine (h1 j a hj).kept (oq _ (fun q => e (h2 _ _ _ _ hj hk q)))
  · obtain ⟨a', ha⟩ := dom i a hi
    obtain ⟨b', hb⟩ := dom j b hj
    exact h2 _ _ _ _ ha hb e
  · obtain ⟨b', hb⟩ := dom j a hj
    exact h3 _ _ hb
  · by_cases e : j = k
    · subst e
      rw [wup_s] at hj
      cases hj
      obtain ⟨d, hd⟩ := hr r hv
      exact cod _ _ hd
    · rw [wup_n w c e] at hj
      obtain ⟨d, hd⟩ := h4 _ _ _ hj hv
      exact cod _ _ hd
def aup (al : vk → Nat) (k : vk) (q : Nat) : vk → Nat := fun j => if j = k then q else al j
theorem aup_s (al : vk → Nat) (k : vk) (q : Nat) : aup al k q k = q := by simp [aup]
theorem aup_n (al : vk → Nat) {k j : vk} (q : Nat) (h : j ≠ k) : aup al k q j = al j := by simp [aup, h]
theorem rc_aup {ar : Nat → ClassId} {al : vk → Nat} {k : vk} {q : Nat} {c : vc} (h : ∀ r, vref c r → r ≠ k) : rc ar (aup al k q) c = rc ar al c := by
  rcases c with ⟨ci, fs⟩ | ⟨t, n, f | f⟩
  · show Sum.inr (ci, fs.map (mf (aup al k q))) = Sum.inr (ci, fs.map (mf al))
    congr 2
    refine List.map_congr_left fun x hx => ?_
    rcases x with x | r
    · rfl
    · cases r with
      | none => rfl
      | some r => show va_rf (some (aup al k q r)) = va_rf (some (al r)); rw [aup_n al q (h r hx)]
  · rfl
  · refine congrArg (fun g => (Sum.inl (ar t, n, Sum.inr (Sum.inr (Sum.inr (Sum.inr g)))) : va_E)) (funext fun j => ?_)
    cases hj : f j with
    | none => rfl
    | some r => show some (aup al k q r) = some (al r); rw [aup_n al q (h r ⟨j, hj⟩)]
/-- a new cell -/
theorem Hol.push {G : vg} {al : vk → Nat} {w : vw} {H H1 : Heap} {k : vk} {c : vc} (h : Hol G al w H) (hk : w k = none) (hN : G.2.2 ≤ H.size) (he : va_at G.1 vwCl (H.size, rc G.2.1 al c) H1) (oq : ∀ q : Nat, q < H.size → H1[q]? = H[q]?) (hr : ∀ r, ¬ vref c r) : Hol G (aup al k H.size) (wup w k c) H1 := by
  obtain ⟨h1, h2, h3, h4⟩ := h
  have lt : ∀ j a, w j = some a → al j < H.size := fun j a hj => (h1 j a hj).lt
  have nk : ∀ j a, w j = some a → j ≠ k := fun j a hj e => by subst e; rw [hk] at hj; cases hj
  refine ⟨fun j a hj => ?_, fun i j a b hi hj e => ?_, fun j a hj => ?_, fun j a r hj hv => ?_⟩
  · by_cases e : j = k
    · subst e
      rw [wup_s] at hj
      cases hj
      rw [aup_s, rc_aup (fun r hv => absurd hv (hr r))]
      exact he
    · rw [wup_n w c e] at hj
      rw [aup_n al _ e, rc_aup (fun r hv => by obtain ⟨d, hd⟩ := h4 _ _ _ hj hv; exact nk _ _ hd)]
      exact (h1 j a hj).kept (oq _ (lt _ _ hj))
  · by_cases e1 : i = k <;> by_cases e2 : j = k
    · rw [e1, e2]
    · subst e1
      rw [wup_n w c e2] at hj
      rw [aup_s, aup_n al _ e2] at e
      exact absurd e (Nat.ne_of_gt (lt _ _ hj))
    · subst e2
      rw [wup_n w c e1] at hi
      rw [aup_s, aup_n al _ e1] at e
      exact absurd e (Nat.ne_of_lt (lt _ _ hi))
    · rw [wup_n w c e1] at hi
      rw [wup_n w c e2] at hj
      rw [aup_n al _ e1, aup_n al _ e2] at e
      exact h2 _ _ _ _ hi hj e
  · by_cases e : j = k
    · subst e; rw [aup_s]; exact hN
    · rw [wup_n w c e] at hj
      rw [aup_n al _ e]
      exact h3 _ _ hj
  · by_cases e : j = k
    · subst e
      rw [wup_s] at hj
      cases hj
      exact absurd hv (hr r)
    · rw [wup_n w c e] at hj
      obtain ⟨d, hd⟩ := h4 _ _ _ hj hv
      exact ⟨d, by rw [wup_n w c (nk _ _ hd)]; exact hd⟩
/-- the array classes: ints, booleans, Sides, Signs, Texts, rows of ints -/
abbrev vtys (ar : Nat → ClassId) : List (ClassId × FieldType) := [(ar 0, .int), (ar 1, .boolean), (ar 2, .object RX2), (ar 3, .object RX3), (ar 4, .object RX5), (ar 5, .array .int)]
def Kk (G : vg) (U : State) : Prop := va_K G.1 vwCl (vtys G.2.1) U ∧ va_Nw (.methodLinkNest RX1 52 yX7_holds RX7) U
theorem Kk.warm {G : vg} {s U : State} (h : Kk G s) (hW : s.WarmedH U.vm) : Kk G U := ⟨va_K.moved hW.alike h.1, va_Nw.warmM hW h.2⟩
/-- a method: name, code, its locals, what it answers, its room -/
abbrev vmt : Type := MethodName × ByteArray × Nat × Option FieldType × Room
def Sd (G : vg) (M : vmt) (p : Program) (s : State) (m : MethodId) (args : Array Value) (meth : Method) (c : Code) : Prop :=
  p.tables.exec = Jvm.exec ∧ c.code = M.2.1 ∧ meth.sig.returnType = M.2.2.2.1 ∧ c.maxLocals = M.2.2.1 ∧ s.vm.findClass M.1.cls = some m.cls ∧ (∀ w ∈ wsG, w.before args s = true) ∧ meth.locks = false ∧ meth.name = M.1.name ∧ Kk G s ∧ G.2.2 ≤ s.heap.size
def bA (o : Option vw) (al0 al : vk → Nat) : Prop := match o with
  | none => al = al0
  | some w0 => ∀ k c, w0 k = some c → al k = al0 k
theorem bA.rf (o : Option vw) (al : vk → Nat) : bA o al al := by
  cases o with
  | none => rfl
  | some w => exact fun _ _ _ => rfl
def Qp (G : vg) (o : Option vw) (al0 : vk → Nat) (r : Option Int32) (w' : vw) : Array Value → State → Outcome → State → Prop := match r with
  | none => va_Qv (fun u : vk → Nat => bA o al0 u) (fun u t => Hol G u w' t.heap) (fun q : Nat => G.2.2 ≤ q)
  | some x => va_Qi (fun y (u : vk → Nat) => y = x ∧ bA o al0 u) (fun u t => Hol G u w' t.heap) (fun q : Nat => G.2.2 ≤ q)
abbrev vls : Type := List (Nat × vv)
def ml (al : vk → Nat) (L : vls) : List (Nat × Value) := L.map (fun q => (q.1, mv al q.2))
def V {β : Type} (l : Launch) (G : vg) (M : vmt) (o : Option vw) (φ : β → Option Int32 × vw) (res : Option β) (pc : Nat) (L : vls) (st : List vv) (w : vw) (cs sl : Nat) : Prop :=
  ∀ (p : Program) (e : Env) (s : State) (m : MethodId) (args : Array Value) (below : List Frame) (meth : Method) (c : Code) (al0 al : vk → Nat) (H : Heap) (locs : List Loc) (ls : Array Slot),
    Sd G M p s m args meth c → bA o al0 al → Hol G al w H → va_S (fun q : Nat => G.2.2 ≤ q) s.heap H locs → lv_has ls M.2.2.1 (ml al L) → ∀ b : β, res = some b →
      W p l e M.2.2.2.2 s m args below meth c H locs cs sl (MQ below (Qp G o al0 (φ b).1 (φ b).2) args s M.2.2.2.2.cells M.2.2.2.2.slots (fun q : Nat => G.2.2 ≤ q)) (F0 m pc ls (st.map (mv al)))
def vws (M : vmt) : List Cond := Cond.code M.1 M.2.1 M.2.2.1 M.2.2.2.1 :: wsG
def Rt {β : Type} (l : Launch) (G : vg) (M : vmt) (o : Option vw) (φ : β → Option Int32 × vw) (vs : List vv) (w : vw) (res : Option β) : Prop :=
  ∀ (al0 : vk → Nat) (b : β), res = some b → Met l M.1 (vws M) M.2.2.2.2 (va_Pc (vs.map (mv al0)) (fun U => G.2.2 ≤ U.heap.size ∧ Hol G al0 w U.heap ∧ Kk G U)) (Qp G o al0 (φ b).1 (φ b).2) M.2.2.2.2.cells M.2.2.2.2.slots (fun q : Nat => G.2.2 ≤ q)
def lva : Nat → List vv → vls
  | _, [] => []
  | i, v :: vs => (i, v) :: lva (if vcat v = 2 then i + 2 else i + 1) vs
theorem lva_ml (al : vk → Nat) : ∀ (vs : List vv) (i : Nat), lv_args i (vs.map (mv al)) = ml al (lva i vs)
  | [], _ => rfl
  | v :: vs, i => by
    show (i, mv al v) :: lv_args (if (mv al v).category = 2 then i + 2 else i + 1) (vs.map (mv al)) = (i, mv al v) :: ml al (lva (if vcat v = 2 then i + 2 else i + 1) vs)
    rw [mv_cat, lva_ml al vs]
def lvw (vs : List vv) : Nat := (vs.map vcat).sum
theorem lvw_sl (al : vk → Nat) : ∀ vs : List vv, (lg_sl (vs.map (mv al))).length = lvw vs
  | [] => rfl
  | v :: vs => by
    have ih := lvw_sl al vs
    have hv := mv_cat al v
    simp only [lg_sl, List.map_cons, List.flatMap_cons, List.length_append, lvw, List.sum_cons] at ih ⊢
    rw [ih, hv]
    rcases v with x | x | k <;> rfl
set_option maxHeartbeats 1000000 in
/-- a contract out of a walk from the entry -/
theorem Rt.of {β : Type} {l : Launch} {G : vg} {M : vmt} {o : Option vw} {φ : β → Option Int32 × vw} {vs : List vv} {w : vw} {res : Option β} (hy : plainName M.1.cls = true) (hlen : lvw vs ≤ M.2.2.1) (h : V l G M o φ res 0 (lva 0 vs) [] w 0 0) : Rt l G M o φ vs w res := by
  intro al0 b hr
  refine Met.ofW (cc := M.2.1) (maxL := M.2.2.1) (ret := M.2.2.2.1) hy rfl ?_
  intro p e s m args below meth c s₁ B hml hv
  obtain ⟨rfl, hsz, hH, hK⟩ := hv
  have hts := atoms_spec (ws := vws M) B.pre
  have hown : s.vm.findClass M.1.cls = some m.cls := findClass_of_methodNamed B.named
  have hl := lv_entry (vs.map (mv al0)) (n := M.2.2.1) (by rw [lvw_sl]; exact hlen)
  rw [lg_entry_eq]
  rw [lva_ml] at hl
  exact h p e s m _ below meth c al0 al0 s.heap [] _ ⟨B.exec, B.bytes, B.returns, hml, hown, fun w hw => hts w (List.mem_cons_of_mem _ hw), B.notSynchronized, (name_of_methodNamed B.named B.method).1, hK, hsz⟩ (bA.rf o al0) hH va_S.rf hl b hr
end
section
section VRows
variable {l : Launch} {G : vg} {M : vmt} {o : Option vw} {β : Type} {φ : β → Option Int32 × vw} {res A B : Option β} {pc : Nat} {L : vls} {st : List vv} {w : vw} {cs sl : Nat}
theorem V.nil : V l G M o φ none pc L st w cs sl := fun _ _ _ _ _ _ _ _ _ _ _ _ _ _ _ _ _ _ _ h => by cases h
theorem V.eq (h : A = B) (k : V l G M o φ B pc L st w cs sl) : V l G M o φ A pc L st w cs sl := h ▸ k
/-- a check that must hold -/
def gd {α : Type} (b : Bool) (x : Option α) : Option α := if b = true then x else none
theorem gd_t {α : Type} {b : Bool} (h : b = true) (x : Option α) : gd b x = x := if_pos h
theorem gd_f {α : Type} {b : Bool} (h : ¬ b = true) (x : Option α) : gd b x = none := if_neg h
theorem V.chk {b : Bool} (k : b = true → V l G M o φ A pc L st w cs sl) : V l G M o φ (gd b A) pc L st w cs sl := by
  by_cases h : b = true
  · rw [gd_t h]; exact k h
  · rw [gd_f h]; exact V.nil
theorem ml_at {al : vk → Nat} {i : Nat} {v : vv} {ls : Array Slot} {n : Nat} (hl : lv_has ls n (ml al L)) (k : Nat) (h : L[k]? = some (i, v)) : ls[i]? = some (.val (mv al v)) :=
  lv_at hl k (by unfold ml; rw [List.getElem?_map, h]; rfl)

theorem V.iconst {n : Int} {v : Int32} (hd : decode M.2.1 pc = .ok (.iconst n, 1)) (hv : Int32.ofInt n = v) (k : V l G M o φ res (pc + 1) L (vI v :: st) w cs sl) : V l G M o φ res pc L (st) w cs sl := by
  intro p e s m args below meth c al0 al H locs ls S hB hH hS hl b hr
  exact lv_iconst S.1 S.2.1 hd hv (k p e s m args below meth c al0 al H locs ls S hB hH hS hl b hr)

theorem V.bipush {n : Int} {v : Int32} (hd : decode M.2.1 pc = .ok (.bipush n, 2)) (hv : (Int8.ofInt n).toInt32 = v) (k : V l G M o φ res (pc + 2) L (vI v :: st) w cs sl) : V l G M o φ res pc L (st) w cs sl := by
  intro p e s m args below meth c al0 al H locs ls S hB hH hS hl b hr
  exact lv_bipush S.1 S.2.1 hd hv (k p e s m args below meth c al0 al H locs ls S hB hH hS hl b hr)

theorem V.sipush {n : Int} {v : Int32} (hd : decode M.2.1 pc = .ok (.sipush n, 3)) (hv : (Int16.ofInt n).toInt32 = v) (k : V l G M o φ res (pc + 3) L (vI v :: st) w cs sl) : V l G M o φ res pc L (st) w cs sl := by
  intro p e s m args below meth c al0 al H locs ls S hB hH hS hl b hr
  exact lv_sipush S.1 S.2.1 hd hv (k p e s m args below meth c al0 al H locs ls S hB hH hS hl b hr)

theorem V.lconst {n : Fin 2} {v : Int64} (hd : decode M.2.1 pc = .ok (.lconst n, 1)) (hv : Int64.ofNat (n : Nat) = v) (k : V l G M o φ res (pc + 1) L (vJ v :: st) w cs sl) : V l G M o φ res pc L (st) w cs sl := by
  intro p e s m args below meth c al0 al H locs ls S hB hH hS hl b hr
  exact lv_lconst S.1 S.2.1 hd hv (k p e s m args below meth c al0 al H locs ls S hB hH hS hl b hr)

theorem V.ldc {i : Nat} {v : Int32} (hd : decode M.2.1 pc = .ok (.ldc i, 2)) (hv : Cond.constant M.1.cls i v ∈ wsG) (k : V l G M o φ res (pc + 2) L (vI v :: st) w cs sl) : V l G M o φ res pc L (st) w cs sl := by
  intro p e s m args below meth c al0 al H locs ls S hB hH hS hl b hr
  exact lv_ldc S.1 S.2.1 S.2.2.2.2.1 (S.2.2.2.2.2.1 _ hv) hd (k p e s m args below meth c al0 al H locs ls S hB hH hS hl b hr)

theorem V.ldcw {i : Nat} {v : Int32} (hd : decode M.2.1 pc = .ok (.ldc_w i, 3)) (hv : Cond.constant M.1.cls i v ∈ wsG) (k : V l G M o φ res (pc + 3) L (vI v :: st) w cs sl) : V l G M o φ res pc L (st) w cs sl := by
  intro p e s m args below meth c al0 al H locs ls S hB hH hS hl b hr
  exact lv_ldcw S.1 S.2.1 S.2.2.2.2.1 (S.2.2.2.2.2.1 _ hv) hd (k p e s m args below meth c al0 al H locs ls S hB hH hS hl b hr)

theorem V.ldc2 {i : Nat} {v : Int64} (hd : decode M.2.1 pc = .ok (.ldc2_w i, 3)) (hv : Cond.constantLong M.1.cls i v ∈ wsG) (k : V l G M o φ res (pc + 3) L (vJ v :: st) w cs sl) : V l G M o φ res pc L (st) w cs sl := by
  intro p e s m args below meth c al0 al H locs ls S hB hH hS hl b hr
  exact lv_ldc2 S.1 S.2.1 S.2.2.2.2.1 (S.2.2.2.2.2.1 _ hv) hd (k p e s m args below meth c al0 al H locs ls S hB hH hS hl b hr)

theorem V.iload_n {i : Fin 4} {x : Int32} (hd : decode M.2.1 pc = .ok (.iload_n i, 1)) (q : Nat) (hl2 : L[q]? = some ((i : Nat), vI x)) (k : V l G M o φ res (pc + 1) L (vI x :: st) w cs sl) : V l G M o φ res pc L (st) w cs sl := by
  intro p e s m args below meth c al0 al H locs ls S hB hH hS hl b hr
  exact lv_iload_n S.1 S.2.1 hd rfl (ml_at hl q hl2) (k p e s m args below meth c al0 al H locs ls S hB hH hS hl b hr)

theorem V.lload_n {i : Fin 4} {x : Int64} (hd : decode M.2.1 pc = .ok (.lload_n i, 1)) (q : Nat) (hl2 : L[q]? = some ((i : Nat), vJ x)) (k : V l G M o φ res (pc + 1) L (vJ x :: st) w cs sl) : V l G M o φ res pc L (st) w cs sl := by
  intro p e s m args below meth c al0 al H locs ls S hB hH hS hl b hr
  exact lv_lload_n S.1 S.2.1 hd rfl (ml_at hl q hl2) (k p e s m args below meth c al0 al H locs ls S hB hH hS hl b hr)

theorem V.aload_n {i : Fin 4} {x : vk} (hd : decode M.2.1 pc = .ok (.aload_n i, 1)) (q : Nat) (hl2 : L[q]? = some ((i : Nat), vR x)) (k : V l G M o φ res (pc + 1) L (vR x :: st) w cs sl) : V l G M o φ res pc L (st) w cs sl := by
  intro p e s m args below meth c al0 al H locs ls S hB hH hS hl b hr
  exact lv_aload_n S.1 S.2.1 hd rfl (ml_at hl q hl2) (k p e s m args below meth c al0 al H locs ls S hB hH hS hl b hr)

theorem V.iload {i : Nat} {x : Int32} (hd : decode M.2.1 pc = .ok (.iload i, 2)) (q : Nat) (hl2 : L[q]? = some (i, vI x)) (k : V l G M o φ res (pc + 2) L (vI x :: st) w cs sl) : V l G M o φ res pc L (st) w cs sl := by
  intro p e s m args below meth c al0 al H locs ls S hB hH hS hl b hr
  exact lv_iload S.1 S.2.1 hd (ml_at hl q hl2) (k p e s m args below meth c al0 al H locs ls S hB hH hS hl b hr)

theorem V.lload {i : Nat} {x : Int64} (hd : decode M.2.1 pc = .ok (.lload i, 2)) (q : Nat) (hl2 : L[q]? = some (i, vJ x)) (k : V l G M o φ res (pc + 2) L (vJ x :: st) w cs sl) : V l G M o φ res pc L (st) w cs sl := by
  intro p e s m args below meth c al0 al H locs ls S hB hH hS hl b hr
  exact lv_lload S.1 S.2.1 hd (ml_at hl q hl2) (k p e s m args below meth c al0 al H locs ls S hB hH hS hl b hr)

theorem V.aload {i : Nat} {x : vk} (hd : decode M.2.1 pc = .ok (.aload i, 2)) (q : Nat) (hl2 : L[q]? = some (i, vR x)) (k : V l G M o φ res (pc + 2) L (vR x :: st) w cs sl) : V l G M o φ res pc L (st) w cs sl := by
  intro p e s m args below meth c al0 al H locs ls S hB hH hS hl b hr
  exact lv_aload S.1 S.2.1 hd (ml_at hl q hl2) (k p e s m args below meth c al0 al H locs ls S hB hH hS hl b hr)

theorem V.iadd {x y : Int32} (hd : decode M.2.1 pc = .ok (.iadd, 1)) (k : V l G M o φ res (pc + 1) L (vI (x + y) :: st) w cs sl) : V l G M o φ res pc L (vI y :: vI x :: st) w cs sl := by
  intro p e s m args below meth c al0 al H locs ls S hB hH hS hl b hr
  exact lv_iadd S.1 S.2.1 hd (k p e s m args below meth c al0 al H locs ls S hB hH hS hl b hr)

theorem V.isub {x y : Int32} (hd : decode M.2.1 pc = .ok (.isub, 1)) (k : V l G M o φ res (pc + 1) L (vI (x - y) :: st) w cs sl) : V l G M o φ res pc L (vI y :: vI x :: st) w cs sl := by
  intro p e s m args below meth c al0 al H locs ls S hB hH hS hl b hr
  exact lv_isub S.1 S.2.1 hd (k p e s m args below meth c al0 al H locs ls S hB hH hS hl b hr)

theorem V.imul {x y : Int32} (hd : decode M.2.1 pc = .ok (.imul, 1)) (k : V l G M o φ res (pc + 1) L (vI (x * y) :: st) w cs sl) : V l G M o φ res pc L (vI y :: vI x :: st) w cs sl := by
  intro p e s m args below meth c al0 al H locs ls S hB hH hS hl b hr
  exact lv_imul S.1 S.2.1 hd (k p e s m args below meth c al0 al H locs ls S hB hH hS hl b hr)

theorem V.iand {x y : Int32} (hd : decode M.2.1 pc = .ok (.iand, 1)) (k : V l G M o φ res (pc + 1) L (vI (x &&& y) :: st) w cs sl) : V l G M o φ res pc L (vI y :: vI x :: st) w cs sl := by
  intro p e s m args below meth c al0 al H locs ls S hB hH hS hl b hr
  exact lv_iand S.1 S.2.1 hd (k p e s m args below meth c al0 al H locs ls S hB hH hS hl b hr)

theorem V.ior {x y : Int32} (hd : decode M.2.1 pc = .ok (.ior, 1)) (k : V l G M o φ res (pc + 1) L (vI (x ||| y) :: st) w cs sl) : V l G M o φ res pc L (vI y :: vI x :: st) w cs sl := by
  intro p e s m args below meth c al0 al H locs ls S hB hH hS hl b hr
  exact lv_ior S.1 S.2.1 hd (k p e s m args below meth c al0 al H locs ls S hB hH hS hl b hr)

theorem V.ixor {x y : Int32} (hd : decode M.2.1 pc = .ok (.ixor, 1)) (k : V l G M o φ res (pc + 1) L (vI (x ^^^ y) :: st) w cs sl) : V l G M o φ res pc L (vI y :: vI x :: st) w cs sl := by
  intro p e s m args below meth c al0 al H locs ls S hB hH hS hl b hr
  exact lv_ixor S.1 S.2.1 hd (k p e s m args below meth c al0 al H locs ls S hB hH hS hl b hr)

theorem V.ishl {x y : Int32} (hd : decode M.2.1 pc = .ok (.ishl, 1)) (k : V l G M o φ res (pc + 1) L (vI (x <<< (y &&& 31)) :: st) w cs sl) : V l G M o φ res pc L (vI y :: vI x :: st) w cs sl := by
  intro p e s m args below meth c al0 al H locs ls S hB hH hS hl b hr
  exact lv_ishl S.1 S.2.1 hd (k p e s m args below meth c al0 al H locs ls S hB hH hS hl b hr)

theorem V.ishr {x y : Int32} (hd : decode M.2.1 pc = .ok (.ishr, 1)) (k : V l G M o φ res (pc + 1) L (vI (x >>> (y &&& 31)) :: st) w cs sl) : V l G M o φ res pc L (vI y :: vI x :: st) w cs sl := by
  intro p e s m args below meth c al0 al H locs ls S hB hH hS hl b hr
  exact lv_ishr S.1 S.2.1 hd (k p e s m args below meth c al0 al H locs ls S hB hH hS hl b hr)

theorem V.iushr {x y : Int32} (hd : decode M.2.1 pc = .ok (.iushr, 1)) (k : V l G M o φ res (pc + 1) L (vI ((x.toUInt32 >>> (y.toUInt32 &&& Int32.toUInt32 31)).toInt32) :: st) w cs sl) : V l G M o φ res pc L (vI y :: vI x :: st) w cs sl := by
  intro p e s m args below meth c al0 al H locs ls S hB hH hS hl b hr
  exact lv_iushr S.1 S.2.1 hd rfl (k p e s m args below meth c al0 al H locs ls S hB hH hS hl b hr)

theorem V.idiv {x y : Int32} (hd : decode M.2.1 pc = .ok (.idiv, 1)) (hy : ¬ y = 0) (k : V l G M o φ res (pc + 1) L (vI (x / y) :: st) w cs sl) : V l G M o φ res pc L (vI y :: vI x :: st) w cs sl := by
  intro p e s m args below meth c al0 al H locs ls S hB hH hS hl b hr
  exact lv_idiv S.1 S.2.1 hd hy (k p e s m args below meth c al0 al H locs ls S hB hH hS hl b hr)

theorem V.irem {x y : Int32} (hd : decode M.2.1 pc = .ok (.irem, 1)) (hy : ¬ y = 0) (k : V l G M o φ res (pc + 1) L (vI (x - x / y * y) :: st) w cs sl) : V l G M o φ res pc L (vI y :: vI x :: st) w cs sl := by
  intro p e s m args below meth c al0 al H locs ls S hB hH hS hl b hr
  exact lv_irem S.1 S.2.1 hd hy (k p e s m args below meth c al0 al H locs ls S hB hH hS hl b hr)

theorem V.ineg {x : Int32} (hd : decode M.2.1 pc = .ok (.ineg, 1)) (k : V l G M o φ res (pc + 1) L (vI (-x) :: st) w cs sl) : V l G M o φ res pc L (vI x :: st) w cs sl := by
  intro p e s m args below meth c al0 al H locs ls S hB hH hS hl b hr
  exact lv_ineg S.1 S.2.1 hd (k p e s m args below meth c al0 al H locs ls S hB hH hS hl b hr)

theorem V.i2l {x : Int32} (hd : decode M.2.1 pc = .ok (.i2l, 1)) (k : V l G M o φ res (pc + 1) L (vJ x.toInt64 :: st) w cs sl) : V l G M o φ res pc L (vI x :: st) w cs sl := by
  intro p e s m args below meth c al0 al H locs ls S hB hH hS hl b hr
  exact lv_i2l S.1 S.2.1 hd rfl (k p e s m args below meth c al0 al H locs ls S hB hH hS hl b hr)

theorem V.lcmp {x y : Int64} (hd : decode M.2.1 pc = .ok (.lcmp, 1)) (k : V l G M o φ res (pc + 1) L (vI (lg_cmp x y) :: st) w cs sl) : V l G M o φ res pc L (vJ y :: vJ x :: st) w cs sl := by
  intro p e s m args below meth c al0 al H locs ls S hB hH hS hl b hr
  exact W.lcmp S.1 S.2.1 hd (k p e s m args below meth c al0 al H locs ls S hB hH hS hl b hr)

theorem V.dup {v : vv} (hd : decode M.2.1 pc = .ok (.dup, 1)) (hv : vcat v = 1) (k : V l G M o φ res (pc + 1) L (v :: v :: st) w cs sl) : V l G M o φ res pc L (v :: st) w cs sl := by
  intro p e s m args below meth c al0 al H locs ls S hB hH hS hl b hr
  exact lv_dup S.1 S.2.1 hd (by rw [mv_cat]; exact hv) (k p e s m args below meth c al0 al H locs ls S hB hH hS hl b hr)

theorem V.dup2 {u v : vv} (hd : decode M.2.1 pc = .ok (.dup2, 1)) (hu : vcat u = 1) (hv : vcat v = 1) (k : V l G M o φ res (pc + 1) L (u :: v :: u :: v :: st) w cs sl) : V l G M o φ res pc L (u :: v :: st) w cs sl := by
  intro p e s m args below meth c al0 al H locs ls S hB hH hS hl b hr
  exact lv_dup2_11 S.1 S.2.1 hd (by rw [mv_cat]; exact hu) (by rw [mv_cat]; exact hv) (k p e s m args below meth c al0 al H locs ls S hB hH hS hl b hr)

theorem V.goto {off : Int} (tgt : Nat) (hd : decode M.2.1 pc = .ok (.goto off, 3)) (ht : (pc : Int) + off = (tgt : Int)) (k : V l G M o φ res tgt L st w cs sl) : V l G M o φ res pc L st w cs sl := by
  intro p e s m args below meth c al0 al H locs ls S hB hH hS hl b hr
  exact lv_goto S.1 S.2.1 hd ht (k p e s m args below meth c al0 al H locs ls S hB hH hS hl b hr)

theorem vres_t {c : Prop} [Decidable c] {a : β} (h : c) (e : (if c then A else B) = some a) : A = some a := (if_pos h).symm.trans e
theorem vres_f {c : Prop} [Decidable c] {a : β} (h : ¬ c) (e : (if c then A else B) = some a) : B = some a := (if_neg h).symm.trans e

theorem V.icmp_eq {x y : Int32} {off : Int} (tgt : Nat) (hd : decode M.2.1 pc = .ok (.if_icmp .eq off, 3)) (ht : (pc : Int) + off = (tgt : Int)) (kt : V l G M o φ A tgt L st w cs sl) (kf : V l G M o φ B (pc + 3) L st w cs sl) : V l G M o φ (if x = y then A else B) pc L (vI y :: vI x :: st) w cs sl := by
  intro p e s m args below meth c al0 al H locs ls S hB hH hS hl b hr
  exact lv_icmp_eq S.1 S.2.1 hd ht (fun h => (kt p e s m args below meth c al0 al H locs ls S hB hH hS hl b (vres_t h hr))) (fun h => (kf p e s m args below meth c al0 al H locs ls S hB hH hS hl b (vres_f h hr)))

theorem V.if_eq {x : Int32} {off : Int} (tgt : Nat) (hd : decode M.2.1 pc = .ok (.ifCond .eq off, 3)) (ht : (pc : Int) + off = (tgt : Int)) (kt : V l G M o φ A tgt L st w cs sl) (kf : V l G M o φ B (pc + 3) L st w cs sl) : V l G M o φ (if x = 0 then A else B) pc L (vI x :: st) w cs sl := by
  intro p e s m args below meth c al0 al H locs ls S hB hH hS hl b hr
  exact lv_if_eq S.1 S.2.1 hd ht (fun h => (kt p e s m args below meth c al0 al H locs ls S hB hH hS hl b (vres_t h hr))) (fun h => (kf p e s m args below meth c al0 al H locs ls S hB hH hS hl b (vres_f h hr)))

theorem V.icmp_ne {x y : Int32} {off : Int} (tgt : Nat) (hd : decode M.2.1 pc = .ok (.if_icmp .ne off, 3)) (ht : (pc : Int) + off = (tgt : Int)) (kt : V l G M o φ A tgt L st w cs sl) (kf : V l G M o φ B (pc + 3) L st w cs sl) : V l G M o φ (if x = y then B else A) pc L (vI y :: vI x :: st) w cs sl := by
  intro p e s m args below meth c al0 al H locs ls S hB hH hS hl b hr
  exact lv_icmp_ne S.1 S.2.1 hd ht (fun h => (kt p e s m args below meth c al0 al H locs ls S hB hH hS hl b (vres_f h hr))) (fun h => (kf p e s m args below meth c al0 al H locs ls S hB hH hS hl b (vres_t h hr)))

theorem V.if_ne {x : Int32} {off : Int} (tgt : Nat) (hd : decode M.2.1 pc = .ok (.ifCond .ne off, 3)) (ht : (pc : Int) + off = (tgt : Int)) (kt : V l G M o φ A tgt L st w cs sl) (kf : V l G M o φ B (pc + 3) L st w cs sl) : V l G M o φ (if x = 0 then B else A) pc L (vI x :: st) w cs sl := by
  intro p e s m args below meth c al0 al H locs ls S hB hH hS hl b hr
  exact lv_if_ne S.1 S.2.1 hd ht (fun h => (kt p e s m args below meth c al0 al H locs ls S hB hH hS hl b (vres_f h hr))) (fun h => (kf p e s m args below meth c al0 al H locs ls S hB hH hS hl b (vres_t h hr)))

theorem V.icmp_lt {x y : Int32} {off : Int} (tgt : Nat) (hd : decode M.2.1 pc = .ok (.if_icmp .lt off, 3)) (ht : (pc : Int) + off = (tgt : Int)) (kt : V l G M o φ A tgt L st w cs sl) (kf : V l G M o φ B (pc + 3) L st w cs sl) : V l G M o φ (if x < y then A else B) pc L (vI y :: vI x :: st) w cs sl := by
  intro p e s m args below meth c al0 al H locs ls S hB hH hS hl b hr
  exact lv_icmp_lt S.1 S.2.1 hd ht (fun h => (kt p e s m args below meth c al0 al H locs ls S hB hH hS hl b (vres_t h hr))) (fun h => (kf p e s m args below meth c al0 al H locs ls S hB hH hS hl b (vres_f h hr)))

theorem V.if_lt {x : Int32} {off : Int} (tgt : Nat) (hd : decode M.2.1 pc = .ok (.ifCond .lt off, 3)) (ht : (pc : Int) + off = (tgt : Int)) (kt : V l G M o φ A tgt L st w cs sl) (kf : V l G M o φ B (pc + 3) L st w cs sl) : V l G M o φ (if x < 0 then A else B) pc L (vI x :: st) w cs sl := by
  intro p e s m args below meth c al0 al H locs ls S hB hH hS hl b hr
  exact lv_if_lt S.1 S.2.1 hd ht (fun h => (kt p e s m args below meth c al0 al H locs ls S hB hH hS hl b (vres_t h hr))) (fun h => (kf p e s m args below meth c al0 al H locs ls S hB hH hS hl b (vres_f h hr)))

theorem V.icmp_ge {x y : Int32} {off : Int} (tgt : Nat) (hd : decode M.2.1 pc = .ok (.if_icmp .ge off, 3)) (ht : (pc : Int) + off = (tgt : Int)) (kt : V l G M o φ A tgt L st w cs sl) (kf : V l G M o φ B (pc + 3) L st w cs sl) : V l G M o φ (if y ≤ x then A else B) pc L (vI y :: vI x :: st) w cs sl := by
  intro p e s m args below meth c al0 al H locs ls S hB hH hS hl b hr
  exact lv_icmp_ge S.1 S.2.1 hd ht (fun h => (kt p e s m args below meth c al0 al H locs ls S hB hH hS hl b (vres_t h hr))) (fun h => (kf p e s m args below meth c al0 al H locs ls S hB hH hS hl b (vres_f h hr)))

theorem V.if_ge {x : Int32} {off : Int} (tgt : Nat) (hd : decode M.2.1 pc = .ok (.ifCond .ge off, 3)) (ht : (pc : Int) + off = (tgt : Int)) (kt : V l G M o φ A tgt L st w cs sl) (kf : V l G M o φ B (pc + 3) L st w cs sl) : V l G M o φ (if 0 ≤ x then A else B) pc L (vI x :: st) w cs sl := by
  intro p e s m args below meth c al0 al H locs ls S hB hH hS hl b hr
  exact lv_if_ge S.1 S.2.1 hd ht (fun h => (kt p e s m args below meth c al0 al H locs ls S hB hH hS hl b (vres_t h hr))) (fun h => (kf p e s m args below meth c al0 al H locs ls S hB hH hS hl b (vres_f h hr)))

theorem V.icmp_gt {x y : Int32} {off : Int} (tgt : Nat) (hd : decode M.2.1 pc = .ok (.if_icmp .gt off, 3)) (ht : (pc : Int) + off = (tgt : Int)) (kt : V l G M o φ A tgt L st w cs sl) (kf : V l G M o φ B (pc + 3) L st w cs sl) : V l G M o φ (if y < x then A else B) pc L (vI y :: vI x :: st) w cs sl := by
  intro p e s m args below meth c al0 al H locs ls S hB hH hS hl b hr
  exact lv_icmp_gt S.1 S.2.1 hd ht (fun h => (kt p e s m args below meth c al0 al H locs ls S hB hH hS hl b (vres_t h hr))) (fun h => (kf p e s m args below meth c al0 al H locs ls S hB hH hS hl b (vres_f h hr)))

theorem V.if_gt {x : Int32} {off : Int} (tgt : Nat) (hd : decode M.2.1 pc = .ok (.ifCond .gt off, 3)) (ht : (pc : Int) + off = (tgt : Int)) (kt : V l G M o φ A tgt L st w cs sl) (kf : V l G M o φ B (pc + 3) L st w cs sl) : V l G M o φ (if 0 < x then A else B) pc L (vI x :: st) w cs sl := by
  intro p e s m args below meth c al0 al H locs ls S hB hH hS hl b hr
  exact lv_if_gt S.1 S.2.1 hd ht (fun h => (kt p e s m args below meth c al0 al H locs ls S hB hH hS hl b (vres_t h hr))) (fun h => (kf p e s m args below meth c al0 al H locs ls S hB hH hS hl b (vres_f h hr)))

theorem V.icmp_le {x y : Int32} {off : Int} (tgt : Nat) (hd : decode M.2.1 pc = .ok (.if_icmp .le off, 3)) (ht : (pc : Int) + off = (tgt : Int)) (kt : V l G M o φ A tgt L st w cs sl) (kf : V l G M o φ B (pc + 3) L st w cs sl) : V l G M o φ (if x ≤ y then A else B) pc L (vI y :: vI x :: st) w cs sl := by
  intro p e s m args below meth c al0 al H locs ls S hB hH hS hl b hr
  exact lv_icmp_le S.1 S.2.1 hd ht (fun h => (kt p e s m args below meth c al0 al H locs ls S hB hH hS hl b (vres_t h hr))) (fun h => (kf p e s m args below meth c al0 al H locs ls S hB hH hS hl b (vres_f h hr)))

theorem V.if_le {x : Int32} {off : Int} (tgt : Nat) (hd : decode M.2.1 pc = .ok (.ifCond .le off, 3)) (ht : (pc : Int) + off = (tgt : Int)) (kt : V l G M o φ A tgt L st w cs sl) (kf : V l G M o φ B (pc + 3) L st w cs sl) : V l G M o φ (if x ≤ 0 then A else B) pc L (vI x :: st) w cs sl := by
  intro p e s m args below meth c al0 al H locs ls S hB hH hS hl b hr
  exact lv_if_le S.1 S.2.1 hd ht (fun h => (kt p e s m args below meth c al0 al H locs ls S hB hH hS hl b (vres_t h hr))) (fun h => (kf p e s m args below meth c al0 al H locs ls S hB hH hS hl b (vres_f h hr)))

/-- a local is set: the first entry of that place is changed, later ones of that place fall; a new one comes last -/
def lst : vls → Nat → vv → vls
  | [], i, v => [(i, v)]
  | (j, u) :: t, i, v => if j = i then (i, v) :: t.filter (fun q => !(q.1 == i)) else (j, u) :: lst t i v
theorem lst_mem : ∀ (L : vls) (i : Nat) (v : vv) (q : Nat × vv), q ∈ lst L i v → q = (i, v) ∨ (q ∈ L ∧ q.1 ≠ i)
  | [], i, v, q, h => Or.inl (List.mem_singleton.mp h)
  | (j, u) :: t, i, v, q, h => by
    by_cases e : j = i
    · rw [lst, if_pos e] at h
      rcases List.mem_cons.mp h with h | h
      · exact Or.inl h
      · obtain ⟨h1, h2⟩ := List.mem_filter.mp h
        exact Or.inr ⟨List.mem_cons_of_mem _ h1, by simpa using h2⟩
    · rw [lst, if_neg e] at h
      rcases List.mem_cons.mp h with h | h
      · subst h
        exact Or.inr ⟨List.mem_cons_self, e⟩
      · rcases lst_mem t i v q h with h | ⟨h1, h2⟩
        · exact Or.inl h
        · exact Or.inr ⟨List.mem_cons_of_mem _ h1, h2⟩
def nol (L : vls) : Bool := L.all (fun q => vcat q.2 == 1)
theorem lst_ml {al : vk → Nat} {i : Nat} {v : vv} {ls : Array Slot} {n : Nat} (hn : nol L = true) (h : lv_has ls n ((i, mv al v) :: (ml al L).filter (fun q => !(q.1 == i) && !(q.1 + 1 == i && q.2.category == 2)))) : lv_has ls n (ml al (lst L i v)) := by
  refine ⟨h.1, h.2.1, fun q hq => h.2.2 q ?_⟩
  obtain ⟨x, hx, rfl⟩ := List.mem_map.mp hq
  rcases lst_mem L i v x hx with rfl | ⟨h1, h2⟩
  · exact List.mem_cons_self
  · refine List.mem_cons_of_mem _ (List.mem_filter.mpr ⟨List.mem_map.mpr ⟨x, h1, rfl⟩, ?_⟩)
    have hc : vcat x.2 = 1 := by have := List.all_eq_true.mp hn x h1; simpa using this
    have hm : (mv al x.2).category = 1 := (mv_cat al x.2).trans hc
    simp [h2, hm]

theorem V.istore {i : Nat} {x : Int32} {L' : vls} (hd : decode M.2.1 pc = .ok (.istore i, 2)) (hi : i < M.2.2.1) (hn : nol L = true) (hL : lst L i (vI x) = L') (k : V l G M o φ res (pc + 2) L' st w cs sl) : V l G M o φ res pc L (vI x :: st) w cs sl := by
  subst hL
  intro p e s m args below meth c al0 al H locs ls S hB hH hS hl b hr
  exact lv_istore S.1 S.2.1 hd hl hi rfl (fun ls' h' => k p e s m args below meth c al0 al H locs ls' S hB hH hS (lst_ml hn (v := vI x) h') b hr)

theorem V.istore_n {i : Fin 4} {x : Int32} {L' : vls} (hd : decode M.2.1 pc = .ok (.istore_n i, 1)) (hi : (i : Nat) < M.2.2.1) (hn : nol L = true) (hL : lst L (i : Nat) (vI x) = L') (k : V l G M o φ res (pc + 1) L' st w cs sl) : V l G M o φ res pc L (vI x :: st) w cs sl := by
  subst hL
  intro p e s m args below meth c al0 al H locs ls S hB hH hS hl b hr
  exact lv_istore_n S.1 S.2.1 hd rfl hl hi rfl (fun ls' h' => k p e s m args below meth c al0 al H locs ls' S hB hH hS (lst_ml hn (v := vI x) h') b hr)

theorem V.astore {i : Nat} {x : vk} {L' : vls} (hd : decode M.2.1 pc = .ok (.astore i, 2)) (hi : i < M.2.2.1) (hn : nol L = true) (hL : lst L i (vR x) = L') (k : V l G M o φ res (pc + 2) L' st w cs sl) : V l G M o φ res pc L (vR x :: st) w cs sl := by
  subst hL
  intro p e s m args below meth c al0 al H locs ls S hB hH hS hl b hr
  exact lv_astore S.1 S.2.1 hd hl hi rfl (fun ls' h' => k p e s m args below meth c al0 al H locs ls' S hB hH hS (lst_ml hn (v := vR x) h') b hr)

theorem V.astore_n {i : Fin 4} {x : vk} {L' : vls} (hd : decode M.2.1 pc = .ok (.astore_n i, 1)) (hi : (i : Nat) < M.2.2.1) (hn : nol L = true) (hL : lst L (i : Nat) (vR x) = L') (k : V l G M o φ res (pc + 1) L' st w cs sl) : V l G M o φ res pc L (vR x :: st) w cs sl := by
  subst hL
  intro p e s m args below meth c al0 al H locs ls S hB hH hS hl b hr
  exact lv_astore_n S.1 S.2.1 hd rfl hl hi rfl (fun ls' h' => k p e s m args below meth c al0 al H locs ls' S hB hH hS (lst_ml hn (v := vR x) h') b hr)

theorem V.iinc {i : Nat} {n : Int} {x v : Int32} {L' : vls} (hd : decode M.2.1 pc = .ok (.iinc i n, 3)) (q : Nat) (hq : L[q]? = some (i, vI x)) (hv : x + Int32.ofInt n = v) (hi : i < M.2.2.1) (hn : nol L = true) (hL : lst L i (vI v) = L') (k : V l G M o φ res (pc + 3) L' st w cs sl) : V l G M o φ res pc L st w cs sl := by
  subst hL
  subst hv
  intro p e s m args below meth c al0 al H locs ls S hB hH hS hl b hr
  exact lv_iinc S.1 S.2.1 hd hl (k := q) (by unfold ml; rw [List.getElem?_map, hq]; rfl) rfl hi rfl (fun ls' h' => k p e s m args below meth c al0 al H locs ls' S hB hH hS (lst_ml hn (v := vI (x + Int32.ofInt n)) h') b hr)

end VRows
end
section
section VHeap
variable {l : Launch} {G : vg} {M : vmt} {o : Option vw} {β : Type} {φ : β → Option Int32 × vw} {res A B : Option β} {pc : Nat} {L : vls} {st : List vv} {w : vw} {cs sl : Nat}
theorem va_P1 {D : va_G} {cl : List vw_C} {q : Nat × va_E} {H : Heap} (h : va_at D cl q H) : va_P D cl [q] H := fun i x hi => by
  cases i with
  | zero => cases hi; exact h
  | succ n => simp at hi
/-- a field's link: entry idx of class own is the field j of the class ci -/
def gfl (own : String) (idx ci j : Nat) : Prop := ∃ (C : String) (T : u_T) (N : Nat), vwCl[ci]? = some (C, T, N) ∧ j < N ∧ (∀ w ∈ u_ws C T N, w ∈ wsG) ∧ Cond.fieldLink own idx (T j).1 (T j).2.1 (T j).2.2.1 ∈ wsG
theorem V.getI {k : vk} {idx : Nat} (ci j : Nat) {fs : List vf} {x : Int32} (hd : decode M.2.1 pc = .ok (.getfield idx, 3)) (hg : gfl M.1.cls idx ci j) (hw : w k = some (.inl (ci, fs))) (hf : fs[j]? = some (.inl x)) (kk : V l G M o φ res (pc + 3) L (vI x :: st) w cs sl) : V l G M o φ res pc L (vR k :: st) w cs sl := by
  intro p e s m args below meth c al0 al H locs ls S hB hH hS hl b hr
  obtain ⟨C, T, N, hc, hj, hin, hlk⟩ := hg
  have ha : va_at G.1 vwCl (al k, .inr (ci, fs.map (mf al))) H := hH.1 _ _ hw
  exact va_get S.1 S.2.1 S.2.2.2.2.2.1 hin S.2.2.2.2.1 S.2.2.2.2.2.2.2.2.1.1 (va_P1 ha) 0 rfl hc j hj (S.2.2.2.2.2.1 _ hlk) (fun x h => h) (v := .int x) (by rw [List.getElem?_map, hf]; rfl) hd (kk p e s m args below meth c al0 al H locs ls S hB hH hS hl b hr)
theorem V.getR {k k2 : vk} {idx : Nat} (ci j : Nat) {fs : List vf} (hd : decode M.2.1 pc = .ok (.getfield idx, 3)) (hg : gfl M.1.cls idx ci j) (hw : w k = some (.inl (ci, fs))) (hf : fs[j]? = some (.inr (some k2))) (kk : V l G M o φ res (pc + 3) L (vR k2 :: st) w cs sl) : V l G M o φ res pc L (vR k :: st) w cs sl := by
  intro p e s m args below meth c al0 al H locs ls S hB hH hS hl b hr
  obtain ⟨C, T, N, hc, hj, hin, hlk⟩ := hg
  have ha : va_at G.1 vwCl (al k, .inr (ci, fs.map (mf al))) H := hH.1 _ _ hw
  exact va_get S.1 S.2.1 S.2.2.2.2.2.1 hin S.2.2.2.2.1 S.2.2.2.2.2.2.2.2.1.1 (va_P1 ha) 0 rfl hc j hj (S.2.2.2.2.2.1 _ hlk) (fun x h => h) (v := .ref (al k2)) (by rw [List.getElem?_map, hf]; rfl) hd (kk p e s m args below meth c al0 al H locs ls S hB hH hS hl b hr)
/-- the same for a store -/
def pfl (own : String) (idx ci j : Nat) (ty : FieldType) (fin : Bool) : Prop := ∃ (C : String) (T : u_T) (N : Nat) (ty0 : Nat → FieldType), vwCl[ci]? = some (C, T, N) ∧ j < N ∧ (∀ w ∈ u_ws C T N, w ∈ wsG) ∧ Cond.fieldLink own idx (T j).1 (T j).2.1 (T j).2.2.1 ∈ wsG ∧ (∀ k, k < N → parseFieldDescriptor (T k).2.2.1 = some (ty0 k)) ∧ (∀ a, a < N → ∀ b, b < N → a ≠ b → (T a).2.1 ≠ (T b).2.1) ∧ ty0 j = ty ∧ (T j).2.2.2 = fin ∧ (T j).1 = C
set_option maxHeartbeats 1000000 in
theorem V.putX {k : vk} {idx : Nat} (ci j : Nat) {fs : List vf} {v : vv} {u : vf} {ty : FieldType} {fin : Bool} (hd : decode M.2.1 pc = .ok (.putfield idx, 3)) (hg : pfl M.1.cls idx ci j ty fin) (hini : fin = true → M.1.name = "<init>" ∧ ∃ T N, vwCl[ci]? = some (M.1.cls, T, N)) (hw : w k = some (.inl (ci, fs))) (hjl : j < fs.length) (hvu : ∀ al, mv al v = mf al u) (hn : ∀ al, narrow ty (mv al v) = mv al v) (hfit : ∀ al, fits ty (mv al v) = true) (hr0 : ∀ r, u = .inr (some r) → ∃ d, w r = some d)
    (kk : V l G M o φ res (pc + 3) L st (wup w k (.inl (ci, fs.set j u))) cs sl) : V l G M o φ res pc L (v :: vR k :: st) w cs sl := by
  intro p e s m args below meth c al0 al H locs ls S hB hH hS hl b hr
  obtain ⟨C, T, N, ty0, hc, hj, hin, hlk, hty, hnm, hty1, hfin, hdecl⟩ := hg
  have hts := S.2.2.2.2.2.1
  have hK := S.2.2.2.2.2.2.2.2.1.1
  have hown := S.2.2.2.2.1
  have hap := va_apart (own := M.1.cls) hts hin ty0 hty hnm hK hc
  have ha : va_at G.1 vwCl (al k, .inr (ci, fs.map (mf al))) H := hH.1 _ _ hw
  obtain ⟨r', h1, cell, q1, q2, q3, q4⟩ := ha
  have hr' : r' = (C, T, N) := Option.some.inj (h1.symm.trans hc)
  subst hr'
  obtain ⟨hSl, hfc, kC, hkC, hkind⟩ := hK.1 ci _ hc
  obtain ⟨cf, kf, fi, f, hi, hsl⟩ := hSl j hj
  have hlay := hts _ (hin _ (u_in_lay hj))
  have hst := (u_facts hfc hkC (u_lays hts hin hj) hi).1
  have hdty : parseFieldDescriptor (T j).2.2.1 = some ty := by rw [hty j hj, hty1]
  have fin1 : ∀ H' : Heap, H'[al k]? = some (cell.setSlot (G.1.2 ci j) (mv al v)) → H'.size = H.size → (∀ q, q ≠ al k → H'[q]? = H[q]?) → W p l e M.2.2.2.2 s m args below meth c H' (locs ++ [⟨al k, G.1.2 ci j⟩]) cs sl (MQ below (Qp G o al0 (φ b).1 (φ b).2) args s M.2.2.2.2.cells M.2.2.2.2.slots (fun q : Nat => G.2.2 ≤ q)) (F0 m (pc + 3) ls (st.map (mv al))) := by
    intro H' e1 e2 e3
    refine kk p e s m args below meth c al0 al H' _ ls S hB (hH.set hw ?_ e3 ?_) (hS.put e2 e3 (hH.2.2.1 _ _ hw)) hl b hr
    · refine ⟨_, hc, t_OB.to (V := updV (vp_V (fs.map (mf al))) j (mv al v)) ⟨_, e1, q2, q3, t_set q4 hap hj (mv al v)⟩ (fun i _ => ?_)⟩
      rw [vp_updV_set (by rw [List.length_map]; exact hjl), hvu al, ← List.map_set]
    · intro r0 hv
      rcases List.mem_or_eq_of_mem_set hv with h | h
      · exact hH.2.2.2 _ _ _ hw h
      · exact hr0 r0 h.symm
  unfold u_lay at hlay
  cases fin with
  | false =>
    rw [if_neg (by rw [hfin]; decide)] at hlay
    have h6 := u_store hfc hkC hkind hlay hi hdty (hn al) (hfit al)
    refine W.putK S.1 S.2.1 (f := f) ⟨hown, hts _ hlk, ⟨_, _, _, hi⟩, hst⟩ (by rw [q2]; exact h6) q1 q3 (by rw [hsl]; exact k2_hasslot (q4 j hj)) rfl rfl hd fun H' e1 e2 e3 => ?_
    rw [hsl] at e1 ⊢
    exact fin1 H' e1 e2 e3
  | true =>
    rw [if_pos hfin] at hlay
    obtain ⟨hnam, T9, N9, hc9⟩ := hini rfl
    have hCo : C = M.1.cls := by have := hc.symm.trans hc9; simp at this; exact this.1
    have hcf : m.cls = cf := by
      obtain ⟨_, _, c', _, _, _, -, -, hf', -, -, -, hown2, -⟩ := Cond.laysFinal_spec hlay
      have e1 : c' = cf := by have := hi.symm.trans hf'; simp at this; exact this.1.symm
      rw [hdecl, hCo] at hown2
      rw [← e1]; exact Option.some.inj (hown.symm.trans hown2)
    have h6 := u_fits hfc hkC hkind (Or.inr hlay) hi hdty (hn al) (hfit al)
    refine W.putFinK S.1 S.2.1 hown (hts _ hlk) hi hst hcf (S.2.2.2.2.2.2.2.1.trans hnam) (by rw [q2]; exact h6) q1 q3 (by rw [hsl]; exact k2_hasslot (q4 j hj)) rfl rfl hd fun H' e1 e2 e3 => ?_
    rw [hsl] at e1 ⊢
    exact fin1 H' e1 e2 e3
theorem V.putI {k : vk} {idx : Nat} (ci j : Nat) {fs : List vf} {x : Int32} (hd : decode M.2.1 pc = .ok (.putfield idx, 3)) (hg : pfl M.1.cls idx ci j .int false) (hw : w k = some (.inl (ci, fs))) (hjl : j < fs.length)
    (kk : V l G M o φ res (pc + 3) L st (wup w k (.inl (ci, fs.set j (.inl x)))) cs sl) : V l G M o φ res pc L (vI x :: vR k :: st) w cs sl :=
  V.putX ci j hd hg (fun h => by cases h) hw hjl (fun _ => rfl) (fun _ => rfl) (fun _ => rfl) (fun _ h => by cases h) kk
/-- indexes -/
def inb (i : Int32) (n : Nat) : Bool := decide (0 ≤ i) && decide (i.toNatClampNeg < n)
theorem inb_in {i : Int32} {n : Nat} (h : inb i n = true) : vp_in i n := by
  unfold inb at h
  rw [Bool.and_eq_true, decide_eq_true_eq, decide_eq_true_eq] at h
  intro q
  rcases q with q | q
  · exact absurd h.1 (Int32.not_le.mpr q)
  · omega
theorem V.iald {k : vk} {n : Nat} {f : Nat → Int32} {i : Int32} (hd : decode M.2.1 pc = .ok (.iaload, 1)) (hw : w k = some (.inr (0, n, .inl f))) (hi : inb i n = true) (kk : V l G M o φ res (pc + 1) L (vI (f i.toNatClampNeg) :: st) w cs sl) : V l G M o φ res pc L (vI i :: vR k :: st) w cs sl := by
  intro p e s m args below meth c al0 al H locs ls S hB hH hS hl b hr
  have ha : va_at G.1 vwCl (al k, .inl (G.2.1 0, n, .inl f)) H := hH.1 _ _ hw
  exact va_iald S.1 S.2.1 S.2.2.2.2.2.2.2.2.1.1 (va_P1 ha) 0 0 rfl rfl (inb_in hi) hd (kk p e s m args below meth c al0 al H locs ls S hB hH hS hl b hr)
theorem V.zald {k : vk} {n : Nat} {f : Nat → Int32} {i : Int32} (hd : decode M.2.1 pc = .ok (.baload, 1)) (hw : w k = some (.inr (1, n, .inl f))) (hi : inb i n = true) (kk : V l G M o φ res (pc + 1) L (vI (f i.toNatClampNeg) :: st) w cs sl) : V l G M o φ res pc L (vI i :: vR k :: st) w cs sl := by
  intro p e s m args below meth c al0 al H locs ls S hB hH hS hl b hr
  have ha : va_at G.1 vwCl (al k, .inl (G.2.1 1, n, .inl f)) H := hH.1 _ _ hw
  exact va_zald S.1 S.2.1 S.2.2.2.2.2.2.2.2.1.1 (va_P1 ha) 0 1 rfl rfl (inb_in hi) hd (kk p e s m args below meth c al0 al H locs ls S hB hH hS hl b hr)
theorem V.aald {k k2 : vk} {t n : Nat} {ty : FieldType} {f : Nat → Option vk} {i : Int32} (hd : decode M.2.1 pc = .ok (.aaload, 1)) (ht : (vtys G.2.1)[t]? = some (G.2.1 t, ty)) (hty : ty.isReference = true) (hw : w k = some (.inr (t, n, .inr f))) (hi : inb i n = true) (hf : f i.toNatClampNeg = some k2) (kk : V l G M o φ res (pc + 1) L (vR k2 :: st) w cs sl) : V l G M o φ res pc L (vI i :: vR k :: st) w cs sl := by
  intro p e s m args below meth c al0 al H locs ls S hB hH hS hl b hr
  have ha : va_at G.1 vwCl (al k, .inl (G.2.1 t, n, .inr (.inr (.inr (.inr (fun j => (f j).map al)))))) H := hH.1 _ _ hw
  have hin := inb_in hi
  have hlt : i.toNatClampNeg < n := Nat.not_le.mp fun q => hin (Or.inr q)
  refine W.aald (v := .ref (al k2)) (ty := ty) S.1 S.2.1 ha ((S.2.2.2.2.2.2.2.2.1.1.2 t _ ht).1 n (fun j => va_rf ((f j).map al))) hty (fun q => by cases q) (by show ¬ (i < 0 ∨ (arrV _ _ _).slots.size ≤ _); rw [arrV_size]; exact hin) (by show (arrV _ _ _).slots[_]? = _; rw [arrV_read _ _ hlt]; show some (va_rf ((f i.toNatClampNeg).map al)) = _; rw [hf]; rfl) rfl rfl hd (kk p e s m args below meth c al0 al H locs ls S hB hH hS hl b hr)
theorem V.iast {k : vk} {n : Nat} {f : Nat → Int32} {i x : Int32} (hd : decode M.2.1 pc = .ok (.iastore, 1)) (hw : w k = some (.inr (0, n, .inl f))) (hi : inb i n = true) (kk : V l G M o φ res (pc + 1) L st (wup w k (.inr (0, n, .inl (upd f i.toNatClampNeg x)))) cs sl) : V l G M o φ res pc L (vI x :: vI i :: vR k :: st) w cs sl := by
  intro p e s m args below meth c al0 al H locs ls S hB hH hS hl b hr
  have ha : va_at G.1 vwCl (al k, .inl (G.2.1 0, n, .inl f)) H := hH.1 _ _ hw
  refine W.iast S.1 S.2.1 ha ((S.2.2.2.2.2.2.2.2.1.1.2 0 _ rfl).1 n (fun j => .int (f j))) (fun q => by cases q) (by show ¬ (i < 0 ∨ (arrV _ _ _).slots.size ≤ _); rw [arrV_size]; exact inb_in hi) rfl rfl hd fun H1 e1 z oq => ?_
  refine kk p e s m args below meth c al0 al H1 _ ls S hB (hH.set hw ?_ oq (fun r h => h.elim)) (hS.put z oq (hH.2.2.1 _ _ hw)) hl b hr
  show H1[al k]? = some (vp_cell _ _)
  rw [e1]
  show some ((vp_cell (G.2.1 0) (n, .inl f)).setSlot _ _) = _
  rw [vp_cell_i, vp_cell_i, arrV_store]
  congr 2
  funext q
  by_cases hq : q = i.toNatClampNeg
  · subst hq
    simp [updV, upd]
  · simp [updV, upd, hq]
theorem V.zast {k : vk} {n : Nat} {f : Nat → Int32} {i x : Int32} (hd : decode M.2.1 pc = .ok (.bastore, 1)) (hw : w k = some (.inr (1, n, .inl f))) (hi : inb i n = true) (hx : narrow .boolean (.int x) = .int x) (kk : V l G M o φ res (pc + 1) L st (wup w k (.inr (1, n, .inl (upd f i.toNatClampNeg x)))) cs sl) : V l G M o φ res pc L (vI x :: vI i :: vR k :: st) w cs sl := by
  intro p e s m args below meth c al0 al H locs ls S hB hH hS hl b hr
  have ha : va_at G.1 vwCl (al k, .inl (G.2.1 1, n, .inl f)) H := hH.1 _ _ hw
  refine W.zast S.1 S.2.1 ha ((S.2.2.2.2.2.2.2.2.1.1.2 1 _ rfl).1 n (fun j => .int (f j))) (fun q => by cases q) (by show ¬ (i < 0 ∨ (arrV _ _ _).slots.size ≤ _); rw [arrV_size]; exact inb_in hi) rfl rfl hd fun H1 e1 z oq => ?_
  refine kk p e s m args below meth c al0 al H1 _ ls S hB (hH.set hw ?_ oq (fun r h => h.elim)) (hS.put z oq (hH.2.2.1 _ _ hw)) hl b hr
  show H1[al k]? = some (vp_cell _ _)
  rw [e1]
  show some ((vp_cell (G.2.1 1) (n, .inl f)).setSlot _ _) = _
  rw [hx, vp_cell_i, vp_cell_i, arrV_store]
  congr 2
  funext q
  by_cases hq : q = i.toNatClampNeg
  · subst hq
    simp [updV, upd]
  · simp [updV, upd, hq]
def rup (f : Nat → Option vk) (i : Nat) (k : vk) : Nat → Option vk := fun j => if j = i then some k else f j
theorem V.aast {k k2 : vk} {t n ci : Nat} {C : String} {T : u_T} {N : Nat} {fs : List vf} {f : Nat → Option vk} {i : Int32} (hd : decode M.2.1 pc = .ok (.aastore, 1)) (ht : (vtys G.2.1)[t]? = some (G.2.1 t, .object C)) (hc : vwCl[ci]? = some (C, T, N)) (hw : w k = some (.inr (t, n, .inr f))) (hi : inb i n = true) (hv : w k2 = some (.inl (ci, fs))) (kk : V l G M o φ res (pc + 1) L st (wup w k (.inr (t, n, .inr (rup f i.toNatClampNeg k2)))) cs sl) : V l G M o φ res pc L (vR k2 :: vI i :: vR k :: st) w cs sl := by
  intro p e s m args below meth c al0 al H locs ls S hB hH hS hl b hr
  have ha : va_at G.1 vwCl (al k, .inl (G.2.1 t, n, .inr (.inr (.inr (.inr (fun j => (f j).map al)))))) H := hH.1 _ _ hw
  have hin := inb_in hi
  have hlt : i.toNatClampNeg < n := Nat.not_le.mp fun q => hin (Or.inr q)
  have h0 : ¬ i < 0 := fun q => hin (Or.inl q)
  have hK := S.2.2.2.2.2.2.2.2.1.1
  obtain ⟨r', hr', cellV, g1, g2, g3, -⟩ := (show va_at G.1 vwCl (al k2, .inr (ci, fs.map (mf al))) H from hH.1 _ _ hv)
  have hcls := (hK.1 ci _ hc).2
  obtain ⟨kA, comp, k1, k2', k3, -⟩ := (hK.2 t _ ht).2
  have hcomp : comp = G.1.1 ci := Option.some.inj (k3.symm.trans hcls.1)
  subst hcomp
  obtain ⟨kC, hkC, -⟩ := hcls.2
  refine W.aast S.1 S.2.1 ha (fun q h => by cases h) (fun h => by cases h) k1 k2' rfl hkC ⟨h0, by show _ < (arrV _ _ _).slots.size; rw [arrV_size]; exact hlt⟩ g1 (fun q h => by rw [g3] at h; cases h) (by rw [g2]; exact hkC) (by rw [g2]; exact va_assign hcls) rfl rfl hd fun H1 e1 z oq => ?_
  refine kk p e s m args below meth c al0 al H1 _ ls S hB (hH.set hw ?_ oq ?_) (hS.put z oq (hH.2.2.1 _ _ hw)) hl b hr
  · show H1[al k]? = some (vp_cell _ _)
    rw [e1]
    show some ((vp_cell (G.2.1 t) (n, .inr (.inr (.inr (.inr (fun j => (f j).map al)))))).setSlot _ _) = _
    rw [vp_cell_q, vp_cell_q, arrV_store]
    congr 2
    funext q
    by_cases hq : q = i.toNatClampNeg
    · subst hq
      simp [updV, rup, va_rf]
    · simp [updV, rup, hq]
  · rintro r0 ⟨j, hj⟩
    by_cases hq : j = i.toNatClampNeg
    · simp only [rup, if_pos hq] at hj
      cases hj
      exact ⟨_, hv⟩
    · simp only [rup, if_neg hq] at hj
      exact hH.2.2.2 _ _ _ hw ⟨j, hj⟩
/-- returns -/
theorem V.iret {x : Int32} {b0 : β} (h0 : φ b0 = (some x, w)) (hd : decode M.2.1 pc = .ok (.ireturn, 1)) (ht : M.2.2.2.1 = some .int) (hc : cs ≤ M.2.2.2.2.cells) (hs : sl ≤ M.2.2.2.2.slots) : V l G M o φ (some b0) pc L [vI x] w cs sl := by
  intro p e s m args below meth c al0 al H locs ls S hB hH hS hl b hr
  cases hr
  rw [h0]
  have hlocks := S.2.2.2.2.2.2.1
  exact W.widen hc hs (W.iret S.1 S.2.1 (S.2.2.1.trans ht) (fun t h1 h2 => ⟨⟨x, al, rfl, ⟨rfl, hB⟩, by show Hol G al w t.heap; rw [h1]; exact hH⟩, hS.F h1⟩) hS.2.2 hd)
theorem V.zret {x : Int32} {b0 : β} (h0 : φ b0 = (some x, w)) (hd : decode M.2.1 pc = .ok (.ireturn, 1)) (ht : M.2.2.2.1 = some .boolean) (hx : narrow .boolean (.int x) = .int x) (hc : cs ≤ M.2.2.2.2.cells) (hs : sl ≤ M.2.2.2.2.slots) : V l G M o φ (some b0) pc L [vI x] w cs sl := by
  intro p e s m args below meth c al0 al H locs ls S hB hH hS hl b hr
  cases hr
  rw [h0]
  have hlocks := S.2.2.2.2.2.2.1
  exact W.widen hc hs (W.zret S.1 S.2.1 (S.2.2.1.trans ht) hx (fun t h1 h2 => ⟨⟨x, al, rfl, ⟨rfl, hB⟩, by show Hol G al w t.heap; rw [h1]; exact hH⟩, hS.F h1⟩) hS.2.2 hd)
theorem V.vret {b0 : β} (h0 : φ b0 = (none, w)) (hd : decode M.2.1 pc = .ok (.return_, 1)) (ht : M.2.2.2.1 = none) (hc : cs ≤ M.2.2.2.2.cells) (hs : sl ≤ M.2.2.2.2.slots) : V l G M o φ (some b0) pc L [] w cs sl := by
  intro p e s m args below meth c al0 al H locs ls S hB hH hS hl b hr
  cases hr
  rw [h0]
  have hlocks := S.2.2.2.2.2.2.1
  exact W.widen hc hs (W.vret S.1 S.2.1 (S.2.2.1.trans ht) (fun t h1 h2 => ⟨⟨al, rfl, hB, by show Hol G al w t.heap; rw [h1]; exact hH⟩, hS.F h1⟩) hS.2.2 hd)
end VHeap
end
section
section VCalls
variable {l : Launch} {G : vg} {M M' : vmt} {o : Option vw} {β : Type} {φ : β → Option Int32 × vw} {res A B : Option β} {pc : Nat} {L : vls} {st : List vv} {w : vw} {cs sl : Nat}
theorem vws_good (hc : Cond.code M'.1 M'.2.1 M'.2.2.1 M'.2.2.2.1 ∈ wsG) : GoodIn wsG (vws M') := fun x hx => by
  have h : x ∈ wsG := by
    rcases List.mem_cons.mp hx with h | h
    · rw [h]; exact hc
    · exact h
  exact ⟨h, good_of_word (List.all_eq_true.mp wsG_good x h)⟩
def mfB (M' : vmt) (n : Nat) : Prop := Cond.initialized M'.1.cls ∈ wsG ∧ Cond.code M'.1 M'.2.1 M'.2.2.1 M'.2.2.2.1 ∈ wsG ∧ (M'.1.cls ≠ "java/lang/invoke/MethodHandle" ∧ M'.1.cls ≠ "java/lang/invoke/VarHandle" ∧ (parseMethodDescriptor M'.1.desc).map (fun d => d.parameters.length) = some n)
def mfV (M' : vmt) (n : Nat) : Prop := Cond.instanceMethod M'.1 ∈ wsG ∧ Cond.selects M'.1.cls M'.1 M'.1 ∈ wsG ∧ mfB M' n
def mfS (M' : vmt) (n : Nat) : Prop := Cond.static M'.1 ∈ wsG ∧ mfB M' n
def mfI (M' : vmt) (n : Nat) : Prop := Cond.instanceMethod M'.1 ∈ wsG ∧ M'.1.name = "<init>" ∧ M'.2.2.2.1 = none ∧ mfB M' n
/-- the room of a call -/
def rmc (M M' : vmt) : Prop := M'.2.2.2.2.frames + 1 ≤ M.2.2.2.2.frames ∧ 8 + (M'.2.2.1 + 11) + M'.2.2.2.2.locals ≤ M.2.2.2.2.locals
def rst (r : Option Int32) (st : List vv) : List vv := match r with
  | none => st
  | some x => vI x :: st
theorem vcallB {s : State} {args : Array Value} {idx n : Nat} (hts : ∀ w ∈ wsG, w.before args s = true) (h1 : Cond.methodLink M.1.cls idx M'.1 ∈ wsG) (h2 : mfB M' n) (hR : rmc M M') : CallB M.2.2.2.2 s args M.1.cls idx M'.1 M'.2.1 M'.2.2.1 M'.2.2.2.1 (vws M') M'.2.2.2.2 M'.2.2.2.2.cells M'.2.2.2.2.slots n :=
  callB_of (ws' := wsG) n hts (vws_good h2.2.1) rfl rfl rfl (hts _ h2.1) (hts _ h1) h2.2.2 hR
theorem vPc_blind {al : vk → Nat} {vs : List vv} : FrameBlind (va_Pc (vs.map (mv al)) (fun U => G.2.2 ≤ U.heap.size ∧ Hol G al w U.heap ∧ Kk G U)) := fun a U g mk q => by
  obtain ⟨q0, q1, q2, q3⟩ := q
  exact ⟨q0, q1, q2, va_K.moved (u := U) (U := U.calling g mk a) (Vm.Alike.refl U.vm) q3.1, va_Nw.same rfl rfl q3.2⟩
theorem lvw_cat (al : vk → Nat) (st : List vv) : ((st.map (mv al)).map fun v => v.category).sum = lvw st := by
  unfold lvw
  rw [List.map_map]
  congr 1
  refine List.map_congr_left fun v _ => mv_cat al v
theorem vbind {α β : Type} {x : Option α} {f : α → Option β} {b : β} (h : x.bind f = some b) : ∃ a, x = some a ∧ f a = some b := by
  cases x with
  | none => cases h
  | some a => exact ⟨a, rfl, h⟩
/-- what is behind a call -/
theorem V.back {γ : Type} {ψ : γ → Option Int32 × vw} {K : γ → Option β} (kk : ∀ a, V l G M o φ (K a) (pc + 3) L (rst (ψ a).1 st) (ψ a).2 (cs + M'.2.2.2.2.cells) (sl + M'.2.2.2.2.slots))
    {p : Program} {e : Env} {s : State} {m : MethodId} {args : Array Value} {below : List Frame} {meth : Method} {c : Code} {al0 al : vk → Nat} {H : Heap} {locs : List Loc} {ls : Array Slot} {stk : List Value} {a : Array Value}
    (S : Sd G M p s m args meth c) (hB : bA o al0 al) (hS : va_S (fun q : Nat => G.2.2 ≤ q) s.heap H locs) (hl : lv_has ls M.2.2.1 (ml al L)) {b : β} {a1 : γ} (hr : K a1 = some b)
    (hrun : va_Run p l e M.2.2.2.2 s m args below meth c H locs cs sl M'.2.2.2.2.cells M'.2.2.2.2.slots (F0 m pc ls stk) (st.map (mv al)) (Qp G none al (ψ a1).1 (ψ a1).2 a) (fun q : Nat => G.2.2 ≤ q)) :
    W p l e M.2.2.2.2 s m args below meth c H locs cs sl (MQ below (Qp G o al0 (φ b).1 (φ b).2) args s M.2.2.2.2.cells M.2.2.2.2.slots (fun q : Nat => G.2.2 ≤ q)) (F0 m pc ls stk) := by
  have kk1 := kk a1
  generalize (ψ a1).1 = r1 at hrun kk1
  generalize (ψ a1).2 = w1 at hrun kk1
  cases r1 with
  | none =>
    refine va_callv (a := a) hrun hS (fun _ _ h => h) (fun _ h => h) (fun u t H1 locs1 ht hvm hp hb hz hk hS1 => ?_)
    have hu : u = al := hp
    subst hu
    have hH1 : Hol G u w1 H1 := by rw [← ht]; exact hb
    exact kk1 p e s m args below meth c al0 u H1 locs1 ls S hB hH1 hS1 hl b hr
  | some x =>
    refine va_calli (a := a) hrun hS (fun _ _ h => h) (fun _ h => h) (fun y u t H1 locs1 ht hvm hp hb hz hk hS1 => ?_)
    have hu : u = al := hp.2
    subst hu
    have hx : y = x := hp.1
    subst hx
    have hH1 : Hol G u w1 H1 := by rw [← ht]; exact hb
    exact kk1 p e s m args below meth c al0 u H1 locs1 ls S hB hH1 hS1 hl b hr
set_option maxHeartbeats 1000000 in
theorem V.callV {k : vk} {ci idx n : Nat} {fs : List vf} {T : u_T} {N : Nat} {As stk : List vv} {γ : Type} {ψ : γ → Option Int32 × vw} {res' : Option γ} {K : γ → Option β} (hd : decode M.2.1 pc = .ok (.invokevirtual idx, 3)) (h1 : Cond.methodLink M.1.cls idx M'.1 ∈ wsG) (h2 : mfV M' n) (hn : As.length = n) (hR : rmc M M') (hcs : cs + M'.2.2.2.2.cells ≤ M.2.2.2.2.cells ∧ sl + M'.2.2.2.2.slots ≤ M.2.2.2.2.slots) (hw : w k = some (.inl (ci, fs))) (hc : vwCl[ci]? = some (M'.1.cls, T, N)) (hst : lvw st ≤ 8) (hstk : stk = As.reverse ++ vR k :: st) (hm : Rt l G M' none ψ (vR k :: As) w res')
    (kk : ∀ a, V l G M o φ (K a) (pc + 3) L (rst (ψ a).1 st) (ψ a).2 (cs + M'.2.2.2.2.cells) (sl + M'.2.2.2.2.slots)) : V l G M o φ (res'.bind K) pc L stk w cs sl := by
  subst hstk
  intro p e s m args below meth c al0 al H locs ls S hB hH hS hl b hr
  obtain ⟨a1, e1, e2⟩ := vbind hr
  have hM := hm al a1 e1
  have ha : va_at G.1 vwCl (al k, .inr (ci, fs.map (mf al))) H := hH.1 _ _ hw
  have hN0 : G.2.2 ≤ H.size := Nat.le_trans S.2.2.2.2.2.2.2.2.2 hS.1
  refine V.back (M' := M') (ψ := ψ) (K := K) kk S hB hS hl e2 (va_runV (As := As.map (mv al)) (rest := st.map (mv al)) (b := al k) ⟨S.1, S.2.1, S.2.2.2.1, S.2.2.2.2.1, S.2.2.2.2.2.1⟩ hM ⟨vcallB S.2.2.2.2.2.1 h1 h2.2.2 hR, S.2.2.2.2.2.1 _ h2.1, S.2.2.2.2.2.1 _ h2.2.1⟩ ⟨vPc_blind (vs := vR k :: As), va_recv S.2.2.2.2.2.2.2.2.1.1 (va_P1 ha) hc (q0 := 0) rfl, fun U hU hW => ⟨rfl, by rw [hU]; exact hN0, by rw [hU]; exact hH, S.2.2.2.2.2.2.2.2.1.warm hW⟩⟩ rfl (by rw [List.length_map]; exact hn) hl.1 ?_ (lv_room (by rw [lvw_cat]; exact hst)) hd hcs)
  show (As.reverse ++ vR k :: st).map (mv al) = (As.map (mv al)).reverse ++ .ref (al k) :: st.map (mv al)
  rw [List.map_append, List.map_reverse]
  rfl
set_option maxHeartbeats 1000000 in
theorem V.callS {idx n : Nat} {As stk : List vv} {γ : Type} {ψ : γ → Option Int32 × vw} {res' : Option γ} {K : γ → Option β} (hd : decode M.2.1 pc = .ok (.invokestatic idx, 3)) (h1 : Cond.methodLink M.1.cls idx M'.1 ∈ wsG) (h2 : mfS M' n) (hn : As.length = n) (hR : rmc M M') (hcs : cs + M'.2.2.2.2.cells ≤ M.2.2.2.2.cells ∧ sl + M'.2.2.2.2.slots ≤ M.2.2.2.2.slots) (hst : lvw st ≤ 8) (hstk : stk = As.reverse ++ st) (hm : Rt l G M' none ψ As w res')
    (kk : ∀ a, V l G M o φ (K a) (pc + 3) L (rst (ψ a).1 st) (ψ a).2 (cs + M'.2.2.2.2.cells) (sl + M'.2.2.2.2.slots)) : V l G M o φ (res'.bind K) pc L stk w cs sl := by
  subst hstk
  intro p e s m args below meth c al0 al H locs ls S hB hH hS hl b hr
  obtain ⟨a1, e1, e2⟩ := vbind hr
  have hM := hm al a1 e1
  have hN0 : G.2.2 ≤ H.size := Nat.le_trans S.2.2.2.2.2.2.2.2.2 hS.1
  refine V.back (M' := M') (ψ := ψ) (K := K) kk S hB hS hl e2 (va_runS (As := As.map (mv al)) (rest := st.map (mv al)) ⟨S.1, S.2.1, S.2.2.2.1, S.2.2.2.2.1, S.2.2.2.2.2.1⟩ hM ⟨vcallB S.2.2.2.2.2.1 h1 h2.2 hR, S.2.2.2.2.2.1 _ h2.1⟩ ⟨vPc_blind (vs := As), fun U hU hW => ⟨rfl, by rw [hU]; exact hN0, by rw [hU]; exact hH, S.2.2.2.2.2.2.2.2.1.warm hW⟩⟩ rfl (by rw [List.length_map]; exact hn) hl.1 ?_ (lv_room (by rw [lvw_cat]; exact hst)) hd hcs)
  show (As.reverse ++ st).map (mv al) = (As.map (mv al)).reverse ++ st.map (mv al)
  rw [List.map_append, List.map_reverse]
set_option maxHeartbeats 1000000 in
/-- the call of WaxVoices.holds by a nest mate -/
theorem V.callN {As stk : List vv} {γ : Type} {ψ : γ → Option Int32 × vw} {res' : Option γ} {K : γ → Option β} (hown : M.1.cls = RX1) (hy : M'.1 = yX7_holds) (hd : decode M.2.1 pc = .ok (.invokestatic 52, 3)) (h2 : mfS M' 2) (hn : As.length = 2) (hR : rmc M M') (hcs : cs + M'.2.2.2.2.cells ≤ M.2.2.2.2.cells ∧ sl + M'.2.2.2.2.slots ≤ M.2.2.2.2.slots) (hst : lvw st ≤ 8) (hstk : stk = As.reverse ++ st) (hm : Rt l G M' none ψ As w res')
    (kk : ∀ a, V l G M o φ (K a) (pc + 3) L (rst (ψ a).1 st) (ψ a).2 (cs + M'.2.2.2.2.cells) (sl + M'.2.2.2.2.slots)) : V l G M o φ (res'.bind K) pc L stk w cs sl := by
  subst hstk
  intro p e s m args below meth c al0 al H locs ls S hB hH hS hl b hr
  obtain ⟨a1, e1, e2⟩ := vbind hr
  have hM := hm al a1 e1
  have hN0 : G.2.2 ≤ H.size := Nat.le_trans S.2.2.2.2.2.2.2.2.2 hS.1
  have hts := S.2.2.2.2.2.1
  refine V.back (M' := M') (ψ := ψ) (K := K) kk S hB hS hl e2 (va_runSN (As := As.map (mv al)) (rest := st.map (mv al)) (host := RX7) (Ts := wsG) (own := M.1.cls) ⟨S.1, S.2.1, S.2.2.2.1, S.2.2.2.2.1, hts⟩ hM ⟨va_cnB (ws' := wsG) 2 hts (vws_good h2.2.2.1) rfl rfl rfl (by rw [hown, hy]; exact S.2.2.2.2.2.2.2.2.1.2) (hts _ h2.2.1) h2.2.2.2 hR, hts _ h2.1, trivial⟩ ⟨vPc_blind (vs := As), fun U hU hW => ⟨rfl, by rw [hU]; exact hN0, by rw [hU]; exact hH, S.2.2.2.2.2.2.2.2.1.warm hW⟩⟩ rfl (by rw [List.length_map]; exact hn) hl.1 ?_ (lv_room (by rw [lvw_cat]; exact hst)) hd hcs)
  show (As.reverse ++ st).map (mv al) = (As.map (mv al)).reverse ++ st.map (mv al)
  rw [List.map_append, List.map_reverse]
/-- Math -/
theorem V.mmax {idx : Nat} {x y : Int32} (hd : decode M.2.1 pc = .ok (.invokestatic idx, 3)) (h1 : Cond.methodLink M.1.cls idx Lib.Math.max.name ∈ wsG) (hf : 1 ≤ M.2.2.2.2.frames) (hlo : lvw st + 13 ≤ M.2.2.2.2.locals) (hc : cs ≤ M.2.2.2.2.cells) (hs : sl ≤ M.2.2.2.2.slots) (k : V l G M o φ res (pc + 3) L (vI (if x < y then y else x) :: st) w cs sl) : V l G M o φ res pc L (vI y :: vI x :: st) w cs sl := by
  intro p e s m args below meth c al0 al H locs ls S hB hH hS hl b hr
  have hts := S.2.2.2.2.2.1
  exact va_mmax S.1 S.2.1 (S.2.2.2.1.trans hl.1.symm) S.2.2.2.2.1 (hts _ h1) (hts _ sm_Mmax) (hts _ ini_J9) (hts _ co_Mmax) hf (by rw [lvw_cat]; exact hlo) hc hs hd (k p e s m args below meth c al0 al H locs ls S hB hH hS hl b hr)
theorem V.mmin {idx : Nat} {x y : Int32} (hd : decode M.2.1 pc = .ok (.invokestatic idx, 3)) (h1 : Cond.methodLink M.1.cls idx Lib.Math.min.name ∈ wsG) (hf : 1 ≤ M.2.2.2.2.frames) (hlo : lvw st + 13 ≤ M.2.2.2.2.locals) (hc : cs ≤ M.2.2.2.2.cells) (hs : sl ≤ M.2.2.2.2.slots) (k : V l G M o φ res (pc + 3) L (vI (if y < x then y else x) :: st) w cs sl) : V l G M o φ res pc L (vI y :: vI x :: st) w cs sl := by
  intro p e s m args below meth c al0 al H locs ls S hB hH hS hl b hr
  have hts := S.2.2.2.2.2.1
  exact va_mmin S.1 S.2.1 (S.2.2.2.1.trans hl.1.symm) S.2.2.2.2.1 (hts _ h1) (hts _ sm_Mmin) (hts _ ini_J9) (hts _ co_Mmin) hf (by rw [lvw_cat]; exact hlo) hc hs hd (k p e s m args below meth c al0 al H locs ls S hB hH hS hl b hr)
theorem V.mabs {idx : Nat} {x : Int32} (hd : decode M.2.1 pc = .ok (.invokestatic idx, 3)) (h1 : Cond.methodLink M.1.cls idx Lib.Math.abs.name ∈ wsG) (hf : 1 ≤ M.2.2.2.2.frames) (hlo : lvw st + 13 ≤ M.2.2.2.2.locals) (hc : cs ≤ M.2.2.2.2.cells) (hs : sl ≤ M.2.2.2.2.slots) (k : V l G M o φ res (pc + 3) L (vI (if 0 ≤ x then x else 0 - x) :: st) w cs sl) : V l G M o φ res pc L (vI x :: st) w cs sl := by
  intro p e s m args below meth c al0 al H locs ls S hB hH hS hl b hr
  have hts := S.2.2.2.2.2.1
  exact va_mabs S.1 S.2.1 (S.2.2.2.1.trans hl.1.symm) S.2.2.2.2.1 (hts _ h1) (hts _ sm_Mabs) (hts _ ini_J9) (hts _ co_Mabs) hf (by rw [lvw_cat]; exact hlo) hc hs hd (k p e s m args below meth c al0 al H locs ls S hB hH hS hl b hr)
theorem V.oinit {idx : Nat} {k : vk} (hd : decode M.2.1 pc = .ok (.invokespecial idx, 3)) (h1 : Cond.methodLink M.1.cls idx objectInit ∈ wsG) (hf : 1 ≤ M.2.2.2.2.frames) (hlo : lvw st + 12 ≤ M.2.2.2.2.locals) (kk : V l G M o φ res (pc + 3) L st w cs sl) : V l G M o φ res pc L (vR k :: st) w cs sl := by
  intro p e s m args below meth c al0 al H locs ls S hB hH hS hl b hr
  have hts := S.2.2.2.2.2.1
  exact W.objInit S.1 S.2.1 S.2.2.2.2.1 (hts _ h1) (hts _ im_Object) (hts _ co_Object) rfl (hl.1.trans S.2.2.2.1.symm) rfl hd hf (by show 2 * 0 + _ + 12 ≤ _; rw [lvw_cat]; omega) (kk p e s m args below meth c al0 al H locs ls S hB hH hS hl b hr)
end VCalls
end
