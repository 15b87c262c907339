section
-- ===== PART A: goes FIRST, ahead of the names: the tables' words, and 'selects' of the private methods out of them =====
/-- a private method of a class that the tables say can be made, by its rows of tables_1 -/
def lw_okq (q : MethodName × Nat) : Prop := (q.1.cls ≠ "java/lang/invoke/MethodHandle" ∧ q.1.cls ≠ "java/lang/invoke/VarHandle") ∧ Cond.instantiable q.1.cls q.2 ∈ tables_1 ∧ Cond.privateMethod q.1 ∈ tables_1 ∧ Cond.instanceMethod q.1 ∈ tables_1
theorem lw_p0 : lw_okq (⟨"TagTower$Productions", "write", "(Ljava/lang/String;II)V"⟩, 2) := ⟨⟨by decide +kernel, by decide +kernel⟩, List.mem_of_getElem? (i := 92) (by decide +kernel), List.mem_of_getElem? (i := 103) (by decide +kernel), List.mem_of_getElem? (i := 104) (by decide +kernel)⟩
theorem lw_p1 : lw_okq (⟨"TagTower$Productions", "append", "(II)V"⟩, 2) := ⟨⟨by decide +kernel, by decide +kernel⟩, List.mem_of_getElem? (i := 92) (by decide +kernel), List.mem_of_getElem? (i := 224) (by decide +kernel), List.mem_of_getElem? (i := 225) (by decide +kernel)⟩
theorem lw_p2 : lw_okq (⟨"TagTower$Counters", "doLine", "()Z"⟩, 7) := ⟨⟨by decide +kernel, by decide +kernel⟩, List.mem_of_getElem? (i := 24) (by decide +kernel), List.mem_of_getElem? (i := 346) (by decide +kernel), List.mem_of_getElem? (i := 347) (by decide +kernel)⟩
theorem lw_p3 : lw_okq (⟨"TagTower$Counters", "countUp", "(I)Z"⟩, 7) := ⟨⟨by decide +kernel, by decide +kernel⟩, List.mem_of_getElem? (i := 24) (by decide +kernel), List.mem_of_getElem? (i := 351) (by decide +kernel), List.mem_of_getElem? (i := 352) (by decide +kernel)⟩
theorem lw_p4 : lw_okq (⟨"TagTower$Counters", "countDown", "(I)Z"⟩, 7) := ⟨⟨by decide +kernel, by decide +kernel⟩, List.mem_of_getElem? (i := 24) (by decide +kernel), List.mem_of_getElem? (i := 355) (by decide +kernel), List.mem_of_getElem? (i := 356) (by decide +kernel)⟩
theorem lw_p5 : lw_okq (⟨"TagTower$Machine", "doStep", "()Z"⟩, 9) := ⟨⟨by decide +kernel, by decide +kernel⟩, List.mem_of_getElem? (i := 53) (by decide +kernel), List.mem_of_getElem? (i := 419) (by decide +kernel), List.mem_of_getElem? (i := 420) (by decide +kernel)⟩
theorem lw_p6 : lw_okq (⟨"TagTower$Word", "appendTwos", "(II)V"⟩, 2) := ⟨⟨by decide +kernel, by decide +kernel⟩, List.mem_of_getElem? (i := 236) (by decide +kernel), List.mem_of_getElem? (i := 462) (by decide +kernel), List.mem_of_getElem? (i := 463) (by decide +kernel)⟩
theorem lw_p7 : lw_okq (⟨"TagTower$LetterRow", "wrapped", "(I)I"⟩, 3) := ⟨⟨by decide +kernel, by decide +kernel⟩, List.mem_of_getElem? (i := 242) (by decide +kernel), List.mem_of_getElem? (i := 470) (by decide +kernel), List.mem_of_getElem? (i := 471) (by decide +kernel)⟩
theorem lw_p8 : lw_okq (⟨"TagTower$Word", "doStep", "(LTagTower$Productions;)Z"⟩, 2) := ⟨⟨by decide +kernel, by decide +kernel⟩, List.mem_of_getElem? (i := 236) (by decide +kernel), List.mem_of_getElem? (i := 508) (by decide +kernel), List.mem_of_getElem? (i := 509) (by decide +kernel)⟩
theorem lw_p9 : lw_okq (⟨"TagTower$Word", "middle", "()I"⟩, 2) := ⟨⟨by decide +kernel, by decide +kernel⟩, List.mem_of_getElem? (i := 236) (by decide +kernel), List.mem_of_getElem? (i := 539) (by decide +kernel), List.mem_of_getElem? (i := 540) (by decide +kernel)⟩
theorem lw_p10 : lw_okq (⟨"TagTower$Word", "behindTwos", "(II)I"⟩, 2) := ⟨⟨by decide +kernel, by decide +kernel⟩, List.mem_of_getElem? (i := 236) (by decide +kernel), List.mem_of_getElem? (i := 543) (by decide +kernel), List.mem_of_getElem? (i := 544) (by decide +kernel)⟩
theorem lw_p11 : lw_okq (⟨"TagTower$Bits", "take", "(ILTagTower$Productions;)I"⟩, 2) := ⟨⟨by decide +kernel, by decide +kernel⟩, List.mem_of_getElem? (i := 270) (by decide +kernel), List.mem_of_getElem? (i := 583) (by decide +kernel), List.mem_of_getElem? (i := 584) (by decide +kernel)⟩
theorem lw_p12 : lw_okq (⟨"TagTower$Bits", "gone", "()I"⟩, 2) := ⟨⟨by decide +kernel, by decide +kernel⟩, List.mem_of_getElem? (i := 270) (by decide +kernel), List.mem_of_getElem? (i := 593) (by decide +kernel), List.mem_of_getElem? (i := 594) (by decide +kernel)⟩
theorem lw_p13 : lw_okq (⟨"TagTower$Bits", "takeOne", "(LTagTower$Productions;)I"⟩, 2) := ⟨⟨by decide +kernel, by decide +kernel⟩, List.mem_of_getElem? (i := 270) (by decide +kernel), List.mem_of_getElem? (i := 597) (by decide +kernel), List.mem_of_getElem? (i := 598) (by decide +kernel)⟩
theorem lw_p14 : lw_okq (⟨"TagTower$Bits", "pass", "(I)V"⟩, 2) := ⟨⟨by decide +kernel, by decide +kernel⟩, List.mem_of_getElem? (i := 270) (by decide +kernel), List.mem_of_getElem? (i := 606) (by decide +kernel), List.mem_of_getElem? (i := 607) (by decide +kernel)⟩
theorem lw_p15 : lw_okq (⟨"TagTowerModel", "mayDo", "()Z"⟩, 29) := ⟨⟨by decide +kernel, by decide +kernel⟩, List.mem_of_getElem? (i := 637) (by decide +kernel), List.mem_of_getElem? (i := 760) (by decide +kernel), List.mem_of_getElem? (i := 761) (by decide +kernel)⟩
def lw_privs_1 : List (MethodName × Nat) := [(⟨"TagTower$Productions", "write", "(Ljava/lang/String;II)V"⟩, 2), (⟨"TagTower$Productions", "append", "(II)V"⟩, 2), (⟨"TagTower$Counters", "doLine", "()Z"⟩, 7), (⟨"TagTower$Counters", "countUp", "(I)Z"⟩, 7), (⟨"TagTower$Counters", "countDown", "(I)Z"⟩, 7), (⟨"TagTower$Machine", "doStep", "()Z"⟩, 9), (⟨"TagTower$Word", "appendTwos", "(II)V"⟩, 2), (⟨"TagTower$LetterRow", "wrapped", "(I)I"⟩, 3), (⟨"TagTower$Word", "doStep", "(LTagTower$Productions;)Z"⟩, 2), (⟨"TagTower$Word", "middle", "()I"⟩, 2), (⟨"TagTower$Word", "behindTwos", "(II)I"⟩, 2), (⟨"TagTower$Bits", "take", "(ILTagTower$Productions;)I"⟩, 2), (⟨"TagTower$Bits", "gone", "()I"⟩, 2), (⟨"TagTower$Bits", "takeOne", "(LTagTower$Productions;)I"⟩, 2), (⟨"TagTower$Bits", "pass", "(I)V"⟩, 2), (⟨"TagTowerModel", "mayDo", "()Z"⟩, 29)]
theorem lw_r1 : ∀ q ∈ lw_privs_1, lw_okq q := List.forall_mem_cons.mpr ⟨lw_p0, List.forall_mem_cons.mpr ⟨lw_p1, List.forall_mem_cons.mpr ⟨lw_p2, List.forall_mem_cons.mpr ⟨lw_p3, List.forall_mem_cons.mpr ⟨lw_p4, List.forall_mem_cons.mpr ⟨lw_p5, List.forall_mem_cons.mpr ⟨lw_p6, List.forall_mem_cons.mpr ⟨lw_p7, List.forall_mem_cons.mpr ⟨lw_p8, List.forall_mem_cons.mpr ⟨lw_p9, List.forall_mem_cons.mpr ⟨lw_p10, List.forall_mem_cons.mpr ⟨lw_p11, List.forall_mem_cons.mpr ⟨lw_p12, List.forall_mem_cons.mpr ⟨lw_p13, List.forall_mem_cons.mpr ⟨lw_p14, List.forall_mem_cons.mpr ⟨lw_p15, fun _ h => absurd h List.not_mem_nil⟩⟩⟩⟩⟩⟩⟩⟩⟩⟩⟩⟩⟩⟩⟩⟩
theorem lw_p16 : lw_okq (⟨"TagTowerModel", "mayMove", "()Z"⟩, 29) := ⟨⟨by decide +kernel, by decide +kernel⟩, List.mem_of_getElem? (i := 637) (by decide +kernel), List.mem_of_getElem? (i := 792) (by decide +kernel), List.mem_of_getElem? (i := 793) (by decide +kernel)⟩
theorem lw_p17 : lw_okq (⟨"TagTowerModel", "produce", "(I)V"⟩, 29) := ⟨⟨by decide +kernel, by decide +kernel⟩, List.mem_of_getElem? (i := 637) (by decide +kernel), List.mem_of_getElem? (i := 806) (by decide +kernel), List.mem_of_getElem? (i := 807) (by decide +kernel)⟩
theorem lw_p18 : lw_okq (⟨"TagTowerModel", "one", "(I)V"⟩, 29) := ⟨⟨by decide +kernel, by decide +kernel⟩, List.mem_of_getElem? (i := 637) (by decide +kernel), List.mem_of_getElem? (i := 813) (by decide +kernel), List.mem_of_getElem? (i := 814) (by decide +kernel)⟩
theorem lw_p19 : lw_okq (⟨"TagTowerModel", "makes", "(I)V"⟩, 29) := ⟨⟨by decide +kernel, by decide +kernel⟩, List.mem_of_getElem? (i := 637) (by decide +kernel), List.mem_of_getElem? (i := 817) (by decide +kernel), List.mem_of_getElem? (i := 818) (by decide +kernel)⟩
theorem lw_p20 : lw_okq (⟨"TagTowerModel", "produceRuled", "(IIII)V"⟩, 29) := ⟨⟨by decide +kernel, by decide +kernel⟩, List.mem_of_getElem? (i := 637) (by decide +kernel), List.mem_of_getElem? (i := 821) (by decide +kernel), List.mem_of_getElem? (i := 822) (by decide +kernel)⟩
theorem lw_p21 : lw_okq (⟨"TagTowerModel", "doubled", "(IZ)V"⟩, 29) := ⟨⟨by decide +kernel, by decide +kernel⟩, List.mem_of_getElem? (i := 637) (by decide +kernel), List.mem_of_getElem? (i := 825) (by decide +kernel), List.mem_of_getElem? (i := 826) (by decide +kernel)⟩
theorem lw_p22 : lw_okq (⟨"TagTowerModel", "puts", "(I)V"⟩, 29) := ⟨⟨by decide +kernel, by decide +kernel⟩, List.mem_of_getElem? (i := 637) (by decide +kernel), List.mem_of_getElem? (i := 833) (by decide +kernel), List.mem_of_getElem? (i := 834) (by decide +kernel)⟩
theorem lw_p23 : lw_okq (⟨"TagTowerModel", "letterAt", "(I)I"⟩, 29) := ⟨⟨by decide +kernel, by decide +kernel⟩, List.mem_of_getElem? (i := 637) (by decide +kernel), List.mem_of_getElem? (i := 849) (by decide +kernel), List.mem_of_getElem? (i := 850) (by decide +kernel)⟩
theorem lw_p24 : lw_okq (⟨"TagTowerModel", "tags", "()Z"⟩, 29) := ⟨⟨by decide +kernel, by decide +kernel⟩, List.mem_of_getElem? (i := 637) (by decide +kernel), List.mem_of_getElem? (i := 862) (by decide +kernel), List.mem_of_getElem? (i := 863) (by decide +kernel)⟩
theorem lw_p25 : lw_okq (⟨"TagTowerModel", "tells", "()Z"⟩, 29) := ⟨⟨by decide +kernel, by decide +kernel⟩, List.mem_of_getElem? (i := 637) (by decide +kernel), List.mem_of_getElem? (i := 870) (by decide +kernel), List.mem_of_getElem? (i := 871) (by decide +kernel)⟩
theorem lw_p26 : lw_okq (⟨"TagTowerModel", "putBit", "(I)V"⟩, 29) := ⟨⟨by decide +kernel, by decide +kernel⟩, List.mem_of_getElem? (i := 637) (by decide +kernel), List.mem_of_getElem? (i := 888) (by decide +kernel), List.mem_of_getElem? (i := 889) (by decide +kernel)⟩
theorem lw_p27 : lw_okq (⟨"TagTowerModel", "cycles", "()Z"⟩, 29) := ⟨⟨by decide +kernel, by decide +kernel⟩, List.mem_of_getElem? (i := 637) (by decide +kernel), List.mem_of_getElem? (i := 897) (by decide +kernel), List.mem_of_getElem? (i := 898) (by decide +kernel)⟩
theorem lw_p28 : lw_okq (⟨"TagTowerModel", "isStill", "()Z"⟩, 29) := ⟨⟨by decide +kernel, by decide +kernel⟩, List.mem_of_getElem? (i := 637) (by decide +kernel), List.mem_of_getElem? (i := 901) (by decide +kernel), List.mem_of_getElem? (i := 902) (by decide +kernel)⟩
theorem lw_p29 : lw_okq (⟨"TagTowerModel", "letterOf", "(I)I"⟩, 29) := ⟨⟨by decide +kernel, by decide +kernel⟩, List.mem_of_getElem? (i := 637) (by decide +kernel), List.mem_of_getElem? (i := 905) (by decide +kernel), List.mem_of_getElem? (i := 906) (by decide +kernel)⟩
theorem lw_p30 : lw_okq (⟨"TagTowerModel", "bitAt", "(I)I"⟩, 29) := ⟨⟨by decide +kernel, by decide +kernel⟩, List.mem_of_getElem? (i := 637) (by decide +kernel), List.mem_of_getElem? (i := 909) (by decide +kernel), List.mem_of_getElem? (i := 910) (by decide +kernel)⟩
def lw_privs_2 : List (MethodName × Nat) := [(⟨"TagTowerModel", "mayMove", "()Z"⟩, 29), (⟨"TagTowerModel", "produce", "(I)V"⟩, 29), (⟨"TagTowerModel", "one", "(I)V"⟩, 29), (⟨"TagTowerModel", "makes", "(I)V"⟩, 29), (⟨"TagTowerModel", "produceRuled", "(IIII)V"⟩, 29), (⟨"TagTowerModel", "doubled", "(IZ)V"⟩, 29), (⟨"TagTowerModel", "puts", "(I)V"⟩, 29), (⟨"TagTowerModel", "letterAt", "(I)I"⟩, 29), (⟨"TagTowerModel", "tags", "()Z"⟩, 29), (⟨"TagTowerModel", "tells", "()Z"⟩, 29), (⟨"TagTowerModel", "putBit", "(I)V"⟩, 29), (⟨"TagTowerModel", "cycles", "()Z"⟩, 29), (⟨"TagTowerModel", "isStill", "()Z"⟩, 29), (⟨"TagTowerModel", "letterOf", "(I)I"⟩, 29), (⟨"TagTowerModel", "bitAt", "(I)I"⟩, 29)]
theorem lw_r2 : ∀ q ∈ lw_privs_2, lw_okq q := List.forall_mem_cons.mpr ⟨lw_p16, List.forall_mem_cons.mpr ⟨lw_p17, List.forall_mem_cons.mpr ⟨lw_p18, List.forall_mem_cons.mpr ⟨lw_p19, List.forall_mem_cons.mpr ⟨lw_p20, List.forall_mem_cons.mpr ⟨lw_p21, List.forall_mem_cons.mpr ⟨lw_p22, List.forall_mem_cons.mpr ⟨lw_p23, List.forall_mem_cons.mpr ⟨lw_p24, List.forall_mem_cons.mpr ⟨lw_p25, List.forall_mem_cons.mpr ⟨lw_p26, List.forall_mem_cons.mpr ⟨lw_p27, List.forall_mem_cons.mpr ⟨lw_p28, List.forall_mem_cons.mpr ⟨lw_p29, List.forall_mem_cons.mpr ⟨lw_p30, fun _ h => absurd h List.not_mem_nil⟩⟩⟩⟩⟩⟩⟩⟩⟩⟩⟩⟩⟩⟩⟩
def lw_privs : List (MethodName × Nat) := lw_privs_1 ++ (lw_privs_2)
def lw_tbl : List Cond := k2_sels lw_privs ++ tables_1
theorem lw_privs_ok : ∀ q ∈ lw_privs, lw_okq q := by
  show ∀ q ∈ lw_privs_1 ++ (lw_privs_2), lw_okq q
  exact List.forall_mem_append.mpr ⟨lw_r1, lw_r2⟩
-- ===== end of PART A; then your names; then what follows =====
end
section
def RX0 : String := "TagTower$Bits"
def TX0 : u_T := fun k => match k with
  | 0 => ("TagTower$Bits", "row", "LTagTower$LetterRow;", true)
  | _ => ("TagTower$Bits", "turn", "I", false)
def tyX0 : Nat → FieldType := fun k => match k with
  | 0 => .object "TagTower$LetterRow"
  | _ => .int
abbrev wsX00 : List Cond := u_ws RX0 TX0 2
theorem nmX0 : ∀ a, a < 2 → ∀ b, b < 2 → a ≠ b → (TX0 a).2.1 ≠ (TX0 b).2.1 := by decide +kernel
theorem tyX0_ok : ∀ k, k < 2 → parseFieldDescriptor (TX0 k).2.2.1 = some (tyX0 k) := by decide +kernel
abbrev cX0_init : ByteArray := prog_2_method_1_code
def yX0_init : MethodName := ⟨RX0, "<init>", "()V"⟩
abbrev cX0_layWord : ByteArray := prog_2_method_2_code
def yX0_layWord : MethodName := ⟨RX0, "layWord", "(LTagTower$LetterRow;)I"⟩
abbrev cX0_size : ByteArray := prog_2_method_3_code
def yX0_size : MethodName := ⟨RX0, "size", "()I"⟩
abbrev cX0_gone : ByteArray := prog_2_method_4_code
def yX0_gone : MethodName := ⟨RX0, "gone", "()I"⟩
abbrev cX0_get : ByteArray := prog_2_method_5_code
def yX0_get : MethodName := ⟨RX0, "get", "(I)I"⟩
abbrev cX0_ones : ByteArray := prog_2_method_6_code
def yX0_ones : MethodName := ⟨RX0, "ones", "()I"⟩
abbrev cX0_isStill : ByteArray := prog_2_method_7_code
def yX0_isStill : MethodName := ⟨RX0, "isStill", "(LTagTower$Productions;)Z"⟩
abbrev cX0_doSteps : ByteArray := prog_2_method_8_code
def yX0_doSteps : MethodName := ⟨RX0, "doSteps", "(ILTagTower$Productions;)I"⟩
abbrev cX0_take : ByteArray := prog_2_method_9_code
def yX0_take : MethodName := ⟨RX0, "take", "(ILTagTower$Productions;)I"⟩
abbrev cX0_takeOne : ByteArray := prog_2_method_10_code
def yX0_takeOne : MethodName := ⟨RX0, "takeOne", "(LTagTower$Productions;)I"⟩
abbrev cX0_pass : ByteArray := prog_2_method_11_code
def yX0_pass : MethodName := ⟨RX0, "pass", "(I)V"⟩
def RX1 : String := "TagTower$Counters"
def TX1 : u_T := fun k => match k with
  | 0 => ("TagTower$Counters", "values", "[I", true)
  | 1 => ("TagTower$Counters", "ops", "[I", true)
  | 2 => ("TagTower$Counters", "worked", "[I", true)
  | 3 => ("TagTower$Counters", "onward", "[I", true)
  | 4 => ("TagTower$Counters", "ifZero", "[I", true)
  | 5 => ("TagTower$Counters", "lines", "I", false)
  | _ => ("TagTower$Counters", "now", "I", false)
def tyX1 : Nat → FieldType := fun k => match k with
  | 0 => .array .int
  | 1 => .array .int
  | 2 => .array .int
  | 3 => .array .int
  | 4 => .array .int
  | 5 => .int
  | _ => .int
abbrev wsX10 : List Cond := u_ws RX1 TX1 7
theorem nmX1 : ∀ a, a < 7 → ∀ b, b < 7 → a ≠ b → (TX1 a).2.1 ≠ (TX1 b).2.1 := by decide +kernel
theorem tyX1_ok : ∀ k, k < 7 → parseFieldDescriptor (TX1 k).2.2.1 = some (tyX1 k) := by decide +kernel
abbrev cX1_init : ByteArray := prog_3_method_1_code
def yX1_init : MethodName := ⟨RX1, "<init>", "()V"⟩
abbrev cX1_addLine : ByteArray := prog_3_method_2_code
def yX1_addLine : MethodName := ⟨RX1, "addLine", "(IIII)I"⟩
abbrev cX1_forgetLines : ByteArray := prog_3_method_3_code
def yX1_forgetLines : MethodName := ⟨RX1, "forgetLines", "()I"⟩
abbrev cX1_value : ByteArray := prog_3_method_4_code
def yX1_value : MethodName := ⟨RX1, "value", "(I)I"⟩
abbrev cX1_putValue : ByteArray := prog_3_method_5_code
def yX1_putValue : MethodName := ⟨RX1, "putValue", "(II)I"⟩
abbrev cX1_lineNow : ByteArray := prog_3_method_6_code
def yX1_lineNow : MethodName := ⟨RX1, "lineNow", "()I"⟩
abbrev cX1_jump : ByteArray := prog_3_method_7_code
def yX1_jump : MethodName := ⟨RX1, "jump", "(I)I"⟩
abbrev cX1_doLines : ByteArray := prog_3_method_8_code
def yX1_doLines : MethodName := ⟨RX1, "doLines", "(I)I"⟩
abbrev cX1_doLine : ByteArray := prog_3_method_9_code
def yX1_doLine : MethodName := ⟨RX1, "doLine", "()Z"⟩
abbrev cX1_countUp : ByteArray := prog_3_method_10_code
def yX1_countUp : MethodName := ⟨RX1, "countUp", "(I)Z"⟩
abbrev cX1_countDown : ByteArray := prog_3_method_11_code
def yX1_countDown : MethodName := ⟨RX1, "countDown", "(I)Z"⟩
def RX2 : String := "TagTower$LetterRow"
def TX2 : u_T := fun k => match k with
  | 0 => ("TagTower$LetterRow", "cells", "[I", true)
  | 1 => ("TagTower$LetterRow", "head", "I", false)
  | _ => ("TagTower$LetterRow", "size", "I", false)
def tyX2 : Nat → FieldType := fun k => match k with
  | 0 => .array .int
  | 1 => .int
  | _ => .int
abbrev wsX20 : List Cond := u_ws RX2 TX2 3
theorem nmX2 : ∀ a, a < 3 → ∀ b, b < 3 → a ≠ b → (TX2 a).2.1 ≠ (TX2 b).2.1 := by decide +kernel
theorem tyX2_ok : ∀ k, k < 3 → parseFieldDescriptor (TX2 k).2.2.1 = some (tyX2 k) := by decide +kernel
abbrev cX2_init : ByteArray := prog_4_method_1_code
def yX2_init : MethodName := ⟨RX2, "<init>", "(I)V"⟩
abbrev cX2_empty : ByteArray := prog_4_method_2_code
def yX2_empty : MethodName := ⟨RX2, "empty", "()V"⟩
abbrev cX2_get : ByteArray := prog_4_method_3_code
def yX2_get : MethodName := ⟨RX2, "get", "(I)I"⟩
abbrev cX2_append : ByteArray := prog_4_method_4_code
def yX2_append : MethodName := ⟨RX2, "append", "(I)V"⟩
abbrev cX2_drop : ByteArray := prog_4_method_5_code
def yX2_drop : MethodName := ⟨RX2, "drop", "(I)V"⟩
abbrev cX2_become : ByteArray := prog_4_method_6_code
def yX2_become : MethodName := ⟨RX2, "become", "(LTagTower$LetterRow;)V"⟩
abbrev cX2_wrapped : ByteArray := prog_4_method_7_code
def yX2_wrapped : MethodName := ⟨RX2, "wrapped", "(I)I"⟩
def RX3 : String := "TagTower$Machine"
def TX3 : u_T := fun k => match k with
  | 0 => ("TagTower$Machine", "ruled", "[Z", true)
  | 1 => ("TagTower$Machine", "signs", "[I", true)
  | 2 => ("TagTower$Machine", "ways", "[I", true)
  | 3 => ("TagTower$Machine", "states", "[I", true)
  | 4 => ("TagTower$Machine", "rules", "I", false)
  | 5 => ("TagTower$Machine", "state", "I", false)
  | 6 => ("TagTower$Machine", "sign", "I", false)
  | 7 => ("TagTower$Machine", "left", "I", false)
  | _ => ("TagTower$Machine", "right", "I", false)
def tyX3 : Nat → FieldType := fun k => match k with
  | 0 => .array .boolean
  | 1 => .array .int
  | 2 => .array .int
  | 3 => .array .int
  | 4 => .int
  | 5 => .int
  | 6 => .int
  | 7 => .int
  | _ => .int
abbrev wsX30 : List Cond := u_ws RX3 TX3 9
theorem nmX3 : ∀ a, a < 9 → ∀ b, b < 9 → a ≠ b → (TX3 a).2.1 ≠ (TX3 b).2.1 := by decide +kernel
theorem tyX3_ok : ∀ k, k < 9 → parseFieldDescriptor (TX3 k).2.2.1 = some (tyX3 k) := by decide +kernel
abbrev cX3_init : ByteArray := prog_5_method_1_code
def yX3_init : MethodName := ⟨RX3, "<init>", "()V"⟩
abbrev cX3_putRule : ByteArray := prog_5_method_2_code
def yX3_putRule : MethodName := ⟨RX3, "putRule", "(IIII)I"⟩
abbrev cX3_dropRule : ByteArray := prog_5_method_3_code
def yX3_dropRule : MethodName := ⟨RX3, "dropRule", "(I)I"⟩
abbrev cX3_putPlace : ByteArray := prog_5_method_4_code
def yX3_putPlace : MethodName := ⟨RX3, "putPlace", "(IIII)V"⟩
abbrev cX3_isStill : ByteArray := prog_5_method_5_code
def yX3_isStill : MethodName := ⟨RX3, "isStill", "()Z"⟩
abbrev cX3_doSteps : ByteArray := prog_5_method_6_code
def yX3_doSteps : MethodName := ⟨RX3, "doSteps", "(I)I"⟩
abbrev cX3_doStep : ByteArray := prog_5_method_7_code
def yX3_doStep : MethodName := ⟨RX3, "doStep", "()Z"⟩
def RX4 : String := "TagTower$Productions"
def TX4 : u_T := fun k => match k with
  | 0 => ("TagTower$Productions", "sizes", "[I", true)
  | _ => ("TagTower$Productions", "letters", "[I", true)
def tyX4 : Nat → FieldType := fun k => match k with
  | 0 => .array .int
  | _ => .array .int
abbrev wsX40 : List Cond := u_ws RX4 TX4 2
theorem nmX4 : ∀ a, a < 2 → ∀ b, b < 2 → a ≠ b → (TX4 a).2.1 ≠ (TX4 b).2.1 := by decide +kernel
theorem tyX4_ok : ∀ k, k < 2 → parseFieldDescriptor (TX4 k).2.2.1 = some (tyX4 k) := by decide +kernel
abbrev cX4_init : ByteArray := prog_6_method_1_code
def yX4_init : MethodName := ⟨RX4, "<init>", "()V"⟩
abbrev cX4_followNone : ByteArray := prog_6_method_2_code
def yX4_followNone : MethodName := ⟨RX4, "followNone", "(I)V"⟩
abbrev cX4_follow : ByteArray := prog_6_method_3_code
def yX4_follow : MethodName := ⟨RX4, "follow", "(IIII)V"⟩
abbrev cX4_write : ByteArray := prog_6_method_4_code
def yX4_write : MethodName := ⟨RX4, "write", "(Ljava/lang/String;II)V"⟩
abbrev cX4_pairMarked : ByteArray := prog_6_method_5_code
def yX4_pairMarked : MethodName := ⟨RX4, "pairMarked", "(CII)I"⟩
abbrev cX4_number : ByteArray := prog_6_method_6_code
def yX4_number : MethodName := ⟨RX4, "number", "(II)I"⟩
abbrev cX4_append : ByteArray := prog_6_method_7_code
def yX4_append : MethodName := ⟨RX4, "append", "(II)V"⟩
abbrev cX4_sizeOf : ByteArray := prog_6_method_8_code
def yX4_sizeOf : MethodName := ⟨RX4, "sizeOf", "(I)I"⟩
abbrev cX4_letterAt : ByteArray := prog_6_method_9_code
def yX4_letterAt : MethodName := ⟨RX4, "letterAt", "(II)I"⟩
abbrev cX4_bitAt : ByteArray := prog_6_method_10_code
def yX4_bitAt : MethodName := ⟨RX4, "bitAt", "(II)I"⟩
abbrev cX4_appendTo : ByteArray := prog_6_method_11_code
def yX4_appendTo : MethodName := ⟨RX4, "appendTo", "(LTagTower$LetterRow;I)V"⟩
def RX5 : String := "TagTower$Word"
def TX5 : u_T := fun k => match k with
  | 0 => ("TagTower$Word", "row", "LTagTower$LetterRow;", true)
  | _ => ("TagTower$Word", "kept", "LTagTower$LetterRow;", true)
def tyX5 : Nat → FieldType := fun k => match k with
  | 0 => .object "TagTower$LetterRow"
  | _ => .object "TagTower$LetterRow"
abbrev wsX50 : List Cond := u_ws RX5 TX5 2
theorem nmX5 : ∀ a, a < 2 → ∀ b, b < 2 → a ≠ b → (TX5 a).2.1 ≠ (TX5 b).2.1 := by decide +kernel
theorem tyX5_ok : ∀ k, k < 2 → parseFieldDescriptor (TX5 k).2.2.1 = some (tyX5 k) := by decide +kernel
abbrev cX5_init : ByteArray := prog_7_method_1_code
def yX5_init : MethodName := ⟨RX5, "<init>", "()V"⟩
abbrev cX5_layPlace : ByteArray := prog_7_method_2_code
def yX5_layPlace : MethodName := ⟨RX5, "layPlace", "(III)I"⟩
abbrev cX5_appendTwos : ByteArray := prog_7_method_3_code
def yX5_appendTwos : MethodName := ⟨RX5, "appendTwos", "(II)V"⟩
abbrev cX5_addLetter : ByteArray := prog_7_method_4_code
def yX5_addLetter : MethodName := ⟨RX5, "addLetter", "(I)I"⟩
abbrev cX5_doSteps : ByteArray := prog_7_method_5_code
def yX5_doSteps : MethodName := ⟨RX5, "doSteps", "(ILTagTower$Productions;)I"⟩
abbrev cX5_stepsToPlace : ByteArray := prog_7_method_6_code
def yX5_stepsToPlace : MethodName := ⟨RX5, "stepsToPlace", "(LTagTower$Productions;)I"⟩
abbrev cX5_doStep : ByteArray := prog_7_method_7_code
def yX5_doStep : MethodName := ⟨RX5, "doStep", "(LTagTower$Productions;)Z"⟩
abbrev cX5_tellPlace : ByteArray := prog_7_method_8_code
def yX5_tellPlace : MethodName := ⟨RX5, "tellPlace", "(I)I"⟩
abbrev cX5_middle : ByteArray := prog_7_method_9_code
def yX5_middle : MethodName := ⟨RX5, "middle", "()I"⟩
abbrev cX5_behindTwos : ByteArray := prog_7_method_10_code
def yX5_behindTwos : MethodName := ⟨RX5, "behindTwos", "(II)I"⟩
def RX6 : String := "TagTower"
def TX6 : u_T := fun k => match k with
  | 0 => ("TagTower", "counters", "LTagTower$Counters;", true)
  | 1 => ("TagTower", "machine", "LTagTower$Machine;", true)
  | 2 => ("TagTower", "productions", "LTagTower$Productions;", true)
  | 3 => ("TagTower", "word", "LTagTower$Word;", true)
  | _ => ("TagTower", "bitRow", "LTagTower$Bits;", true)
def tyX6 : Nat → FieldType := fun k => match k with
  | 0 => .object "TagTower$Counters"
  | 1 => .object "TagTower$Machine"
  | 2 => .object "TagTower$Productions"
  | 3 => .object "TagTower$Word"
  | _ => .object "TagTower$Bits"
abbrev wsX60 : List Cond := u_ws RX6 TX6 5
theorem nmX6 : ∀ a, a < 5 → ∀ b, b < 5 → a ≠ b → (TX6 a).2.1 ≠ (TX6 b).2.1 := by decide +kernel
theorem tyX6_ok : ∀ k, k < 5 → parseFieldDescriptor (TX6 k).2.2.1 = some (tyX6 k) := by decide +kernel
abbrev cX6_init : ByteArray := prog_1_method_1_code
def yX6_init : MethodName := ⟨RX6, "<init>", "()V"⟩
abbrev cX6_line : ByteArray := prog_1_method_2_code
def yX6_line : MethodName := ⟨RX6, "line", "(IIII)I"⟩
abbrev cX6_wipe : ByteArray := prog_1_method_3_code
def yX6_wipe : MethodName := ⟨RX6, "wipe", "()I"⟩
abbrev cX6_set : ByteArray := prog_1_method_4_code
def yX6_set : MethodName := ⟨RX6, "set", "(II)I"⟩
abbrev cX6_counter : ByteArray := prog_1_method_5_code
def yX6_counter : MethodName := ⟨RX6, "counter", "(I)I"⟩
abbrev cX6_count : ByteArray := prog_1_method_6_code
def yX6_count : MethodName := ⟨RX6, "count", "(I)I"⟩
abbrev cX6_at : ByteArray := prog_1_method_7_code
def yX6_at : MethodName := ⟨RX6, "at", "()I"⟩
abbrev cX6_go : ByteArray := prog_1_method_8_code
def yX6_go : MethodName := ⟨RX6, "go", "(I)I"⟩
abbrev cX6_rule : ByteArray := prog_1_method_9_code
def yX6_rule : MethodName := ⟨RX6, "rule", "(IIIII)I"⟩
abbrev cX6_unrule : ByteArray := prog_1_method_10_code
def yX6_unrule : MethodName := ⟨RX6, "unrule", "(II)I"⟩
abbrev cX6_place : ByteArray := prog_1_method_11_code
def yX6_place : MethodName := ⟨RX6, "place", "(IIII)I"⟩
abbrev cX6_move : ByteArray := prog_1_method_12_code
def yX6_move : MethodName := ⟨RX6, "move", "(I)I"⟩
abbrev cX6_where : ByteArray := prog_1_method_13_code
def yX6_where : MethodName := ⟨RX6, "where", "(I)I"⟩
abbrev cX6_production : ByteArray := prog_1_method_14_code
def yX6_production : MethodName := ⟨RX6, "production", "(II)I"⟩
abbrev cX6_lay : ByteArray := prog_1_method_15_code
def yX6_lay : MethodName := ⟨RX6, "lay", "()I"⟩
abbrev cX6_add : ByteArray := prog_1_method_16_code
def yX6_add : MethodName := ⟨RX6, "add", "(I)I"⟩
abbrev cX6_clear : ByteArray := prog_1_method_17_code
def yX6_clear : MethodName := ⟨RX6, "clear", "()I"⟩
abbrev cX6_letter : ByteArray := prog_1_method_18_code
def yX6_letter : MethodName := ⟨RX6, "letter", "(I)I"⟩
abbrev cX6_length : ByteArray := prog_1_method_19_code
def yX6_length : MethodName := ⟨RX6, "length", "()I"⟩
abbrev cX6_tag : ByteArray := prog_1_method_20_code
def yX6_tag : MethodName := ⟨RX6, "tag", "(I)I"⟩
abbrev cX6_next : ByteArray := prog_1_method_21_code
def yX6_next : MethodName := ⟨RX6, "next", "()I"⟩
abbrev cX6_told : ByteArray := prog_1_method_22_code
def yX6_told : MethodName := ⟨RX6, "told", "(I)I"⟩
abbrev cX6_appendant : ByteArray := prog_1_method_23_code
def yX6_appendant : MethodName := ⟨RX6, "appendant", "(II)I"⟩
abbrev cX6_spread : ByteArray := prog_1_method_24_code
def yX6_spread : MethodName := ⟨RX6, "spread", "()I"⟩
abbrev cX6_cycle : ByteArray := prog_1_method_25_code
def yX6_cycle : MethodName := ⟨RX6, "cycle", "(I)I"⟩
abbrev cX6_bit : ByteArray := prog_1_method_26_code
def yX6_bit : MethodName := ⟨RX6, "bit", "(I)I"⟩
abbrev cX6_bits : ByteArray := prog_1_method_27_code
def yX6_bits : MethodName := ⟨RX6, "bits", "(I)I"⟩
abbrev cX6_gather : ByteArray := prog_1_method_28_code
def yX6_gather : MethodName := ⟨RX6, "gather", "()I"⟩
abbrev cX6_outside : ByteArray := prog_1_method_29_code
def yX6_outside : MethodName := ⟨RX6, "outside", "(III)Z"⟩
abbrev cX6_oneIf : ByteArray := prog_1_method_30_code
def yX6_oneIf : MethodName := ⟨RX6, "oneIf", "(Z)I"⟩
abbrev cX6_pairOf : ByteArray := prog_1_method_31_code
def yX6_pairOf : MethodName := ⟨RX6, "pairOf", "(II)I"⟩
def RX7 : String := "TagTowerModel"
def TX7 : u_T := fun k => match k with
  | 0 => ("TagTowerModel", "thrown", "I", false)
  | 1 => ("TagTowerModel", "counter", "[I", true)
  | 2 => ("TagTowerModel", "lines", "I", false)
  | 3 => ("TagTowerModel", "op", "[I", true)
  | 4 => ("TagTowerModel", "which", "[I", true)
  | 5 => ("TagTowerModel", "then", "[I", true)
  | 6 => ("TagTowerModel", "other", "[I", true)
  | 7 => ("TagTowerModel", "line", "I", false)
  | 8 => ("TagTowerModel", "writes", "[I", true)
  | 9 => ("TagTowerModel", "way", "[I", true)
  | 10 => ("TagTowerModel", "goes", "[I", true)
  | 11 => ("TagTowerModel", "state", "I", false)
  | 12 => ("TagTowerModel", "sign", "I", false)
  | 13 => ("TagTowerModel", "left", "I", false)
  | 14 => ("TagTowerModel", "right", "I", false)
  | 15 => ("TagTowerModel", "begin", "I", false)
  | 16 => ("TagTowerModel", "length", "I", false)
  | 17 => ("TagTowerModel", "word", "[I", true)
  | 18 => ("TagTowerModel", "savedLength", "I", false)
  | 19 => ("TagTowerModel", "saved", "[I", true)
  | 20 => ("TagTowerModel", "first", "I", false)
  | 21 => ("TagTowerModel", "many", "I", false)
  | 22 => ("TagTowerModel", "bits", "[I", true)
  | 23 => ("TagTowerModel", "turn", "I", false)
  | 24 => ("TagTowerModel", "made", "I", false)
  | 25 => ("TagTowerModel", "makes", "[I", true)
  | 26 => ("TagTowerModel", "toldPair", "I", false)
  | 27 => ("TagTowerModel", "toldLeft", "I", false)
  | _ => ("TagTowerModel", "toldRight", "I", false)
def tyX7 : Nat → FieldType := fun k => match k with
  | 0 => .int
  | 1 => .array .int
  | 2 => .int
  | 3 => .array .int
  | 4 => .array .int
  | 5 => .array .int
  | 6 => .array .int
  | 7 => .int
  | 8 => .array .int
  | 9 => .array .int
  | 10 => .array .int
  | 11 => .int
  | 12 => .int
  | 13 => .int
  | 14 => .int
  | 15 => .int
  | 16 => .int
  | 17 => .array .int
  | 18 => .int
  | 19 => .array .int
  | 20 => .int
  | 21 => .int
  | 22 => .array .int
  | 23 => .int
  | 24 => .int
  | 25 => .array .int
  | 26 => .int
  | 27 => .int
  | _ => .int
abbrev wsX70 : List Cond := u_ws RX7 TX7 29
theorem nmX7 : ∀ a, a < 29 → ∀ b, b < 29 → a ≠ b → (TX7 a).2.1 ≠ (TX7 b).2.1 := by decide +kernel
theorem tyX7_ok : ∀ k, k < 29 → parseFieldDescriptor (TX7 k).2.2.1 = some (tyX7 k) := by decide +kernel
abbrev cX7_init : ByteArray := prog_9_method_1_code
def yX7_init : MethodName := ⟨RX7, "<init>", "()V"⟩
abbrev cX7_in : ByteArray := prog_9_method_3_code
def yX7_in : MethodName := ⟨RX7, "in", "(JJJ)Z"⟩
abbrev cX7_line : ByteArray := prog_9_method_4_code
def yX7_line : MethodName := ⟨RX7, "line", "(IIII)I"⟩
abbrev cX7_wipe : ByteArray := prog_9_method_5_code
def yX7_wipe : MethodName := ⟨RX7, "wipe", "()I"⟩
abbrev cX7_set : ByteArray := prog_9_method_6_code
def yX7_set : MethodName := ⟨RX7, "set", "(II)I"⟩
abbrev cX7_counter : ByteArray := prog_9_method_7_code
def yX7_counter : MethodName := ⟨RX7, "counter", "(I)I"⟩
abbrev cX7_mayDo : ByteArray := prog_9_method_8_code
def yX7_mayDo : MethodName := ⟨RX7, "mayDo", "()Z"⟩
abbrev cX7_count : ByteArray := prog_9_method_9_code
def yX7_count : MethodName := ⟨RX7, "count", "(I)I"⟩
abbrev cX7_at : ByteArray := prog_9_method_10_code
def yX7_at : MethodName := ⟨RX7, "at", "()I"⟩
abbrev cX7_go : ByteArray := prog_9_method_11_code
def yX7_go : MethodName := ⟨RX7, "go", "(I)I"⟩
abbrev cX7_isPair : ByteArray := prog_9_method_12_code
def yX7_isPair : MethodName := ⟨RX7, "isPair", "(II)Z"⟩
abbrev cX7_rule : ByteArray := prog_9_method_13_code
def yX7_rule : MethodName := ⟨RX7, "rule", "(IIIII)I"⟩
abbrev cX7_unrule : ByteArray := prog_9_method_14_code
def yX7_unrule : MethodName := ⟨RX7, "unrule", "(II)I"⟩
abbrev cX7_place : ByteArray := prog_9_method_15_code
def yX7_place : MethodName := ⟨RX7, "place", "(IIII)I"⟩
abbrev cX7_mayMove : ByteArray := prog_9_method_16_code
def yX7_mayMove : MethodName := ⟨RX7, "mayMove", "()Z"⟩
abbrev cX7_move : ByteArray := prog_9_method_17_code
def yX7_move : MethodName := ⟨RX7, "move", "(I)I"⟩
abbrev cX7_where : ByteArray := prog_9_method_18_code
def yX7_where : MethodName := ⟨RX7, "where", "(I)I"⟩
abbrev cX7_makes : ByteArray := prog_9_method_19_code
def yX7_makes : MethodName := ⟨RX7, "makes", "(I)V"⟩
abbrev cX7_of : ByteArray := prog_9_method_20_code
def yX7_of : MethodName := ⟨RX7, "of", "(II)I"⟩
abbrev cX7_one : ByteArray := prog_9_method_21_code
def yX7_one : MethodName := ⟨RX7, "one", "(I)V"⟩
abbrev cX7_doubled : ByteArray := prog_9_method_22_code
def yX7_doubled : MethodName := ⟨RX7, "doubled", "(IZ)V"⟩
abbrev cX7_produceRuled : ByteArray := prog_9_method_23_code
def yX7_produceRuled : MethodName := ⟨RX7, "produceRuled", "(IIII)V"⟩
abbrev cX7_produce : ByteArray := prog_9_method_24_code
def yX7_produce : MethodName := ⟨RX7, "produce", "(I)V"⟩
abbrev cX7_production : ByteArray := prog_9_method_25_code
def yX7_production : MethodName := ⟨RX7, "production", "(II)I"⟩
abbrev cX7_letterAt : ByteArray := prog_9_method_26_code
def yX7_letterAt : MethodName := ⟨RX7, "letterAt", "(I)I"⟩
abbrev cX7_puts : ByteArray := prog_9_method_27_code
def yX7_puts : MethodName := ⟨RX7, "puts", "(I)V"⟩
abbrev cX7_lay : ByteArray := prog_9_method_28_code
def yX7_lay : MethodName := ⟨RX7, "lay", "()I"⟩
abbrev cX7_add : ByteArray := prog_9_method_29_code
def yX7_add : MethodName := ⟨RX7, "add", "(I)I"⟩
abbrev cX7_clear : ByteArray := prog_9_method_30_code
def yX7_clear : MethodName := ⟨RX7, "clear", "()I"⟩
abbrev cX7_letter : ByteArray := prog_9_method_31_code
def yX7_letter : MethodName := ⟨RX7, "letter", "(I)I"⟩
abbrev cX7_length : ByteArray := prog_9_method_32_code
def yX7_length : MethodName := ⟨RX7, "length", "()I"⟩
abbrev cX7_tags : ByteArray := prog_9_method_33_code
def yX7_tags : MethodName := ⟨RX7, "tags", "()Z"⟩
abbrev cX7_tag : ByteArray := prog_9_method_34_code
def yX7_tag : MethodName := ⟨RX7, "tag", "(I)I"⟩
abbrev cX7_tells : ByteArray := prog_9_method_35_code
def yX7_tells : MethodName := ⟨RX7, "tells", "()Z"⟩
abbrev cX7_next : ByteArray := prog_9_method_36_code
def yX7_next : MethodName := ⟨RX7, "next", "()I"⟩
abbrev cX7_told : ByteArray := prog_9_method_37_code
def yX7_told : MethodName := ⟨RX7, "told", "(I)I"⟩
abbrev cX7_bitAt : ByteArray := prog_9_method_38_code
def yX7_bitAt : MethodName := ⟨RX7, "bitAt", "(I)I"⟩
abbrev cX7_putBit : ByteArray := prog_9_method_39_code
def yX7_putBit : MethodName := ⟨RX7, "putBit", "(I)V"⟩
abbrev cX7_appendant : ByteArray := prog_9_method_40_code
def yX7_appendant : MethodName := ⟨RX7, "appendant", "(II)I"⟩
abbrev cX7_spread : ByteArray := prog_9_method_41_code
def yX7_spread : MethodName := ⟨RX7, "spread", "()I"⟩
abbrev cX7_letterOf : ByteArray := prog_9_method_42_code
def yX7_letterOf : MethodName := ⟨RX7, "letterOf", "(I)I"⟩
abbrev cX7_isStill : ByteArray := prog_9_method_43_code
def yX7_isStill : MethodName := ⟨RX7, "isStill", "()Z"⟩
abbrev cX7_cycles : ByteArray := prog_9_method_44_code
def yX7_cycles : MethodName := ⟨RX7, "cycles", "()Z"⟩
abbrev cX7_cycle : ByteArray := prog_9_method_45_code
def yX7_cycle : MethodName := ⟨RX7, "cycle", "(I)I"⟩
abbrev cX7_bit : ByteArray := prog_9_method_46_code
def yX7_bit : MethodName := ⟨RX7, "bit", "(I)I"⟩
abbrev cX7_bits : ByteArray := prog_9_method_47_code
def yX7_bits : MethodName := ⟨RX7, "bits", "(I)I"⟩
abbrev cX7_gather : ByteArray := prog_9_method_48_code
def yX7_gather : MethodName := ⟨RX7, "gather", "()I"⟩
def RJ11 : String := "java/lang/Character"
def TJ11 : u_T := fun k => match k with
  | _ => ("", "", "", false)
def tyJ11 : Nat → FieldType := fun k => match k with
  | _ => .int
theorem nmJ11 : ∀ a, a < 0 → ∀ b, b < 0 → a ≠ b → (TJ11 a).2.1 ≠ (TJ11 b).2.1 := by decide +kernel
theorem tyJ11_ok : ∀ k, k < 0 → parseFieldDescriptor (TJ11 k).2.2.1 = some (tyJ11 k) := by decide +kernel
abbrev cJ11_isValidCodePoint_9a6ad : ByteArray := prog_10_method_11_code
def yJ11_isValidCodePoint_9a6ad : MethodName := ⟨RJ11, "isValidCodePoint", "(I)Z"⟩
abbrev cJ11_highSurrogate_5068e : ByteArray := prog_10_method_28_code
def yJ11_highSurrogate_5068e : MethodName := ⟨RJ11, "highSurrogate", "(I)C"⟩
abbrev cJ11_lowSurrogate_5068e : ByteArray := prog_10_method_29_code
def yJ11_lowSurrogate_5068e : MethodName := ⟨RJ11, "lowSurrogate", "(I)C"⟩
def RJ9 : String := "java/lang/Math"
def TJ9 : u_T := fun k => match k with
  | _ => ("", "", "", false)
def tyJ9 : Nat → FieldType := fun k => match k with
  | _ => .int
theorem nmJ9 : ∀ a, a < 0 → ∀ b, b < 0 → a ≠ b → (TJ9 a).2.1 ≠ (TJ9 b).2.1 := by decide +kernel
theorem tyJ9_ok : ∀ k, k < 0 → parseFieldDescriptor (TJ9 k).2.2.1 = some (tyJ9 k) := by decide +kernel
abbrev cJ9_max_7cf53 : ByteArray := prog_11_method_65_code
def yJ9_max_7cf53 : MethodName := ⟨RJ9, "max", "(II)I"⟩
abbrev cJ9_min_7cf53 : ByteArray := prog_11_method_69_code
def yJ9_min_7cf53 : MethodName := ⟨RJ9, "min", "(II)I"⟩
def RJ0 : String := "java/lang/String"
def TJ0 : u_T := fun k => match k with
  | _ => ("", "", "", false)
def tyJ0 : Nat → FieldType := fun k => match k with
  | _ => .int
theorem nmJ0 : ∀ a, a < 0 → ∀ b, b < 0 → a ≠ b → (TJ0 a).2.1 ≠ (TJ0 b).2.1 := by decide +kernel
theorem tyJ0_ok : ∀ k, k < 0 → parseFieldDescriptor (TJ0 k).2.2.1 = some (tyJ0 k) := by decide +kernel
abbrev cJ0_length_8abf5 : ByteArray := prog_12_method_54_code
def yJ0_length_8abf5 : MethodName := ⟨RJ0, "length", "()I"⟩
abbrev cJ0_charAt_5068e : ByteArray := prog_12_method_56_code
def yJ0_charAt_5068e : MethodName := ⟨RJ0, "charAt", "(I)C"⟩
abbrev cJ0_indexOf_0f7a4 : ByteArray := prog_12_method_79_code
def yJ0_indexOf_0f7a4 : MethodName := ⟨RJ0, "indexOf", "(I)I"⟩
abbrev cJ0_indexOf_7cf53 : ByteArray := prog_12_method_80_code
def yJ0_indexOf_7cf53 : MethodName := ⟨RJ0, "indexOf", "(II)I"⟩
abbrev cJ0_coder_7d493 : ByteArray := prog_12_method_152_code
def yJ0_coder_7d493 : MethodName := ⟨RJ0, "coder", "()B"⟩
abbrev cJ0_isLatin1_aae02 : ByteArray := prog_12_method_154_code
def yJ0_isLatin1_aae02 : MethodName := ⟨RJ0, "isLatin1", "()Z"⟩
abbrev cJ0_checkIndex_df160 : ByteArray := prog_12_method_155_code
def yJ0_checkIndex_df160 : MethodName := ⟨RJ0, "checkIndex", "(II)V"⟩
abbrev cJ0_checkBoundsBeginEnd_23922 : ByteArray := prog_12_method_158_code
def yJ0_checkBoundsBeginEnd_23922 : MethodName := ⟨RJ0, "checkBoundsBeginEnd", "(III)V"⟩
def RJ1 : String := "java/lang/StringLatin1"
def TJ1 : u_T := fun k => match k with
  | _ => ("", "", "", false)
def tyJ1 : Nat → FieldType := fun k => match k with
  | _ => .int
theorem nmJ1 : ∀ a, a < 0 → ∀ b, b < 0 → a ≠ b → (TJ1 a).2.1 ≠ (TJ1 b).2.1 := by decide +kernel
theorem tyJ1_ok : ∀ k, k < 0 → parseFieldDescriptor (TJ1 k).2.2.1 = some (tyJ1 k) := by decide +kernel
abbrev cJ1_charAt_3b067 : ByteArray := prog_13_method_2_code
def yJ1_charAt_3b067 : MethodName := ⟨RJ1, "charAt", "([BI)C"⟩
abbrev cJ1_canEncode_9a6ad : ByteArray := prog_13_method_4_code
def yJ1_canEncode_9a6ad : MethodName := ⟨RJ1, "canEncode", "(I)Z"⟩
abbrev cJ1_indexOf_4cfef : ByteArray := prog_13_method_22_code
def yJ1_indexOf_4cfef : MethodName := ⟨RJ1, "indexOf", "([BIII)I"⟩
abbrev cJ1_indexOfChar_4cfef : ByteArray := prog_13_method_23_code
def yJ1_indexOfChar_4cfef : MethodName := ⟨RJ1, "indexOfChar", "([BIII)I"⟩
def RJ2 : String := "java/lang/StringUTF16"
def TJ2 : u_T := fun k => match k with
  | _ => ("", "", "", false)
def tyJ2 : Nat → FieldType := fun k => match k with
  | _ => .int
theorem nmJ2 : ∀ a, a < 0 → ∀ b, b < 0 → a ≠ b → (TJ2 a).2.1 ≠ (TJ2 b).2.1 := by decide +kernel
theorem tyJ2_ok : ∀ k, k < 0 → parseFieldDescriptor (TJ2 k).2.2.1 = some (tyJ2 k) := by decide +kernel
abbrev cJ2_getChar_3b067 : ByteArray := prog_14_method_5_code
def yJ2_getChar_3b067 : MethodName := ⟨RJ2, "getChar", "([BI)C"⟩
abbrev cJ2_length_9d52b : ByteArray := prog_14_method_6_code
def yJ2_length_9d52b : MethodName := ⟨RJ2, "length", "([B)I"⟩
abbrev cJ2_indexOf_4cfef : ByteArray := prog_14_method_40_code
def yJ2_indexOf_4cfef : MethodName := ⟨RJ2, "indexOf", "([BIII)I"⟩
abbrev cJ2_indexOfChar_4cfef : ByteArray := prog_14_method_47_code
def yJ2_indexOfChar_4cfef : MethodName := ⟨RJ2, "indexOfChar", "([BIII)I"⟩
abbrev cJ2_indexOfCharUnsafe_4cfef : ByteArray := prog_14_method_48_code
def yJ2_indexOfCharUnsafe_4cfef : MethodName := ⟨RJ2, "indexOfCharUnsafe", "([BIII)I"⟩
abbrev cJ2_indexOfSupplementary_4cfef : ByteArray := prog_14_method_49_code
def yJ2_indexOfSupplementary_4cfef : MethodName := ⟨RJ2, "indexOfSupplementary", "([BIII)I"⟩
abbrev cJ2_charAt_3b067 : ByteArray := prog_14_method_83_code
def yJ2_charAt_3b067 : MethodName := ⟨RJ2, "charAt", "([BI)C"⟩
abbrev cJ2_checkIndex_2214a : ByteArray := prog_14_method_91_code
def yJ2_checkIndex_2214a : MethodName := ⟨RJ2, "checkIndex", "(I[B)V"⟩
abbrev cJ2_checkBoundsBeginEnd_d044e : ByteArray := prog_14_method_93_code
def yJ2_checkBoundsBeginEnd_d044e : MethodName := ⟨RJ2, "checkBoundsBeginEnd", "(II[B)V"⟩
def RJ3 : String := "jdk/internal/util/Preconditions"
def TJ3 : u_T := fun k => match k with
  | _ => ("", "", "", false)
def tyJ3 : Nat → FieldType := fun k => match k with
  | _ => .int
theorem nmJ3 : ∀ a, a < 0 → ∀ b, b < 0 → a ≠ b → (TJ3 a).2.1 ≠ (TJ3 b).2.1 := by decide +kernel
theorem tyJ3_ok : ∀ k, k < 0 → parseFieldDescriptor (TJ3 k).2.2.1 = some (tyJ3 k) := by decide +kernel
abbrev cJ3_checkIndex_8e157 : ByteArray := prog_15_method_11_code
def yJ3_checkIndex_8e157 : MethodName := ⟨RJ3, "checkIndex", "(IILjava/util/function/BiFunction;)I"⟩
abbrev cJ3_checkFromToIndex_8c36e : ByteArray := prog_15_method_12_code
def yJ3_checkFromToIndex_8c36e : MethodName := ⟨RJ3, "checkFromToIndex", "(IIILjava/util/function/BiFunction;)I"⟩
def RL : String := "TagTowerLaw"
abbrev cL_law : ByteArray := code
def yL_law : MethodName := ⟨RL, "law", "([I)Z"⟩
abbrev vwCl : List vw_C := [(RX0, TX0, 2), (RX1, TX1, 7), (RX2, TX2, 3), (RX3, TX3, 9), (RX4, TX4, 2), (RX5, TX5, 2), (RX6, TX6, 5), (RX7, TX7, 29)]
end
section
/-- all words that a method may need -/
def wAll : List Cond := lw_tbl.filter goodWord
theorem in_all {w : Cond} (i : Nat) (h : lw_tbl[i]? = some w) (hg : goodWord w = true) : w ∈ wAll := List.mem_filter.mpr ⟨List.mem_of_getElem? h, hg⟩
theorem in_t1 {w : Cond} (i : Nat) (h : tables_1_1[i]? = some w) (hg : goodWord w = true) : w ∈ wAll := List.mem_filter.mpr ⟨List.mem_append_right _ (List.mem_append_left _ (List.mem_of_getElem? h)), hg⟩
theorem in_t2 {w : Cond} (i : Nat) (h : tables_1_2[i]? = some w) (hg : goodWord w = true) : w ∈ wAll := List.mem_filter.mpr ⟨List.mem_append_right _ (List.mem_append_right _ (List.mem_append_left _ (List.mem_of_getElem? h))), hg⟩
theorem in_t3 {w : Cond} (i : Nat) (h : tables_1_3[i]? = some w) (hg : goodWord w = true) : w ∈ wAll := List.mem_filter.mpr ⟨List.mem_append_right _ (List.mem_append_right _ (List.mem_append_right _ (List.mem_append_left _ (List.mem_of_getElem? h)))), hg⟩
theorem in_t4 {w : Cond} (i : Nat) (h : tables_1_4[i]? = some w) (hg : goodWord w = true) : w ∈ wAll := List.mem_filter.mpr ⟨List.mem_append_right _ (List.mem_append_right _ (List.mem_append_right _ (List.mem_append_right _ (List.mem_of_getElem? h)))), hg⟩
theorem wAll_in : ∀ w ∈ wAll, w ∈ lw_tbl := fun w h => (List.mem_filter.mp h).1
theorem wAll_good {w : Cond} (h : w ∈ wAll) : (w.onTables && w.keeps) = true ∨ ∃ ty, w = .arrayClass ty := good_of_word (List.mem_filter.mp h).2
/-- a callee's words are a caller's -/
theorem gCo {c0 cy : Cond} (h : cy ∈ wAll) : GoodIn (c0 :: wAll) (cy :: wAll) := by
  intro w hw
  have : w ∈ wAll := (List.mem_cons.mp hw).elim (fun e => e ▸ h) id
  exact ⟨List.mem_cons_of_mem _ this, wAll_good this⟩
theorem gV {c0 cy : Cond} {own : String} {idx : Nat} {C : String} {y : MethodName} (h : cy ∈ wAll) (h1 : Cond.methodLink own idx y ∈ wAll) (h2 : Cond.instanceMethod y ∈ wAll) (h3 : Cond.selects C y y ∈ wAll) (h4 : Cond.initialized C ∈ wAll) : GoodIn (c0 :: wAll) (wsV own idx C y (cy :: wAll)) := by
  intro w hw
  have : w ∈ wAll := by
    unfold wsV at hw
    simp only [List.cons_append, List.nil_append, List.mem_cons] at hw
    rcases hw with rfl | rfl | rfl | rfl | rfl | hw <;> assumption
  exact ⟨List.mem_cons_of_mem _ this, wAll_good this⟩
theorem gS {c0 cy : Cond} {own : String} {idx : Nat} {y : MethodName} (h : cy ∈ wAll) (h1 : Cond.methodLink own idx y ∈ wAll) (h2 : Cond.static y ∈ wAll) (h3 : Cond.initialized y.cls ∈ wAll) : GoodIn (c0 :: wAll) (va_wsS own idx y (cy :: wAll)) := by
  intro w hw
  have : w ∈ wAll := by
    unfold va_wsS at hw
    simp only [List.cons_append, List.nil_append, List.mem_cons] at hw
    rcases hw with rfl | rfl | rfl | rfl | hw <;> assumption
  exact ⟨List.mem_cons_of_mem _ this, wAll_good this⟩
theorem wq_46 : (Cond.classLink RL 7 RX6) ∈ wAll := in_t1 15 rfl rfl
theorem wq_47 : (Cond.instantiable RX6 5) ∈ wAll := in_t1 16 rfl rfl
theorem wq_32 : (Cond.initialized RX6) ∈ wAll := in_t1 1 rfl rfl
theorem wq_667 : (Cond.classLink RL 10 RX7) ∈ wAll := in_t3 156 rfl rfl
theorem wq_668 : (Cond.instantiable RX7 29) ∈ wAll := in_t3 157 rfl rfl
theorem wq_45 : (Cond.initialized RX7) ∈ wAll := in_t1 14 rfl rfl
theorem wq_48 : (Cond.methodLink RL 9 yX6_init) ∈ wAll := in_t1 17 rfl rfl
theorem wq_49 : (Cond.instanceMethod yX6_init) ∈ wAll := in_t1 18 rfl rfl
theorem wq_50 : (Cond.code yX6_init cX6_init 1 none) ∈ wAll := in_t1 19 rfl rfl
theorem wq_51 : (Cond.methodLink RX6 3 objectInit) ∈ wAll := in_t1 20 rfl rfl
theorem wq_52 : (Cond.instanceMethod objectInit) ∈ wAll := in_t1 21 rfl rfl
theorem wq_53 : (Cond.code objectInit ⟨#[0xb1]⟩ 1 none) ∈ wAll := in_t1 22 rfl rfl
theorem wq_54 : (Cond.classLink RX6 9 RX1) ∈ wAll := in_t1 23 rfl rfl
theorem wq_55 : (Cond.instantiable RX1 7) ∈ wAll := in_t1 24 rfl rfl
theorem wq_33 : (Cond.initialized RX1) ∈ wAll := in_t1 2 rfl rfl
theorem wq_317 : (Cond.fieldLink RX6 12 "TagTower" "counters" "LTagTower$Counters;") ∈ wAll := in_t2 46 rfl rfl
theorem wq_83 : (Cond.classLink RX6 16 RX3) ∈ wAll := in_t1 52 rfl rfl
theorem wq_84 : (Cond.instantiable RX3 9) ∈ wAll := in_t1 53 rfl rfl
theorem wq_34 : (Cond.initialized RX3) ∈ wAll := in_t1 3 rfl rfl
theorem wq_318 : (Cond.fieldLink RX6 19 "TagTower" "machine" "LTagTower$Machine;") ∈ wAll := in_t2 47 rfl rfl
theorem wq_122 : (Cond.classLink RX6 23 RX4) ∈ wAll := in_t1 91 rfl rfl
theorem wq_123 : (Cond.instantiable RX4 2) ∈ wAll := in_t1 92 rfl rfl
theorem wq_35 : (Cond.initialized RX4) ∈ wAll := in_t1 4 rfl rfl
theorem wq_319 : (Cond.fieldLink RX6 26 "TagTower" "productions" "LTagTower$Productions;") ∈ wAll := in_t2 48 rfl rfl
theorem wq_266 : (Cond.classLink RX6 30 RX5) ∈ wAll := in_t1 235 rfl rfl
theorem wq_267 : (Cond.instantiable RX5 2) ∈ wAll := in_t1 236 rfl rfl
theorem wq_42 : (Cond.initialized RX5) ∈ wAll := in_t1 11 rfl rfl
theorem wq_320 : (Cond.fieldLink RX6 33 "TagTower" "word" "LTagTower$Word;") ∈ wAll := in_t2 49 rfl rfl
theorem wq_300 : (Cond.classLink RX6 37 RX0) ∈ wAll := in_t2 29 rfl rfl
theorem wq_301 : (Cond.instantiable RX0 2) ∈ wAll := in_t2 30 rfl rfl
theorem wq_44 : (Cond.initialized RX0) ∈ wAll := in_t1 13 rfl rfl
theorem wq_321 : (Cond.fieldLink RX6 40 "TagTower" "bitRow" "LTagTower$Bits;") ∈ wAll := in_t2 50 rfl rfl
theorem wq_57 : (Cond.instanceMethod yX1_init) ∈ wAll := in_t1 26 rfl rfl
theorem wq_58 : (Cond.code yX1_init cX1_init 1 none) ∈ wAll := in_t1 27 rfl rfl
theorem wq_59 : (Cond.methodLink RX1 3 objectInit) ∈ wAll := in_t1 28 rfl rfl
theorem wq_82 : (Cond.arrayClass .int) ∈ wAll := in_t1 51 rfl rfl
theorem wq_60 : (Cond.fieldLink RX1 9 "TagTower$Counters" "values" "[I") ∈ wAll := in_t1 29 rfl rfl
theorem wq_61 : (Cond.fieldLink RX1 15 "TagTower$Counters" "ops" "[I") ∈ wAll := in_t1 30 rfl rfl
theorem wq_62 : (Cond.fieldLink RX1 18 "TagTower$Counters" "worked" "[I") ∈ wAll := in_t1 31 rfl rfl
theorem wq_63 : (Cond.fieldLink RX1 21 "TagTower$Counters" "onward" "[I") ∈ wAll := in_t1 32 rfl rfl
theorem wq_64 : (Cond.fieldLink RX1 24 "TagTower$Counters" "ifZero" "[I") ∈ wAll := in_t1 33 rfl rfl
theorem wq_86 : (Cond.instanceMethod yX3_init) ∈ wAll := in_t1 55 rfl rfl
theorem wq_87 : (Cond.code yX3_init cX3_init 1 none) ∈ wAll := in_t1 56 rfl rfl
theorem wq_88 : (Cond.methodLink RX3 3 objectInit) ∈ wAll := in_t1 57 rfl rfl
theorem wq_121 : (Cond.arrayClass .boolean) ∈ wAll := in_t1 90 rfl rfl
theorem wq_89 : (Cond.fieldLink RX3 9 "TagTower$Machine" "ruled" "[Z") ∈ wAll := in_t1 58 rfl rfl
theorem wq_90 : (Cond.fieldLink RX3 15 "TagTower$Machine" "signs" "[I") ∈ wAll := in_t1 59 rfl rfl
theorem wq_91 : (Cond.fieldLink RX3 19 "TagTower$Machine" "ways" "[I") ∈ wAll := in_t1 60 rfl rfl
theorem wq_92 : (Cond.fieldLink RX3 22 "TagTower$Machine" "states" "[I") ∈ wAll := in_t1 61 rfl rfl
theorem wq_124 : (Cond.methodLink RX6 25 yX4_init) ∈ wAll := in_t1 93 rfl rfl
theorem wq_125 : (Cond.instanceMethod yX4_init) ∈ wAll := in_t1 94 rfl rfl
theorem wq_126 : (Cond.code yX4_init cX4_init 2 none) ∈ wAll := in_t1 95 rfl rfl
theorem wq_127 : (Cond.methodLink RX4 3 objectInit) ∈ wAll := in_t1 96 rfl rfl
theorem wq_258 : (Cond.fieldLink RX4 9 "TagTower$Productions" "sizes" "[I") ∈ wAll := in_t1 227 rfl rfl
theorem wq_259 : (Cond.fieldLink RX4 15 "TagTower$Productions" "letters" "[I") ∈ wAll := in_t1 228 rfl rfl
theorem wq_128 : (Cond.methodLink RX4 18 yX4_followNone) ∈ wAll := in_t1 97 rfl rfl
theorem wq_129 : (Cond.instanceMethod yX4_followNone) ∈ wAll := in_t1 98 rfl rfl
theorem wq_130 : (Cond.selects RX4 yX4_followNone yX4_followNone) ∈ wAll := in_t1 99 rfl rfl
theorem wq_131 : (Cond.code yX4_followNone cX4_followNone 3 none) ∈ wAll := in_t1 100 rfl rfl
theorem wq_133 : (Cond.methodLink RX4 24 yX4_write) ∈ wAll := in_t1 102 rfl rfl
theorem wq_135 : (Cond.instanceMethod yX4_write) ∈ wAll := in_t1 104 rfl rfl
theorem wq_0 : (Cond.selects RX4 yX4_write yX4_write) ∈ wAll := in_all 0 rfl rfl
theorem wq_136 : (Cond.code yX4_write cX4_write 8 none) ∈ wAll := in_t1 105 rfl rfl
theorem wq_137 : (Cond.methodLink RX4 40 yJ0_length_8abf5) ∈ wAll := in_t1 106 rfl rfl
theorem wq_138 : (Cond.instanceMethod yJ0_length_8abf5) ∈ wAll := in_t1 107 rfl rfl
theorem wq_139 : (Cond.selects RJ0 yJ0_length_8abf5 yJ0_length_8abf5) ∈ wAll := in_t1 108 rfl rfl
theorem wq_36 : (Cond.initialized RJ0) ∈ wAll := in_t1 5 rfl rfl
theorem wq_140 : (Cond.code yJ0_length_8abf5 cJ0_length_8abf5 1 (some .int)) ∈ wAll := in_t1 109 rfl rfl
theorem wq_955 : (Cond.fieldLink RJ0 9 "java/lang/String" "value" "[B") ∈ wAll := in_t4 204 rfl rfl
theorem wq_141 : (Cond.methodLink RJ0 335 yJ0_coder_7d493) ∈ wAll := in_t1 110 rfl rfl
theorem wq_142 : (Cond.instanceMethod yJ0_coder_7d493) ∈ wAll := in_t1 111 rfl rfl
theorem wq_143 : (Cond.selects RJ0 yJ0_coder_7d493 yJ0_coder_7d493) ∈ wAll := in_t1 112 rfl rfl
theorem wq_144 : (Cond.code yJ0_coder_7d493 cJ0_coder_7d493 1 (some .byte)) ∈ wAll := in_t1 113 rfl rfl
theorem wq_145 : (Cond.fieldLink RJ0 38 "java/lang/String" "COMPACT_STRINGS" "Z") ∈ wAll := in_t1 114 rfl rfl
theorem wq_956 : (Cond.fieldLink RJ0 15 "java/lang/String" "coder" "B") ∈ wAll := in_t4 205 rfl rfl
theorem wq_147 : (Cond.methodLink RX4 46 yJ0_charAt_5068e) ∈ wAll := in_t1 116 rfl rfl
theorem wq_148 : (Cond.instanceMethod yJ0_charAt_5068e) ∈ wAll := in_t1 117 rfl rfl
theorem wq_149 : (Cond.selects RJ0 yJ0_charAt_5068e yJ0_charAt_5068e) ∈ wAll := in_t1 118 rfl rfl
theorem wq_150 : (Cond.code yJ0_charAt_5068e cJ0_charAt_5068e 2 (some .char)) ∈ wAll := in_t1 119 rfl rfl
theorem wq_151 : (Cond.methodLink RJ0 492 yJ0_isLatin1_aae02) ∈ wAll := in_t1 120 rfl rfl
theorem wq_152 : (Cond.instanceMethod yJ0_isLatin1_aae02) ∈ wAll := in_t1 121 rfl rfl
theorem wq_153 : (Cond.selects RJ0 yJ0_isLatin1_aae02 yJ0_isLatin1_aae02) ∈ wAll := in_t1 122 rfl rfl
theorem wq_154 : (Cond.code yJ0_isLatin1_aae02 cJ0_isLatin1_aae02 1 (some .boolean)) ∈ wAll := in_t1 123 rfl rfl
theorem wq_155 : (Cond.methodLink RJ0 495 yJ1_charAt_3b067) ∈ wAll := in_t1 124 rfl rfl
theorem wq_156 : (Cond.static yJ1_charAt_3b067) ∈ wAll := in_t1 125 rfl rfl
theorem wq_37 : (Cond.initialized RJ1) ∈ wAll := in_t1 6 rfl rfl
theorem wq_157 : (Cond.code yJ1_charAt_3b067 cJ1_charAt_3b067 2 (some .char)) ∈ wAll := in_t1 126 rfl rfl
theorem wq_158 : (Cond.methodLink RJ1 9 yJ0_checkIndex_df160) ∈ wAll := in_t1 127 rfl rfl
theorem wq_159 : (Cond.static yJ0_checkIndex_df160) ∈ wAll := in_t1 128 rfl rfl
theorem wq_160 : (Cond.code yJ0_checkIndex_df160 cJ0_checkIndex_df160 2 none) ∈ wAll := in_t1 129 rfl rfl
theorem wq_161 : (Cond.fieldLink RJ0 1053 "jdk/internal/util/Preconditions" "SIOOBE_FORMATTER" "Ljava/util/function/BiFunction;") ∈ wAll := in_t1 130 rfl rfl
theorem wq_163 : (Cond.methodLink RJ0 1059 yJ3_checkIndex_8e157) ∈ wAll := in_t1 132 rfl rfl
theorem wq_164 : (Cond.static yJ3_checkIndex_8e157) ∈ wAll := in_t1 133 rfl rfl
theorem wq_38 : (Cond.initialized RJ3) ∈ wAll := in_t1 7 rfl rfl
theorem wq_165 : (Cond.code yJ3_checkIndex_8e157 cJ3_checkIndex_8e157 3 (some .int)) ∈ wAll := in_t1 134 rfl rfl
theorem wq_39 : (Cond.initialized RJ2) ∈ wAll := in_t1 8 rfl rfl
theorem wq_186 : (Cond.methodLink RX4 52 yJ0_indexOf_0f7a4) ∈ wAll := in_t1 155 rfl rfl
theorem wq_187 : (Cond.instanceMethod yJ0_indexOf_0f7a4) ∈ wAll := in_t1 156 rfl rfl
theorem wq_188 : (Cond.selects RJ0 yJ0_indexOf_0f7a4 yJ0_indexOf_0f7a4) ∈ wAll := in_t1 157 rfl rfl
theorem wq_189 : (Cond.code yJ0_indexOf_0f7a4 cJ0_indexOf_0f7a4 2 (some .int)) ∈ wAll := in_t1 158 rfl rfl
theorem wq_190 : (Cond.methodLink RJ0 633 yJ0_indexOf_7cf53) ∈ wAll := in_t1 159 rfl rfl
theorem wq_191 : (Cond.instanceMethod yJ0_indexOf_7cf53) ∈ wAll := in_t1 160 rfl rfl
theorem wq_192 : (Cond.selects RJ0 yJ0_indexOf_7cf53 yJ0_indexOf_7cf53) ∈ wAll := in_t1 161 rfl rfl
theorem wq_193 : (Cond.code yJ0_indexOf_7cf53 cJ0_indexOf_7cf53 3 (some .int)) ∈ wAll := in_t1 162 rfl rfl
theorem wq_194 : (Cond.methodLink RJ0 505 yJ0_length_8abf5) ∈ wAll := in_t1 163 rfl rfl
theorem wq_195 : (Cond.methodLink RJ0 637 yJ1_indexOf_4cfef) ∈ wAll := in_t1 164 rfl rfl
theorem wq_196 : (Cond.static yJ1_indexOf_4cfef) ∈ wAll := in_t1 165 rfl rfl
theorem wq_197 : (Cond.code yJ1_indexOf_4cfef cJ1_indexOf_4cfef 4 (some .int)) ∈ wAll := in_t1 166 rfl rfl
theorem wq_201 : (Cond.methodLink RJ1 92 Lib.Math.max.name) ∈ wAll := in_t1 170 rfl rfl
theorem wq_202 : (Cond.static Lib.Math.max.name) ∈ wAll := in_t1 171 rfl rfl
theorem wq_40 : (Cond.initialized "java/lang/Math") ∈ wAll := in_t1 9 rfl rfl
theorem wq_203 : (Cond.code Lib.Math.max.name Lib.Math.max.code 2 (some .int)) ∈ wAll := in_t1 172 rfl rfl
theorem wq_204 : (Cond.methodLink RJ1 38 Lib.Math.min.name) ∈ wAll := in_t1 173 rfl rfl
theorem wq_205 : (Cond.static Lib.Math.min.name) ∈ wAll := in_t1 174 rfl rfl
theorem wq_206 : (Cond.code Lib.Math.min.name Lib.Math.min.code 2 (some .int)) ∈ wAll := in_t1 175 rfl rfl
theorem wq_198 : (Cond.methodLink RJ1 88 yJ1_canEncode_9a6ad) ∈ wAll := in_t1 167 rfl rfl
theorem wq_199 : (Cond.static yJ1_canEncode_9a6ad) ∈ wAll := in_t1 168 rfl rfl
theorem wq_200 : (Cond.code yJ1_canEncode_9a6ad cJ1_canEncode_9a6ad 1 (some .boolean)) ∈ wAll := in_t1 169 rfl rfl
theorem wq_207 : (Cond.methodLink RJ1 95 yJ1_indexOfChar_4cfef) ∈ wAll := in_t1 176 rfl rfl
theorem wq_208 : (Cond.static yJ1_indexOfChar_4cfef) ∈ wAll := in_t1 177 rfl rfl
theorem wq_209 : (Cond.code yJ1_indexOfChar_4cfef cJ1_indexOfChar_4cfef 6 (some .int)) ∈ wAll := in_t1 178 rfl rfl
theorem wq_223 : (Cond.static yJ0_checkBoundsBeginEnd_23922) ∈ wAll := in_t1 192 rfl rfl
theorem wq_224 : (Cond.code yJ0_checkBoundsBeginEnd_23922 cJ0_checkBoundsBeginEnd_23922 3 none) ∈ wAll := in_t1 193 rfl rfl
theorem wq_225 : (Cond.methodLink RJ0 1062 yJ3_checkFromToIndex_8c36e) ∈ wAll := in_t1 194 rfl rfl
theorem wq_226 : (Cond.static yJ3_checkFromToIndex_8c36e) ∈ wAll := in_t1 195 rfl rfl
theorem wq_227 : (Cond.code yJ3_checkFromToIndex_8c36e cJ3_checkFromToIndex_8c36e 4 (some .int)) ∈ wAll := in_t1 196 rfl rfl
theorem wq_41 : (Cond.initialized RJ11) ∈ wAll := in_t1 10 rfl rfl
theorem wq_245 : (Cond.methodLink RX4 56 yX4_number) ∈ wAll := in_t1 214 rfl rfl
theorem wq_246 : (Cond.static yX4_number) ∈ wAll := in_t1 215 rfl rfl
theorem wq_247 : (Cond.code yX4_number cX4_number 2 (some .int)) ∈ wAll := in_t1 216 rfl rfl
theorem wq_248 : (Cond.methodLink RX4 60 yX4_pairMarked) ∈ wAll := in_t1 217 rfl rfl
theorem wq_249 : (Cond.static yX4_pairMarked) ∈ wAll := in_t1 218 rfl rfl
theorem wq_250 : (Cond.code yX4_pairMarked cX4_pairMarked 3 (some .int)) ∈ wAll := in_t1 219 rfl rfl
theorem wq_252 : (Cond.static yX6_pairOf) ∈ wAll := in_t1 221 rfl rfl
theorem wq_253 : (Cond.code yX6_pairOf cX6_pairOf 2 (some .int)) ∈ wAll := in_t1 222 rfl rfl
theorem wq_254 : (Cond.methodLink RX4 64 yX4_append) ∈ wAll := in_t1 223 rfl rfl
theorem wq_256 : (Cond.instanceMethod yX4_append) ∈ wAll := in_t1 225 rfl rfl
theorem wq_1 : (Cond.selects RX4 yX4_append yX4_append) ∈ wAll := in_all 1 rfl rfl
theorem wq_257 : (Cond.code yX4_append cX4_append 3 none) ∈ wAll := in_t1 226 rfl rfl
theorem wq_269 : (Cond.instanceMethod yX5_init) ∈ wAll := in_t1 238 rfl rfl
theorem wq_270 : (Cond.code yX5_init cX5_init 1 none) ∈ wAll := in_t1 239 rfl rfl
theorem wq_271 : (Cond.methodLink RX5 3 objectInit) ∈ wAll := in_t2 0 rfl rfl
theorem wq_272 : (Cond.classLink RX5 9 RX2) ∈ wAll := in_t2 1 rfl rfl
theorem wq_273 : (Cond.instantiable RX2 3) ∈ wAll := in_t2 2 rfl rfl
theorem wq_43 : (Cond.initialized RX2) ∈ wAll := in_t1 12 rfl rfl
theorem wq_292 : (Cond.fieldLink RX5 14 "TagTower$Word" "row" "LTagTower$LetterRow;") ∈ wAll := in_t2 21 rfl rfl
theorem wq_294 : (Cond.fieldLink RX5 20 "TagTower$Word" "kept" "LTagTower$LetterRow;") ∈ wAll := in_t2 23 rfl rfl
theorem wq_274 : (Cond.methodLink RX5 11 yX2_init) ∈ wAll := in_t2 3 rfl rfl
theorem wq_275 : (Cond.instanceMethod yX2_init) ∈ wAll := in_t2 4 rfl rfl
theorem wq_276 : (Cond.code yX2_init cX2_init 2 none) ∈ wAll := in_t2 5 rfl rfl
theorem wq_277 : (Cond.methodLink RX2 3 objectInit) ∈ wAll := in_t2 6 rfl rfl
theorem wq_278 : (Cond.methodLink RX2 9 Lib.Math.max.name) ∈ wAll := in_t2 7 rfl rfl
theorem wq_279 : (Cond.fieldLink RX2 15 "TagTower$LetterRow" "cells" "[I") ∈ wAll := in_t2 8 rfl rfl
theorem wq_303 : (Cond.instanceMethod yX0_init) ∈ wAll := in_t2 32 rfl rfl
theorem wq_304 : (Cond.code yX0_init cX0_init 1 none) ∈ wAll := in_t2 33 rfl rfl
theorem wq_305 : (Cond.methodLink RX0 3 objectInit) ∈ wAll := in_t2 34 rfl rfl
theorem wq_306 : (Cond.classLink RX0 9 RX2) ∈ wAll := in_t2 35 rfl rfl
theorem wq_308 : (Cond.fieldLink RX0 14 "TagTower$Bits" "row" "LTagTower$LetterRow;") ∈ wAll := in_t2 37 rfl rfl
theorem wq_307 : (Cond.methodLink RX0 11 yX2_init) ∈ wAll := in_t2 36 rfl rfl
theorem wq_669 : (Cond.methodLink RL 12 yX7_init) ∈ wAll := in_t3 158 rfl rfl
theorem wq_670 : (Cond.instanceMethod yX7_init) ∈ wAll := in_t3 159 rfl rfl
theorem wq_671 : (Cond.code yX7_init cX7_init 1 none) ∈ wAll := in_t3 160 rfl rfl
theorem wq_672 : (Cond.methodLink RX7 1 objectInit) ∈ wAll := in_t3 161 rfl rfl
theorem wq_675 : (Cond.fieldLink RX7 7 "TagTowerModel" "counter" "[I") ∈ wAll := in_t3 164 rfl rfl
theorem wq_677 : (Cond.fieldLink RX7 13 "TagTowerModel" "op" "[I") ∈ wAll := in_t3 166 rfl rfl
theorem wq_678 : (Cond.fieldLink RX7 16 "TagTowerModel" "which" "[I") ∈ wAll := in_t3 167 rfl rfl
theorem wq_679 : (Cond.fieldLink RX7 19 "TagTowerModel" "then" "[I") ∈ wAll := in_t3 168 rfl rfl
theorem wq_680 : (Cond.fieldLink RX7 22 "TagTowerModel" "other" "[I") ∈ wAll := in_t3 169 rfl rfl
theorem wq_682 : (Cond.fieldLink RX7 25 "TagTowerModel" "writes" "[I") ∈ wAll := in_t3 171 rfl rfl
theorem wq_683 : (Cond.fieldLink RX7 28 "TagTowerModel" "way" "[I") ∈ wAll := in_t3 172 rfl rfl
theorem wq_684 : (Cond.fieldLink RX7 31 "TagTowerModel" "goes" "[I") ∈ wAll := in_t3 173 rfl rfl
theorem wq_691 : (Cond.fieldLink RX7 34 "TagTowerModel" "word" "[I") ∈ wAll := in_t3 180 rfl rfl
theorem wq_693 : (Cond.fieldLink RX7 37 "TagTowerModel" "saved" "[I") ∈ wAll := in_t3 182 rfl rfl
theorem wq_673 : (Cond.constant RX7 40 (80001)) ∈ wAll := in_t3 162 rfl rfl
theorem wq_696 : (Cond.fieldLink RX7 41 "TagTowerModel" "bits" "[I") ∈ wAll := in_t3 185 rfl rfl
theorem wq_699 : (Cond.fieldLink RX7 44 "TagTowerModel" "makes" "[I") ∈ wAll := in_t3 188 rfl rfl
theorem wq_333 : (Cond.methodLink RL 13 yX6_line) ∈ wAll := in_t2 62 rfl rfl
theorem wq_334 : (Cond.instanceMethod yX6_line) ∈ wAll := in_t2 63 rfl rfl
theorem wq_335 : (Cond.selects RX6 yX6_line yX6_line) ∈ wAll := in_t2 64 rfl rfl
theorem wq_336 : (Cond.code yX6_line cX6_line 5 (some .int)) ∈ wAll := in_t2 65 rfl rfl
theorem wq_337 : (Cond.methodLink RX6 44 yX6_outside) ∈ wAll := in_t2 66 rfl rfl
theorem wq_338 : (Cond.static yX6_outside) ∈ wAll := in_t2 67 rfl rfl
theorem wq_339 : (Cond.code yX6_outside cX6_outside 3 (some .boolean)) ∈ wAll := in_t2 68 rfl rfl
theorem wq_340 : (Cond.methodLink RX6 48 yX1_addLine) ∈ wAll := in_t2 69 rfl rfl
theorem wq_341 : (Cond.instanceMethod yX1_addLine) ∈ wAll := in_t2 70 rfl rfl
theorem wq_342 : (Cond.selects RX1 yX1_addLine yX1_addLine) ∈ wAll := in_t2 71 rfl rfl
theorem wq_343 : (Cond.code yX1_addLine cX1_addLine 5 (some .int)) ∈ wAll := in_t2 72 rfl rfl
theorem wq_65 : (Cond.fieldLink RX1 27 "TagTower$Counters" "lines" "I") ∈ wAll := in_t1 34 rfl rfl
theorem wq_762 : (Cond.methodLink RL 17 yX7_line) ∈ wAll := in_t4 11 rfl rfl
theorem wq_763 : (Cond.instanceMethod yX7_line) ∈ wAll := in_t4 12 rfl rfl
theorem wq_764 : (Cond.selects RX7 yX7_line yX7_line) ∈ wAll := in_t4 13 rfl rfl
theorem wq_765 : (Cond.code yX7_line cX7_line 5 (some .int)) ∈ wAll := in_t4 14 rfl rfl
theorem wq_674 : (Cond.fieldLink RX7 47 "TagTowerModel" "thrown" "I") ∈ wAll := in_t3 163 rfl rfl
theorem wq_766 : (Cond.constantLong RX7 51 (2)) ∈ wAll := in_t4 15 rfl rfl
theorem wq_770 : (Cond.constantLong RX7 57 (3)) ∈ wAll := in_t4 19 rfl rfl
theorem wq_771 : (Cond.constantLong RX7 59 (24)) ∈ wAll := in_t4 20 rfl rfl
theorem wq_676 : (Cond.fieldLink RX7 61 "TagTowerModel" "lines" "I") ∈ wAll := in_t3 165 rfl rfl
theorem wq_767 : (Cond.methodLink RX7 53 yX7_in) ∈ wAll := in_t4 16 rfl rfl
theorem wq_768 : (Cond.static yX7_in) ∈ wAll := in_t4 17 rfl rfl
theorem wq_769 : (Cond.code yX7_in cX7_in 6 (some .boolean)) ∈ wAll := in_t4 18 rfl rfl
theorem wq_344 : (Cond.methodLink RL 18 yX6_wipe) ∈ wAll := in_t2 73 rfl rfl
theorem wq_345 : (Cond.instanceMethod yX6_wipe) ∈ wAll := in_t2 74 rfl rfl
theorem wq_346 : (Cond.selects RX6 yX6_wipe yX6_wipe) ∈ wAll := in_t2 75 rfl rfl
theorem wq_347 : (Cond.code yX6_wipe cX6_wipe 1 (some .int)) ∈ wAll := in_t2 76 rfl rfl
theorem wq_348 : (Cond.methodLink RX6 52 yX1_forgetLines) ∈ wAll := in_t2 77 rfl rfl
theorem wq_349 : (Cond.instanceMethod yX1_forgetLines) ∈ wAll := in_t2 78 rfl rfl
theorem wq_350 : (Cond.selects RX1 yX1_forgetLines yX1_forgetLines) ∈ wAll := in_t2 79 rfl rfl
theorem wq_351 : (Cond.code yX1_forgetLines cX1_forgetLines 2 (some .int)) ∈ wAll := in_t2 80 rfl rfl
theorem wq_66 : (Cond.fieldLink RX1 31 "TagTower$Counters" "now" "I") ∈ wAll := in_t1 35 rfl rfl
theorem wq_772 : (Cond.methodLink RL 22 yX7_wipe) ∈ wAll := in_t4 21 rfl rfl
theorem wq_773 : (Cond.instanceMethod yX7_wipe) ∈ wAll := in_t4 22 rfl rfl
theorem wq_774 : (Cond.selects RX7 yX7_wipe yX7_wipe) ∈ wAll := in_t4 23 rfl rfl
theorem wq_775 : (Cond.code yX7_wipe cX7_wipe 2 (some .int)) ∈ wAll := in_t4 24 rfl rfl
theorem wq_681 : (Cond.fieldLink RX7 64 "TagTowerModel" "line" "I") ∈ wAll := in_t3 170 rfl rfl
theorem wq_352 : (Cond.methodLink RL 23 yX6_set) ∈ wAll := in_t2 81 rfl rfl
theorem wq_353 : (Cond.instanceMethod yX6_set) ∈ wAll := in_t2 82 rfl rfl
theorem wq_354 : (Cond.selects RX6 yX6_set yX6_set) ∈ wAll := in_t2 83 rfl rfl
theorem wq_355 : (Cond.code yX6_set cX6_set 3 (some .int)) ∈ wAll := in_t2 84 rfl rfl
theorem wq_356 : (Cond.methodLink RX6 56 yX1_putValue) ∈ wAll := in_t2 85 rfl rfl
theorem wq_357 : (Cond.instanceMethod yX1_putValue) ∈ wAll := in_t2 86 rfl rfl
theorem wq_358 : (Cond.selects RX1 yX1_putValue yX1_putValue) ∈ wAll := in_t2 87 rfl rfl
theorem wq_359 : (Cond.code yX1_putValue cX1_putValue 4 (some .int)) ∈ wAll := in_t2 88 rfl rfl
theorem wq_776 : (Cond.methodLink RL 27 yX7_set) ∈ wAll := in_t4 25 rfl rfl
theorem wq_777 : (Cond.instanceMethod yX7_set) ∈ wAll := in_t4 26 rfl rfl
theorem wq_778 : (Cond.selects RX7 yX7_set yX7_set) ∈ wAll := in_t4 27 rfl rfl
theorem wq_779 : (Cond.code yX7_set cX7_set 4 (some .int)) ∈ wAll := in_t4 28 rfl rfl
theorem wq_780 : (Cond.constantLong RX7 67 (1000)) ∈ wAll := in_t4 29 rfl rfl
theorem wq_360 : (Cond.methodLink RL 28 yX6_counter) ∈ wAll := in_t2 89 rfl rfl
theorem wq_361 : (Cond.instanceMethod yX6_counter) ∈ wAll := in_t2 90 rfl rfl
theorem wq_362 : (Cond.selects RX6 yX6_counter yX6_counter) ∈ wAll := in_t2 91 rfl rfl
theorem wq_363 : (Cond.code yX6_counter cX6_counter 2 (some .int)) ∈ wAll := in_t2 92 rfl rfl
theorem wq_364 : (Cond.methodLink RX6 60 yX1_value) ∈ wAll := in_t2 93 rfl rfl
theorem wq_365 : (Cond.instanceMethod yX1_value) ∈ wAll := in_t2 94 rfl rfl
theorem wq_366 : (Cond.selects RX1 yX1_value yX1_value) ∈ wAll := in_t2 95 rfl rfl
theorem wq_367 : (Cond.code yX1_value cX1_value 2 (some .int)) ∈ wAll := in_t2 96 rfl rfl
theorem wq_781 : (Cond.methodLink RL 32 yX7_counter) ∈ wAll := in_t4 30 rfl rfl
theorem wq_782 : (Cond.instanceMethod yX7_counter) ∈ wAll := in_t4 31 rfl rfl
theorem wq_783 : (Cond.selects RX7 yX7_counter yX7_counter) ∈ wAll := in_t4 32 rfl rfl
theorem wq_784 : (Cond.code yX7_counter cX7_counter 2 (some .int)) ∈ wAll := in_t4 33 rfl rfl
theorem wq_368 : (Cond.methodLink RL 33 yX6_count) ∈ wAll := in_t2 97 rfl rfl
theorem wq_369 : (Cond.instanceMethod yX6_count) ∈ wAll := in_t2 98 rfl rfl
theorem wq_370 : (Cond.selects RX6 yX6_count yX6_count) ∈ wAll := in_t2 99 rfl rfl
theorem wq_371 : (Cond.code yX6_count cX6_count 2 (some .int)) ∈ wAll := in_t2 100 rfl rfl
theorem wq_372 : (Cond.methodLink RX6 64 yX1_doLines) ∈ wAll := in_t2 101 rfl rfl
theorem wq_373 : (Cond.instanceMethod yX1_doLines) ∈ wAll := in_t2 102 rfl rfl
theorem wq_374 : (Cond.selects RX1 yX1_doLines yX1_doLines) ∈ wAll := in_t2 103 rfl rfl
theorem wq_375 : (Cond.code yX1_doLines cX1_doLines 3 (some .int)) ∈ wAll := in_t2 104 rfl rfl
theorem wq_376 : (Cond.methodLink RX1 34 yX1_doLine) ∈ wAll := in_t2 105 rfl rfl
theorem wq_378 : (Cond.instanceMethod yX1_doLine) ∈ wAll := in_t2 107 rfl rfl
theorem wq_2 : (Cond.selects RX1 yX1_doLine yX1_doLine) ∈ wAll := in_all 2 rfl rfl
theorem wq_379 : (Cond.code yX1_doLine cX1_doLine 1 (some .boolean)) ∈ wAll := in_t2 108 rfl rfl
theorem wq_381 : (Cond.methodLink RX1 42 yX1_countUp) ∈ wAll := in_t2 110 rfl rfl
theorem wq_383 : (Cond.instanceMethod yX1_countUp) ∈ wAll := in_t2 112 rfl rfl
theorem wq_3 : (Cond.selects RX1 yX1_countUp yX1_countUp) ∈ wAll := in_all 3 rfl rfl
theorem wq_384 : (Cond.code yX1_countUp cX1_countUp 2 (some .boolean)) ∈ wAll := in_t2 113 rfl rfl
theorem wq_385 : (Cond.methodLink RX1 46 yX1_countDown) ∈ wAll := in_t2 114 rfl rfl
theorem wq_387 : (Cond.instanceMethod yX1_countDown) ∈ wAll := in_t2 116 rfl rfl
theorem wq_4 : (Cond.selects RX1 yX1_countDown yX1_countDown) ∈ wAll := in_all 4 rfl rfl
theorem wq_388 : (Cond.code yX1_countDown cX1_countDown 2 (some .boolean)) ∈ wAll := in_t2 117 rfl rfl
theorem wq_785 : (Cond.methodLink RL 36 yX7_count) ∈ wAll := in_t4 34 rfl rfl
theorem wq_786 : (Cond.instanceMethod yX7_count) ∈ wAll := in_t4 35 rfl rfl
theorem wq_787 : (Cond.selects RX7 yX7_count yX7_count) ∈ wAll := in_t4 36 rfl rfl
theorem wq_788 : (Cond.code yX7_count cX7_count 4 (some .int)) ∈ wAll := in_t4 37 rfl rfl
theorem wq_789 : (Cond.constantLong RX7 69 (5000)) ∈ wAll := in_t4 38 rfl rfl
theorem wq_790 : (Cond.methodLink RX7 71 yX7_mayDo) ∈ wAll := in_t4 39 rfl rfl
theorem wq_792 : (Cond.instanceMethod yX7_mayDo) ∈ wAll := in_t4 41 rfl rfl
theorem wq_15 : (Cond.selects RX7 yX7_mayDo yX7_mayDo) ∈ wAll := in_all 15 rfl rfl
theorem wq_793 : (Cond.code yX7_mayDo cX7_mayDo 1 (some .boolean)) ∈ wAll := in_t4 42 rfl rfl
theorem wq_389 : (Cond.methodLink RL 37 yX6_at) ∈ wAll := in_t2 118 rfl rfl
theorem wq_390 : (Cond.instanceMethod yX6_at) ∈ wAll := in_t2 119 rfl rfl
theorem wq_391 : (Cond.selects RX6 yX6_at yX6_at) ∈ wAll := in_t2 120 rfl rfl
theorem wq_392 : (Cond.code yX6_at cX6_at 1 (some .int)) ∈ wAll := in_t2 121 rfl rfl
theorem wq_393 : (Cond.methodLink RX6 67 yX1_lineNow) ∈ wAll := in_t2 122 rfl rfl
theorem wq_394 : (Cond.instanceMethod yX1_lineNow) ∈ wAll := in_t2 123 rfl rfl
theorem wq_395 : (Cond.selects RX1 yX1_lineNow yX1_lineNow) ∈ wAll := in_t2 124 rfl rfl
theorem wq_396 : (Cond.code yX1_lineNow cX1_lineNow 1 (some .int)) ∈ wAll := in_t2 125 rfl rfl
theorem wq_794 : (Cond.methodLink RL 40 yX7_at) ∈ wAll := in_t4 43 rfl rfl
theorem wq_795 : (Cond.instanceMethod yX7_at) ∈ wAll := in_t4 44 rfl rfl
theorem wq_796 : (Cond.selects RX7 yX7_at yX7_at) ∈ wAll := in_t4 45 rfl rfl
theorem wq_797 : (Cond.code yX7_at cX7_at 1 (some .int)) ∈ wAll := in_t4 46 rfl rfl
theorem wq_397 : (Cond.methodLink RL 41 yX6_go) ∈ wAll := in_t2 126 rfl rfl
theorem wq_398 : (Cond.instanceMethod yX6_go) ∈ wAll := in_t2 127 rfl rfl
theorem wq_399 : (Cond.selects RX6 yX6_go yX6_go) ∈ wAll := in_t2 128 rfl rfl
theorem wq_400 : (Cond.code yX6_go cX6_go 2 (some .int)) ∈ wAll := in_t2 129 rfl rfl
theorem wq_401 : (Cond.methodLink RX6 70 yX1_jump) ∈ wAll := in_t2 130 rfl rfl
theorem wq_402 : (Cond.instanceMethod yX1_jump) ∈ wAll := in_t2 131 rfl rfl
theorem wq_403 : (Cond.selects RX1 yX1_jump yX1_jump) ∈ wAll := in_t2 132 rfl rfl
theorem wq_404 : (Cond.code yX1_jump cX1_jump 3 (some .int)) ∈ wAll := in_t2 133 rfl rfl
theorem wq_798 : (Cond.methodLink RL 44 yX7_go) ∈ wAll := in_t4 47 rfl rfl
theorem wq_799 : (Cond.instanceMethod yX7_go) ∈ wAll := in_t4 48 rfl rfl
theorem wq_800 : (Cond.selects RX7 yX7_go yX7_go) ∈ wAll := in_t4 49 rfl rfl
theorem wq_801 : (Cond.code yX7_go cX7_go 3 (some .int)) ∈ wAll := in_t4 50 rfl rfl
theorem wq_405 : (Cond.methodLink RL 45 yX6_rule) ∈ wAll := in_t2 134 rfl rfl
theorem wq_406 : (Cond.instanceMethod yX6_rule) ∈ wAll := in_t2 135 rfl rfl
theorem wq_407 : (Cond.selects RX6 yX6_rule yX6_rule) ∈ wAll := in_t2 136 rfl rfl
theorem wq_408 : (Cond.code yX6_rule cX6_rule 7 (some .int)) ∈ wAll := in_t2 137 rfl rfl
theorem wq_409 : (Cond.methodLink RX6 73 yX6_pairOf) ∈ wAll := in_t2 138 rfl rfl
theorem wq_410 : (Cond.methodLink RX6 76 yX4_follow) ∈ wAll := in_t2 139 rfl rfl
theorem wq_411 : (Cond.instanceMethod yX4_follow) ∈ wAll := in_t2 140 rfl rfl
theorem wq_412 : (Cond.selects RX4 yX4_follow yX4_follow) ∈ wAll := in_t2 141 rfl rfl
theorem wq_413 : (Cond.code yX4_follow cX4_follow 6 none) ∈ wAll := in_t2 142 rfl rfl
theorem wq_419 : (Cond.methodLink RX6 80 yX3_putRule) ∈ wAll := in_t2 148 rfl rfl
theorem wq_420 : (Cond.instanceMethod yX3_putRule) ∈ wAll := in_t2 149 rfl rfl
theorem wq_421 : (Cond.selects RX3 yX3_putRule yX3_putRule) ∈ wAll := in_t2 150 rfl rfl
theorem wq_422 : (Cond.code yX3_putRule cX3_putRule 5 (some .int)) ∈ wAll := in_t2 151 rfl rfl
theorem wq_93 : (Cond.fieldLink RX3 25 "TagTower$Machine" "rules" "I") ∈ wAll := in_t1 62 rfl rfl
theorem wq_802 : (Cond.methodLink RL 49 yX7_rule) ∈ wAll := in_t4 51 rfl rfl
theorem wq_803 : (Cond.instanceMethod yX7_rule) ∈ wAll := in_t4 52 rfl rfl
theorem wq_804 : (Cond.selects RX7 yX7_rule yX7_rule) ∈ wAll := in_t4 53 rfl rfl
theorem wq_805 : (Cond.code yX7_rule cX7_rule 9 (some .int)) ∈ wAll := in_t4 54 rfl rfl
theorem wq_806 : (Cond.methodLink RX7 75 yX7_isPair) ∈ wAll := in_t4 55 rfl rfl
theorem wq_807 : (Cond.static yX7_isPair) ∈ wAll := in_t4 56 rfl rfl
theorem wq_808 : (Cond.code yX7_isPair cX7_isPair 2 (some .boolean)) ∈ wAll := in_t4 57 rfl rfl
theorem wq_423 : (Cond.methodLink RL 50 yX6_unrule) ∈ wAll := in_t2 152 rfl rfl
theorem wq_424 : (Cond.instanceMethod yX6_unrule) ∈ wAll := in_t2 153 rfl rfl
theorem wq_425 : (Cond.selects RX6 yX6_unrule yX6_unrule) ∈ wAll := in_t2 154 rfl rfl
theorem wq_426 : (Cond.code yX6_unrule cX6_unrule 4 (some .int)) ∈ wAll := in_t2 155 rfl rfl
theorem wq_427 : (Cond.methodLink RX6 83 yX4_followNone) ∈ wAll := in_t2 156 rfl rfl
theorem wq_428 : (Cond.methodLink RX6 87 yX3_dropRule) ∈ wAll := in_t2 157 rfl rfl
theorem wq_429 : (Cond.instanceMethod yX3_dropRule) ∈ wAll := in_t2 158 rfl rfl
theorem wq_430 : (Cond.selects RX3 yX3_dropRule yX3_dropRule) ∈ wAll := in_t2 159 rfl rfl
theorem wq_431 : (Cond.code yX3_dropRule cX3_dropRule 2 (some .int)) ∈ wAll := in_t2 160 rfl rfl
theorem wq_809 : (Cond.methodLink RL 53 yX7_unrule) ∈ wAll := in_t4 58 rfl rfl
theorem wq_810 : (Cond.instanceMethod yX7_unrule) ∈ wAll := in_t4 59 rfl rfl
theorem wq_811 : (Cond.selects RX7 yX7_unrule yX7_unrule) ∈ wAll := in_t4 60 rfl rfl
theorem wq_812 : (Cond.code yX7_unrule cX7_unrule 4 (some .int)) ∈ wAll := in_t4 61 rfl rfl
theorem wq_432 : (Cond.methodLink RL 54 yX6_place) ∈ wAll := in_t2 161 rfl rfl
theorem wq_433 : (Cond.instanceMethod yX6_place) ∈ wAll := in_t2 162 rfl rfl
theorem wq_434 : (Cond.selects RX6 yX6_place yX6_place) ∈ wAll := in_t2 163 rfl rfl
theorem wq_435 : (Cond.code yX6_place cX6_place 5 (some .int)) ∈ wAll := in_t2 164 rfl rfl
theorem wq_436 : (Cond.constant RX6 90 (100000)) ∈ wAll := in_t2 165 rfl rfl
theorem wq_437 : (Cond.methodLink RX6 91 yX3_putPlace) ∈ wAll := in_t2 166 rfl rfl
theorem wq_438 : (Cond.instanceMethod yX3_putPlace) ∈ wAll := in_t2 167 rfl rfl
theorem wq_439 : (Cond.selects RX3 yX3_putPlace yX3_putPlace) ∈ wAll := in_t2 168 rfl rfl
theorem wq_440 : (Cond.code yX3_putPlace cX3_putPlace 5 none) ∈ wAll := in_t2 169 rfl rfl
theorem wq_94 : (Cond.fieldLink RX3 29 "TagTower$Machine" "state" "I") ∈ wAll := in_t1 63 rfl rfl
theorem wq_96 : (Cond.fieldLink RX3 32 "TagTower$Machine" "sign" "I") ∈ wAll := in_t1 65 rfl rfl
theorem wq_98 : (Cond.fieldLink RX3 35 "TagTower$Machine" "left" "I") ∈ wAll := in_t1 67 rfl rfl
theorem wq_100 : (Cond.fieldLink RX3 38 "TagTower$Machine" "right" "I") ∈ wAll := in_t1 69 rfl rfl
theorem wq_813 : (Cond.methodLink RL 57 yX7_place) ∈ wAll := in_t4 62 rfl rfl
theorem wq_814 : (Cond.instanceMethod yX7_place) ∈ wAll := in_t4 63 rfl rfl
theorem wq_815 : (Cond.selects RX7 yX7_place yX7_place) ∈ wAll := in_t4 64 rfl rfl
theorem wq_816 : (Cond.code yX7_place cX7_place 5 (some .int)) ∈ wAll := in_t4 65 rfl rfl
theorem wq_817 : (Cond.constantLong RX7 79 (100000)) ∈ wAll := in_t4 66 rfl rfl
theorem wq_685 : (Cond.fieldLink RX7 81 "TagTowerModel" "state" "I") ∈ wAll := in_t3 174 rfl rfl
theorem wq_686 : (Cond.fieldLink RX7 84 "TagTowerModel" "sign" "I") ∈ wAll := in_t3 175 rfl rfl
theorem wq_687 : (Cond.fieldLink RX7 87 "TagTowerModel" "left" "I") ∈ wAll := in_t3 176 rfl rfl
theorem wq_688 : (Cond.fieldLink RX7 90 "TagTowerModel" "right" "I") ∈ wAll := in_t3 177 rfl rfl
theorem wq_441 : (Cond.methodLink RL 58 yX6_move) ∈ wAll := in_t2 170 rfl rfl
theorem wq_442 : (Cond.instanceMethod yX6_move) ∈ wAll := in_t2 171 rfl rfl
theorem wq_443 : (Cond.selects RX6 yX6_move yX6_move) ∈ wAll := in_t2 172 rfl rfl
theorem wq_444 : (Cond.code yX6_move cX6_move 2 (some .int)) ∈ wAll := in_t2 173 rfl rfl
theorem wq_445 : (Cond.methodLink RX6 94 yX3_doSteps) ∈ wAll := in_t2 174 rfl rfl
theorem wq_446 : (Cond.instanceMethod yX3_doSteps) ∈ wAll := in_t2 175 rfl rfl
theorem wq_447 : (Cond.selects RX3 yX3_doSteps yX3_doSteps) ∈ wAll := in_t2 176 rfl rfl
theorem wq_448 : (Cond.code yX3_doSteps cX3_doSteps 3 (some .int)) ∈ wAll := in_t2 177 rfl rfl
theorem wq_449 : (Cond.methodLink RX3 45 yX3_doStep) ∈ wAll := in_t2 178 rfl rfl
theorem wq_451 : (Cond.instanceMethod yX3_doStep) ∈ wAll := in_t2 180 rfl rfl
theorem wq_5 : (Cond.selects RX3 yX3_doStep yX3_doStep) ∈ wAll := in_all 5 rfl rfl
theorem wq_452 : (Cond.code yX3_doStep cX3_doStep 5 (some .boolean)) ∈ wAll := in_t2 181 rfl rfl
theorem wq_458 : (Cond.constant RX3 52 (100000)) ∈ wAll := in_t2 187 rfl rfl
theorem wq_453 : (Cond.methodLink RX3 49 yX3_isStill) ∈ wAll := in_t2 182 rfl rfl
theorem wq_454 : (Cond.instanceMethod yX3_isStill) ∈ wAll := in_t2 183 rfl rfl
theorem wq_455 : (Cond.selects RX3 yX3_isStill yX3_isStill) ∈ wAll := in_t2 184 rfl rfl
theorem wq_456 : (Cond.code yX3_isStill cX3_isStill 1 (some .boolean)) ∈ wAll := in_t2 185 rfl rfl
theorem wq_818 : (Cond.methodLink RL 61 yX7_move) ∈ wAll := in_t4 67 rfl rfl
theorem wq_819 : (Cond.instanceMethod yX7_move) ∈ wAll := in_t4 68 rfl rfl
theorem wq_820 : (Cond.selects RX7 yX7_move yX7_move) ∈ wAll := in_t4 69 rfl rfl
theorem wq_821 : (Cond.code yX7_move cX7_move 4 (some .int)) ∈ wAll := in_t4 70 rfl rfl
theorem wq_822 : (Cond.methodLink RX7 94 yX7_mayMove) ∈ wAll := in_t4 71 rfl rfl
theorem wq_824 : (Cond.instanceMethod yX7_mayMove) ∈ wAll := in_t4 73 rfl rfl
theorem wq_16 : (Cond.selects RX7 yX7_mayMove yX7_mayMove) ∈ wAll := in_all 16 rfl rfl
theorem wq_825 : (Cond.code yX7_mayMove cX7_mayMove 2 (some .boolean)) ∈ wAll := in_t4 74 rfl rfl
theorem wq_826 : (Cond.constant RX7 93 (100000)) ∈ wAll := in_t4 75 rfl rfl
theorem wq_459 : (Cond.methodLink RL 62 yX6_where) ∈ wAll := in_t2 188 rfl rfl
theorem wq_460 : (Cond.instanceMethod yX6_where) ∈ wAll := in_t2 189 rfl rfl
theorem wq_461 : (Cond.selects RX6 yX6_where yX6_where) ∈ wAll := in_t2 190 rfl rfl
theorem wq_462 : (Cond.code yX6_where cX6_where 2 (some .int)) ∈ wAll := in_t2 191 rfl rfl
theorem wq_463 : (Cond.methodLink RX6 110 yX3_isStill) ∈ wAll := in_t2 192 rfl rfl
theorem wq_464 : (Cond.methodLink RX6 114 yX6_oneIf) ∈ wAll := in_t2 193 rfl rfl
theorem wq_465 : (Cond.static yX6_oneIf) ∈ wAll := in_t2 194 rfl rfl
theorem wq_466 : (Cond.code yX6_oneIf cX6_oneIf 1 (some .int)) ∈ wAll := in_t2 195 rfl rfl
theorem wq_827 : (Cond.methodLink RL 65 yX7_where) ∈ wAll := in_t4 76 rfl rfl
theorem wq_828 : (Cond.instanceMethod yX7_where) ∈ wAll := in_t4 77 rfl rfl
theorem wq_829 : (Cond.selects RX7 yX7_where yX7_where) ∈ wAll := in_t4 78 rfl rfl
theorem wq_830 : (Cond.code yX7_where cX7_where 2 (some .int)) ∈ wAll := in_t4 79 rfl rfl
theorem wq_467 : (Cond.methodLink RL 66 yX6_production) ∈ wAll := in_t2 196 rfl rfl
theorem wq_468 : (Cond.instanceMethod yX6_production) ∈ wAll := in_t2 197 rfl rfl
theorem wq_469 : (Cond.selects RX6 yX6_production yX6_production) ∈ wAll := in_t2 198 rfl rfl
theorem wq_470 : (Cond.code yX6_production cX6_production 3 (some .int)) ∈ wAll := in_t2 199 rfl rfl
theorem wq_471 : (Cond.methodLink RX6 118 yX4_letterAt) ∈ wAll := in_t2 200 rfl rfl
theorem wq_472 : (Cond.instanceMethod yX4_letterAt) ∈ wAll := in_t2 201 rfl rfl
theorem wq_473 : (Cond.selects RX4 yX4_letterAt yX4_letterAt) ∈ wAll := in_t2 202 rfl rfl
theorem wq_474 : (Cond.code yX4_letterAt cX4_letterAt 3 (some .int)) ∈ wAll := in_t2 203 rfl rfl
theorem wq_475 : (Cond.methodLink RX4 75 yX4_sizeOf) ∈ wAll := in_t2 204 rfl rfl
theorem wq_476 : (Cond.instanceMethod yX4_sizeOf) ∈ wAll := in_t2 205 rfl rfl
theorem wq_477 : (Cond.selects RX4 yX4_sizeOf yX4_sizeOf) ∈ wAll := in_t2 206 rfl rfl
theorem wq_478 : (Cond.code yX4_sizeOf cX4_sizeOf 2 (some .int)) ∈ wAll := in_t2 207 rfl rfl
theorem wq_831 : (Cond.methodLink RL 69 yX7_production) ∈ wAll := in_t4 80 rfl rfl
theorem wq_832 : (Cond.instanceMethod yX7_production) ∈ wAll := in_t4 81 rfl rfl
theorem wq_833 : (Cond.selects RX7 yX7_production yX7_production) ∈ wAll := in_t4 82 rfl rfl
theorem wq_834 : (Cond.code yX7_production cX7_production 3 (some .int)) ∈ wAll := in_t4 83 rfl rfl
theorem wq_835 : (Cond.constantLong RX7 118 (120)) ∈ wAll := in_t4 84 rfl rfl
theorem wq_698 : (Cond.fieldLink RX7 97 "TagTowerModel" "made" "I") ∈ wAll := in_t3 187 rfl rfl
theorem wq_836 : (Cond.methodLink RX7 120 yX7_produce) ∈ wAll := in_t4 85 rfl rfl
theorem wq_838 : (Cond.instanceMethod yX7_produce) ∈ wAll := in_t4 87 rfl rfl
theorem wq_17 : (Cond.selects RX7 yX7_produce yX7_produce) ∈ wAll := in_all 17 rfl rfl
theorem wq_839 : (Cond.code yX7_produce cX7_produce 4 none) ∈ wAll := in_t4 88 rfl rfl
theorem wq_840 : (Cond.methodLink RX7 103 yX7_of) ∈ wAll := in_t4 89 rfl rfl
theorem wq_841 : (Cond.static yX7_of) ∈ wAll := in_t4 90 rfl rfl
theorem wq_842 : (Cond.code yX7_of cX7_of 2 (some .int)) ∈ wAll := in_t4 91 rfl rfl
theorem wq_843 : (Cond.methodLink RX7 107 yX7_one) ∈ wAll := in_t4 92 rfl rfl
theorem wq_845 : (Cond.instanceMethod yX7_one) ∈ wAll := in_t4 94 rfl rfl
theorem wq_18 : (Cond.selects RX7 yX7_one yX7_one) ∈ wAll := in_all 18 rfl rfl
theorem wq_846 : (Cond.code yX7_one cX7_one 2 none) ∈ wAll := in_t4 95 rfl rfl
theorem wq_847 : (Cond.methodLink RX7 100 yX7_makes) ∈ wAll := in_t4 96 rfl rfl
theorem wq_849 : (Cond.instanceMethod yX7_makes) ∈ wAll := in_t4 98 rfl rfl
theorem wq_19 : (Cond.selects RX7 yX7_makes yX7_makes) ∈ wAll := in_all 19 rfl rfl
theorem wq_850 : (Cond.code yX7_makes cX7_makes 2 none) ∈ wAll := in_t4 99 rfl rfl
theorem wq_851 : (Cond.methodLink RX7 114 yX7_produceRuled) ∈ wAll := in_t4 100 rfl rfl
theorem wq_853 : (Cond.instanceMethod yX7_produceRuled) ∈ wAll := in_t4 102 rfl rfl
theorem wq_20 : (Cond.selects RX7 yX7_produceRuled yX7_produceRuled) ∈ wAll := in_all 20 rfl rfl
theorem wq_854 : (Cond.code yX7_produceRuled cX7_produceRuled 6 none) ∈ wAll := in_t4 103 rfl rfl
theorem wq_855 : (Cond.methodLink RX7 110 yX7_doubled) ∈ wAll := in_t4 104 rfl rfl
theorem wq_857 : (Cond.instanceMethod yX7_doubled) ∈ wAll := in_t4 106 rfl rfl
theorem wq_21 : (Cond.selects RX7 yX7_doubled yX7_doubled) ∈ wAll := in_all 21 rfl rfl
theorem wq_858 : (Cond.code yX7_doubled cX7_doubled 3 none) ∈ wAll := in_t4 107 rfl rfl
theorem wq_480 : (Cond.methodLink RL 70 yX6_lay) ∈ wAll := in_t2 209 rfl rfl
theorem wq_481 : (Cond.instanceMethod yX6_lay) ∈ wAll := in_t2 210 rfl rfl
theorem wq_482 : (Cond.selects RX6 yX6_lay yX6_lay) ∈ wAll := in_t2 211 rfl rfl
theorem wq_483 : (Cond.code yX6_lay cX6_lay 1 (some .int)) ∈ wAll := in_t2 212 rfl rfl
theorem wq_484 : (Cond.methodLink RX6 121 yX5_layPlace) ∈ wAll := in_t2 213 rfl rfl
theorem wq_485 : (Cond.instanceMethod yX5_layPlace) ∈ wAll := in_t2 214 rfl rfl
theorem wq_486 : (Cond.selects RX5 yX5_layPlace yX5_layPlace) ∈ wAll := in_t2 215 rfl rfl
theorem wq_487 : (Cond.code yX5_layPlace cX5_layPlace 5 (some .int)) ∈ wAll := in_t2 216 rfl rfl
theorem wq_488 : (Cond.methodLink RX5 23 yX2_empty) ∈ wAll := in_t2 217 rfl rfl
theorem wq_489 : (Cond.instanceMethod yX2_empty) ∈ wAll := in_t2 218 rfl rfl
theorem wq_490 : (Cond.selects RX2 yX2_empty yX2_empty) ∈ wAll := in_t2 219 rfl rfl
theorem wq_491 : (Cond.code yX2_empty cX2_empty 1 none) ∈ wAll := in_t2 220 rfl rfl
theorem wq_280 : (Cond.fieldLink RX2 21 "TagTower$LetterRow" "head" "I") ∈ wAll := in_t2 9 rfl rfl
theorem wq_282 : (Cond.fieldLink RX2 25 "TagTower$LetterRow" "size" "I") ∈ wAll := in_t2 11 rfl rfl
theorem wq_492 : (Cond.methodLink RX5 26 yX5_appendTwos) ∈ wAll := in_t2 221 rfl rfl
theorem wq_494 : (Cond.instanceMethod yX5_appendTwos) ∈ wAll := in_t2 223 rfl rfl
theorem wq_6 : (Cond.selects RX5 yX5_appendTwos yX5_appendTwos) ∈ wAll := in_all 6 rfl rfl
theorem wq_495 : (Cond.code yX5_appendTwos cX5_appendTwos 4 none) ∈ wAll := in_t2 224 rfl rfl
theorem wq_496 : (Cond.methodLink RX5 34 yX2_append) ∈ wAll := in_t2 225 rfl rfl
theorem wq_497 : (Cond.instanceMethod yX2_append) ∈ wAll := in_t2 226 rfl rfl
theorem wq_498 : (Cond.selects RX2 yX2_append yX2_append) ∈ wAll := in_t2 227 rfl rfl
theorem wq_499 : (Cond.code yX2_append cX2_append 2 none) ∈ wAll := in_t2 228 rfl rfl
theorem wq_500 : (Cond.methodLink RX2 32 yX2_wrapped) ∈ wAll := in_t2 229 rfl rfl
theorem wq_502 : (Cond.instanceMethod yX2_wrapped) ∈ wAll := in_t2 231 rfl rfl
theorem wq_7 : (Cond.selects RX2 yX2_wrapped yX2_wrapped) ∈ wAll := in_all 7 rfl rfl
theorem wq_503 : (Cond.code yX2_wrapped cX2_wrapped 2 (some .int)) ∈ wAll := in_t2 232 rfl rfl
theorem wq_859 : (Cond.methodLink RL 73 yX7_lay) ∈ wAll := in_t4 108 rfl rfl
theorem wq_860 : (Cond.instanceMethod yX7_lay) ∈ wAll := in_t4 109 rfl rfl
theorem wq_861 : (Cond.selects RX7 yX7_lay yX7_lay) ∈ wAll := in_t4 110 rfl rfl
theorem wq_862 : (Cond.code yX7_lay cX7_lay 3 (some .int)) ∈ wAll := in_t4 111 rfl rfl
theorem wq_689 : (Cond.fieldLink RX7 123 "TagTowerModel" "begin" "I") ∈ wAll := in_t3 178 rfl rfl
theorem wq_690 : (Cond.fieldLink RX7 126 "TagTowerModel" "length" "I") ∈ wAll := in_t3 179 rfl rfl
theorem wq_863 : (Cond.methodLink RX7 129 yX7_puts) ∈ wAll := in_t4 112 rfl rfl
theorem wq_865 : (Cond.instanceMethod yX7_puts) ∈ wAll := in_t4 114 rfl rfl
theorem wq_22 : (Cond.selects RX7 yX7_puts yX7_puts) ∈ wAll := in_all 22 rfl rfl
theorem wq_866 : (Cond.code yX7_puts cX7_puts 2 none) ∈ wAll := in_t4 115 rfl rfl
theorem wq_504 : (Cond.methodLink RL 74 yX6_add) ∈ wAll := in_t2 233 rfl rfl
theorem wq_505 : (Cond.instanceMethod yX6_add) ∈ wAll := in_t2 234 rfl rfl
theorem wq_506 : (Cond.selects RX6 yX6_add yX6_add) ∈ wAll := in_t2 235 rfl rfl
theorem wq_507 : (Cond.code yX6_add cX6_add 2 (some .int)) ∈ wAll := in_t2 236 rfl rfl
theorem wq_508 : (Cond.methodLink RX6 125 yX5_addLetter) ∈ wAll := in_t2 237 rfl rfl
theorem wq_509 : (Cond.instanceMethod yX5_addLetter) ∈ wAll := in_t2 238 rfl rfl
theorem wq_510 : (Cond.selects RX5 yX5_addLetter yX5_addLetter) ∈ wAll := in_t2 239 rfl rfl
theorem wq_511 : (Cond.code yX5_addLetter cX5_addLetter 2 (some .int)) ∈ wAll := in_t3 0 rfl rfl
theorem wq_867 : (Cond.methodLink RL 77 yX7_add) ∈ wAll := in_t4 116 rfl rfl
theorem wq_868 : (Cond.instanceMethod yX7_add) ∈ wAll := in_t4 117 rfl rfl
theorem wq_869 : (Cond.selects RX7 yX7_add yX7_add) ∈ wAll := in_t4 118 rfl rfl
theorem wq_870 : (Cond.code yX7_add cX7_add 2 (some .int)) ∈ wAll := in_t4 119 rfl rfl
theorem wq_512 : (Cond.methodLink RL 78 yX6_clear) ∈ wAll := in_t3 1 rfl rfl
theorem wq_513 : (Cond.instanceMethod yX6_clear) ∈ wAll := in_t3 2 rfl rfl
theorem wq_514 : (Cond.selects RX6 yX6_clear yX6_clear) ∈ wAll := in_t3 3 rfl rfl
theorem wq_515 : (Cond.code yX6_clear cX6_clear 2 (some .int)) ∈ wAll := in_t3 4 rfl rfl
theorem wq_516 : (Cond.methodLink RX6 137 yX2_empty) ∈ wAll := in_t3 5 rfl rfl
theorem wq_871 : (Cond.methodLink RL 81 yX7_clear) ∈ wAll := in_t4 120 rfl rfl
theorem wq_872 : (Cond.instanceMethod yX7_clear) ∈ wAll := in_t4 121 rfl rfl
theorem wq_873 : (Cond.selects RX7 yX7_clear yX7_clear) ∈ wAll := in_t4 122 rfl rfl
theorem wq_874 : (Cond.code yX7_clear cX7_clear 2 (some .int)) ∈ wAll := in_t4 123 rfl rfl
theorem wq_517 : (Cond.methodLink RL 82 yX6_letter) ∈ wAll := in_t3 6 rfl rfl
theorem wq_518 : (Cond.instanceMethod yX6_letter) ∈ wAll := in_t3 7 rfl rfl
theorem wq_519 : (Cond.selects RX6 yX6_letter yX6_letter) ∈ wAll := in_t3 8 rfl rfl
theorem wq_520 : (Cond.code yX6_letter cX6_letter 2 (some .int)) ∈ wAll := in_t3 9 rfl rfl
theorem wq_521 : (Cond.methodLink RX6 140 yX2_get) ∈ wAll := in_t3 10 rfl rfl
theorem wq_522 : (Cond.instanceMethod yX2_get) ∈ wAll := in_t3 11 rfl rfl
theorem wq_523 : (Cond.selects RX2 yX2_get yX2_get) ∈ wAll := in_t3 12 rfl rfl
theorem wq_524 : (Cond.code yX2_get cX2_get 2 (some .int)) ∈ wAll := in_t3 13 rfl rfl
theorem wq_875 : (Cond.methodLink RL 85 yX7_letter) ∈ wAll := in_t4 124 rfl rfl
theorem wq_876 : (Cond.instanceMethod yX7_letter) ∈ wAll := in_t4 125 rfl rfl
theorem wq_877 : (Cond.selects RX7 yX7_letter yX7_letter) ∈ wAll := in_t4 126 rfl rfl
theorem wq_878 : (Cond.code yX7_letter cX7_letter 2 (some .int)) ∈ wAll := in_t4 127 rfl rfl
theorem wq_879 : (Cond.methodLink RX7 132 yX7_letterAt) ∈ wAll := in_t4 128 rfl rfl
theorem wq_881 : (Cond.instanceMethod yX7_letterAt) ∈ wAll := in_t4 130 rfl rfl
theorem wq_23 : (Cond.selects RX7 yX7_letterAt yX7_letterAt) ∈ wAll := in_all 23 rfl rfl
theorem wq_882 : (Cond.code yX7_letterAt cX7_letterAt 2 (some .int)) ∈ wAll := in_t4 131 rfl rfl
theorem wq_526 : (Cond.methodLink RL 86 yX6_length) ∈ wAll := in_t3 15 rfl rfl
theorem wq_527 : (Cond.instanceMethod yX6_length) ∈ wAll := in_t3 16 rfl rfl
theorem wq_528 : (Cond.selects RX6 yX6_length yX6_length) ∈ wAll := in_t3 17 rfl rfl
theorem wq_529 : (Cond.code yX6_length cX6_length 1 (some .int)) ∈ wAll := in_t3 18 rfl rfl
theorem wq_883 : (Cond.methodLink RL 89 yX7_length) ∈ wAll := in_t4 132 rfl rfl
theorem wq_884 : (Cond.instanceMethod yX7_length) ∈ wAll := in_t4 133 rfl rfl
theorem wq_885 : (Cond.selects RX7 yX7_length yX7_length) ∈ wAll := in_t4 134 rfl rfl
theorem wq_886 : (Cond.code yX7_length cX7_length 1 (some .int)) ∈ wAll := in_t4 135 rfl rfl
theorem wq_530 : (Cond.methodLink RL 90 yX6_tag) ∈ wAll := in_t3 19 rfl rfl
theorem wq_531 : (Cond.instanceMethod yX6_tag) ∈ wAll := in_t3 20 rfl rfl
theorem wq_532 : (Cond.selects RX6 yX6_tag yX6_tag) ∈ wAll := in_t3 21 rfl rfl
theorem wq_533 : (Cond.code yX6_tag cX6_tag 2 (some .int)) ∈ wAll := in_t3 22 rfl rfl
theorem wq_534 : (Cond.methodLink RX6 143 yX5_doSteps) ∈ wAll := in_t3 23 rfl rfl
theorem wq_535 : (Cond.instanceMethod yX5_doSteps) ∈ wAll := in_t3 24 rfl rfl
theorem wq_536 : (Cond.selects RX5 yX5_doSteps yX5_doSteps) ∈ wAll := in_t3 25 rfl rfl
theorem wq_537 : (Cond.code yX5_doSteps cX5_doSteps 4 (some .int)) ∈ wAll := in_t3 26 rfl rfl
theorem wq_538 : (Cond.methodLink RX5 37 yX5_doStep) ∈ wAll := in_t3 27 rfl rfl
theorem wq_540 : (Cond.instanceMethod yX5_doStep) ∈ wAll := in_t3 29 rfl rfl
theorem wq_8 : (Cond.selects RX5 yX5_doStep yX5_doStep) ∈ wAll := in_all 8 rfl rfl
theorem wq_541 : (Cond.code yX5_doStep cX5_doStep 4 (some .boolean)) ∈ wAll := in_t3 30 rfl rfl
theorem wq_542 : (Cond.methodLink RX5 49 yX2_get) ∈ wAll := in_t3 31 rfl rfl
theorem wq_543 : (Cond.methodLink RX5 53 yX4_sizeOf) ∈ wAll := in_t3 32 rfl rfl
theorem wq_544 : (Cond.methodLink RX5 58 yX2_drop) ∈ wAll := in_t3 33 rfl rfl
theorem wq_545 : (Cond.instanceMethod yX2_drop) ∈ wAll := in_t3 34 rfl rfl
theorem wq_546 : (Cond.selects RX2 yX2_drop yX2_drop) ∈ wAll := in_t3 35 rfl rfl
theorem wq_547 : (Cond.code yX2_drop cX2_drop 3 none) ∈ wAll := in_t3 36 rfl rfl
theorem wq_548 : (Cond.methodLink RX2 36 Lib.Math.min.name) ∈ wAll := in_t3 37 rfl rfl
theorem wq_549 : (Cond.methodLink RX5 61 yX4_appendTo) ∈ wAll := in_t3 38 rfl rfl
theorem wq_550 : (Cond.instanceMethod yX4_appendTo) ∈ wAll := in_t3 39 rfl rfl
theorem wq_551 : (Cond.selects RX4 yX4_appendTo yX4_appendTo) ∈ wAll := in_t3 40 rfl rfl
theorem wq_552 : (Cond.code yX4_appendTo cX4_appendTo 6 none) ∈ wAll := in_t3 41 rfl rfl
theorem wq_553 : (Cond.methodLink RX4 85 yX2_append) ∈ wAll := in_t3 42 rfl rfl
theorem wq_887 : (Cond.methodLink RL 93 yX7_tag) ∈ wAll := in_t4 136 rfl rfl
theorem wq_888 : (Cond.instanceMethod yX7_tag) ∈ wAll := in_t4 137 rfl rfl
theorem wq_889 : (Cond.selects RX7 yX7_tag yX7_tag) ∈ wAll := in_t4 138 rfl rfl
theorem wq_890 : (Cond.code yX7_tag cX7_tag 3 (some .int)) ∈ wAll := in_t4 139 rfl rfl
theorem wq_891 : (Cond.constantLong RX7 136 (20000)) ∈ wAll := in_t4 140 rfl rfl
theorem wq_892 : (Cond.methodLink RX7 138 yX7_tags) ∈ wAll := in_t4 141 rfl rfl
theorem wq_894 : (Cond.instanceMethod yX7_tags) ∈ wAll := in_t4 143 rfl rfl
theorem wq_24 : (Cond.selects RX7 yX7_tags yX7_tags) ∈ wAll := in_all 24 rfl rfl
theorem wq_895 : (Cond.code yX7_tags cX7_tags 2 (some .boolean)) ∈ wAll := in_t4 144 rfl rfl
theorem wq_554 : (Cond.methodLink RL 94 yX6_next) ∈ wAll := in_t3 43 rfl rfl
theorem wq_555 : (Cond.instanceMethod yX6_next) ∈ wAll := in_t3 44 rfl rfl
theorem wq_556 : (Cond.selects RX6 yX6_next yX6_next) ∈ wAll := in_t3 45 rfl rfl
theorem wq_557 : (Cond.code yX6_next cX6_next 1 (some .int)) ∈ wAll := in_t3 46 rfl rfl
theorem wq_558 : (Cond.methodLink RX6 146 yX5_stepsToPlace) ∈ wAll := in_t3 47 rfl rfl
theorem wq_559 : (Cond.instanceMethod yX5_stepsToPlace) ∈ wAll := in_t3 48 rfl rfl
theorem wq_560 : (Cond.selects RX5 yX5_stepsToPlace yX5_stepsToPlace) ∈ wAll := in_t3 49 rfl rfl
theorem wq_561 : (Cond.code yX5_stepsToPlace cX5_stepsToPlace 3 (some .int)) ∈ wAll := in_t3 50 rfl rfl
theorem wq_562 : (Cond.methodLink RX5 41 yX2_become) ∈ wAll := in_t3 51 rfl rfl
theorem wq_563 : (Cond.instanceMethod yX2_become) ∈ wAll := in_t3 52 rfl rfl
theorem wq_564 : (Cond.selects RX2 yX2_become yX2_become) ∈ wAll := in_t3 53 rfl rfl
theorem wq_565 : (Cond.code yX2_become cX2_become 3 none) ∈ wAll := in_t3 54 rfl rfl
theorem wq_566 : (Cond.methodLink RX2 39 yX2_empty) ∈ wAll := in_t3 55 rfl rfl
theorem wq_567 : (Cond.methodLink RX2 42 yX2_get) ∈ wAll := in_t3 56 rfl rfl
theorem wq_568 : (Cond.methodLink RX2 45 yX2_append) ∈ wAll := in_t3 57 rfl rfl
theorem wq_569 : (Cond.methodLink RX5 45 yX5_middle) ∈ wAll := in_t3 58 rfl rfl
theorem wq_571 : (Cond.instanceMethod yX5_middle) ∈ wAll := in_t3 60 rfl rfl
theorem wq_9 : (Cond.selects RX5 yX5_middle yX5_middle) ∈ wAll := in_all 9 rfl rfl
theorem wq_572 : (Cond.code yX5_middle cX5_middle 4 (some .int)) ∈ wAll := in_t3 61 rfl rfl
theorem wq_573 : (Cond.methodLink RX5 65 yX5_behindTwos) ∈ wAll := in_t3 62 rfl rfl
theorem wq_575 : (Cond.instanceMethod yX5_behindTwos) ∈ wAll := in_t3 64 rfl rfl
theorem wq_10 : (Cond.selects RX5 yX5_behindTwos yX5_behindTwos) ∈ wAll := in_all 10 rfl rfl
theorem wq_576 : (Cond.code yX5_behindTwos cX5_behindTwos 4 (some .int)) ∈ wAll := in_t3 65 rfl rfl
theorem wq_896 : (Cond.methodLink RL 97 yX7_next) ∈ wAll := in_t4 145 rfl rfl
theorem wq_897 : (Cond.instanceMethod yX7_next) ∈ wAll := in_t4 146 rfl rfl
theorem wq_898 : (Cond.selects RX7 yX7_next yX7_next) ∈ wAll := in_t4 147 rfl rfl
theorem wq_899 : (Cond.code yX7_next cX7_next 3 (some .int)) ∈ wAll := in_t4 148 rfl rfl
theorem wq_692 : (Cond.fieldLink RX7 150 "TagTowerModel" "savedLength" "I") ∈ wAll := in_t3 181 rfl rfl
theorem wq_900 : (Cond.methodLink RX7 153 yX7_tells) ∈ wAll := in_t4 149 rfl rfl
theorem wq_902 : (Cond.instanceMethod yX7_tells) ∈ wAll := in_t4 151 rfl rfl
theorem wq_25 : (Cond.selects RX7 yX7_tells yX7_tells) ∈ wAll := in_all 25 rfl rfl
theorem wq_903 : (Cond.code yX7_tells cX7_tells 4 (some .boolean)) ∈ wAll := in_t4 152 rfl rfl
theorem wq_700 : (Cond.fieldLink RX7 141 "TagTowerModel" "toldPair" "I") ∈ wAll := in_t3 189 rfl rfl
theorem wq_701 : (Cond.fieldLink RX7 144 "TagTowerModel" "toldLeft" "I") ∈ wAll := in_t3 190 rfl rfl
theorem wq_702 : (Cond.fieldLink RX7 147 "TagTowerModel" "toldRight" "I") ∈ wAll := in_t3 191 rfl rfl
theorem wq_577 : (Cond.methodLink RL 98 yX6_told) ∈ wAll := in_t3 66 rfl rfl
theorem wq_578 : (Cond.instanceMethod yX6_told) ∈ wAll := in_t3 67 rfl rfl
theorem wq_579 : (Cond.selects RX6 yX6_told yX6_told) ∈ wAll := in_t3 68 rfl rfl
theorem wq_580 : (Cond.code yX6_told cX6_told 2 (some .int)) ∈ wAll := in_t3 69 rfl rfl
theorem wq_581 : (Cond.methodLink RX6 150 yX5_tellPlace) ∈ wAll := in_t3 70 rfl rfl
theorem wq_582 : (Cond.instanceMethod yX5_tellPlace) ∈ wAll := in_t3 71 rfl rfl
theorem wq_583 : (Cond.selects RX5 yX5_tellPlace yX5_tellPlace) ∈ wAll := in_t3 72 rfl rfl
theorem wq_584 : (Cond.code yX5_tellPlace cX5_tellPlace 4 (some .int)) ∈ wAll := in_t3 73 rfl rfl
theorem wq_904 : (Cond.methodLink RL 101 yX7_told) ∈ wAll := in_t4 153 rfl rfl
theorem wq_905 : (Cond.instanceMethod yX7_told) ∈ wAll := in_t4 154 rfl rfl
theorem wq_906 : (Cond.selects RX7 yX7_told yX7_told) ∈ wAll := in_t4 155 rfl rfl
theorem wq_907 : (Cond.code yX7_told cX7_told 2 (some .int)) ∈ wAll := in_t4 156 rfl rfl
theorem wq_585 : (Cond.methodLink RL 102 yX6_appendant) ∈ wAll := in_t3 74 rfl rfl
theorem wq_586 : (Cond.instanceMethod yX6_appendant) ∈ wAll := in_t3 75 rfl rfl
theorem wq_587 : (Cond.selects RX6 yX6_appendant yX6_appendant) ∈ wAll := in_t3 76 rfl rfl
theorem wq_588 : (Cond.code yX6_appendant cX6_appendant 3 (some .int)) ∈ wAll := in_t3 77 rfl rfl
theorem wq_589 : (Cond.methodLink RX6 153 yX4_bitAt) ∈ wAll := in_t3 78 rfl rfl
theorem wq_590 : (Cond.instanceMethod yX4_bitAt) ∈ wAll := in_t3 79 rfl rfl
theorem wq_591 : (Cond.selects RX4 yX4_bitAt yX4_bitAt) ∈ wAll := in_t3 80 rfl rfl
theorem wq_592 : (Cond.code yX4_bitAt cX4_bitAt 3 (some .int)) ∈ wAll := in_t3 81 rfl rfl
theorem wq_593 : (Cond.methodLink RX4 78 yX4_letterAt) ∈ wAll := in_t3 82 rfl rfl
theorem wq_908 : (Cond.methodLink RL 105 yX7_appendant) ∈ wAll := in_t4 157 rfl rfl
theorem wq_909 : (Cond.instanceMethod yX7_appendant) ∈ wAll := in_t4 158 rfl rfl
theorem wq_910 : (Cond.selects RX7 yX7_appendant yX7_appendant) ∈ wAll := in_t4 159 rfl rfl
theorem wq_911 : (Cond.code yX7_appendant cX7_appendant 3 (some .int)) ∈ wAll := in_t4 160 rfl rfl
theorem wq_912 : (Cond.constantLong RX7 162 (241)) ∈ wAll := in_t4 161 rfl rfl
theorem wq_595 : (Cond.methodLink RL 106 yX6_spread) ∈ wAll := in_t3 84 rfl rfl
theorem wq_596 : (Cond.instanceMethod yX6_spread) ∈ wAll := in_t3 85 rfl rfl
theorem wq_597 : (Cond.selects RX6 yX6_spread yX6_spread) ∈ wAll := in_t3 86 rfl rfl
theorem wq_598 : (Cond.code yX6_spread cX6_spread 1 (some .int)) ∈ wAll := in_t3 87 rfl rfl
theorem wq_599 : (Cond.methodLink RX6 156 yX0_layWord) ∈ wAll := in_t3 88 rfl rfl
theorem wq_600 : (Cond.instanceMethod yX0_layWord) ∈ wAll := in_t3 89 rfl rfl
theorem wq_601 : (Cond.selects RX0 yX0_layWord yX0_layWord) ∈ wAll := in_t3 90 rfl rfl
theorem wq_602 : (Cond.code yX0_layWord cX0_layWord 3 (some .int)) ∈ wAll := in_t3 91 rfl rfl
theorem wq_603 : (Cond.constant RX0 24 (80000)) ∈ wAll := in_t3 92 rfl rfl
theorem wq_310 : (Cond.fieldLink RX0 29 "TagTower$Bits" "turn" "I") ∈ wAll := in_t2 39 rfl rfl
theorem wq_604 : (Cond.methodLink RX0 25 yX2_become) ∈ wAll := in_t3 93 rfl rfl
theorem wq_913 : (Cond.methodLink RL 109 yX7_spread) ∈ wAll := in_t4 162 rfl rfl
theorem wq_914 : (Cond.instanceMethod yX7_spread) ∈ wAll := in_t4 163 rfl rfl
theorem wq_915 : (Cond.selects RX7 yX7_spread yX7_spread) ∈ wAll := in_t4 164 rfl rfl
theorem wq_916 : (Cond.code yX7_spread cX7_spread 3 (some .int)) ∈ wAll := in_t4 165 rfl rfl
theorem wq_917 : (Cond.constant RX7 164 (80000)) ∈ wAll := in_t4 166 rfl rfl
theorem wq_694 : (Cond.fieldLink RX7 156 "TagTowerModel" "first" "I") ∈ wAll := in_t3 183 rfl rfl
theorem wq_695 : (Cond.fieldLink RX7 159 "TagTowerModel" "many" "I") ∈ wAll := in_t3 184 rfl rfl
theorem wq_697 : (Cond.fieldLink RX7 165 "TagTowerModel" "turn" "I") ∈ wAll := in_t3 186 rfl rfl
theorem wq_918 : (Cond.methodLink RX7 168 yX7_putBit) ∈ wAll := in_t4 167 rfl rfl
theorem wq_920 : (Cond.instanceMethod yX7_putBit) ∈ wAll := in_t4 169 rfl rfl
theorem wq_26 : (Cond.selects RX7 yX7_putBit yX7_putBit) ∈ wAll := in_all 26 rfl rfl
theorem wq_921 : (Cond.code yX7_putBit cX7_putBit 2 none) ∈ wAll := in_t4 170 rfl rfl
theorem wq_605 : (Cond.methodLink RL 110 yX6_cycle) ∈ wAll := in_t3 94 rfl rfl
theorem wq_606 : (Cond.instanceMethod yX6_cycle) ∈ wAll := in_t3 95 rfl rfl
theorem wq_607 : (Cond.selects RX6 yX6_cycle yX6_cycle) ∈ wAll := in_t3 96 rfl rfl
theorem wq_608 : (Cond.code yX6_cycle cX6_cycle 2 (some .int)) ∈ wAll := in_t3 97 rfl rfl
theorem wq_609 : (Cond.methodLink RX6 160 yX0_doSteps) ∈ wAll := in_t3 98 rfl rfl
theorem wq_610 : (Cond.instanceMethod yX0_doSteps) ∈ wAll := in_t3 99 rfl rfl
theorem wq_611 : (Cond.selects RX0 yX0_doSteps yX0_doSteps) ∈ wAll := in_t3 100 rfl rfl
theorem wq_612 : (Cond.code yX0_doSteps cX0_doSteps 5 (some .int)) ∈ wAll := in_t3 101 rfl rfl
theorem wq_613 : (Cond.methodLink RX0 55 yX0_take) ∈ wAll := in_t3 102 rfl rfl
theorem wq_615 : (Cond.instanceMethod yX0_take) ∈ wAll := in_t3 104 rfl rfl
theorem wq_11 : (Cond.selects RX0 yX0_take yX0_take) ∈ wAll := in_all 11 rfl rfl
theorem wq_616 : (Cond.code yX0_take cX0_take 7 (some .int)) ∈ wAll := in_t3 105 rfl rfl
theorem wq_641 : (Cond.methodLink RX0 67 Lib.Math.min.name) ∈ wAll := in_t3 130 rfl rfl
theorem wq_617 : (Cond.methodLink RX0 59 yX0_isStill) ∈ wAll := in_t3 106 rfl rfl
theorem wq_618 : (Cond.instanceMethod yX0_isStill) ∈ wAll := in_t3 107 rfl rfl
theorem wq_619 : (Cond.selects RX0 yX0_isStill yX0_isStill) ∈ wAll := in_t3 108 rfl rfl
theorem wq_620 : (Cond.code yX0_isStill cX0_isStill 2 (some .boolean)) ∈ wAll := in_t3 109 rfl rfl
theorem wq_621 : (Cond.methodLink RX0 42 yX2_get) ∈ wAll := in_t3 110 rfl rfl
theorem wq_622 : (Cond.methodLink RX0 50 yX4_sizeOf) ∈ wAll := in_t3 111 rfl rfl
theorem wq_623 : (Cond.methodLink RX0 32 yX0_gone) ∈ wAll := in_t3 112 rfl rfl
theorem wq_625 : (Cond.instanceMethod yX0_gone) ∈ wAll := in_t3 114 rfl rfl
theorem wq_12 : (Cond.selects RX0 yX0_gone yX0_gone) ∈ wAll := in_all 12 rfl rfl
theorem wq_626 : (Cond.code yX0_gone cX0_gone 1 (some .int)) ∈ wAll := in_t3 115 rfl rfl
theorem wq_627 : (Cond.methodLink RX0 63 yX0_takeOne) ∈ wAll := in_t3 116 rfl rfl
theorem wq_629 : (Cond.instanceMethod yX0_takeOne) ∈ wAll := in_t3 118 rfl rfl
theorem wq_13 : (Cond.selects RX0 yX0_takeOne yX0_takeOne) ∈ wAll := in_all 13 rfl rfl
theorem wq_630 : (Cond.code yX0_takeOne cX0_takeOne 2 (some .int)) ∈ wAll := in_t3 119 rfl rfl
theorem wq_631 : (Cond.methodLink RX0 36 yX0_size) ∈ wAll := in_t3 120 rfl rfl
theorem wq_632 : (Cond.instanceMethod yX0_size) ∈ wAll := in_t3 121 rfl rfl
theorem wq_633 : (Cond.selects RX0 yX0_size yX0_size) ∈ wAll := in_t3 122 rfl rfl
theorem wq_634 : (Cond.code yX0_size cX0_size 1 (some .int)) ∈ wAll := in_t3 123 rfl rfl
theorem wq_635 : (Cond.methodLink RX0 76 yX4_appendTo) ∈ wAll := in_t3 124 rfl rfl
theorem wq_636 : (Cond.methodLink RX0 73 yX0_pass) ∈ wAll := in_t3 125 rfl rfl
theorem wq_638 : (Cond.instanceMethod yX0_pass) ∈ wAll := in_t3 127 rfl rfl
theorem wq_14 : (Cond.selects RX0 yX0_pass yX0_pass) ∈ wAll := in_all 14 rfl rfl
theorem wq_639 : (Cond.code yX0_pass cX0_pass 2 none) ∈ wAll := in_t3 128 rfl rfl
theorem wq_640 : (Cond.methodLink RX0 80 yX2_drop) ∈ wAll := in_t3 129 rfl rfl
theorem wq_922 : (Cond.methodLink RL 113 yX7_cycle) ∈ wAll := in_t4 171 rfl rfl
theorem wq_923 : (Cond.instanceMethod yX7_cycle) ∈ wAll := in_t4 172 rfl rfl
theorem wq_924 : (Cond.selects RX7 yX7_cycle yX7_cycle) ∈ wAll := in_t4 173 rfl rfl
theorem wq_925 : (Cond.code yX7_cycle cX7_cycle 3 (some .int)) ∈ wAll := in_t4 174 rfl rfl
theorem wq_926 : (Cond.constantLong RX7 180 (30000)) ∈ wAll := in_t4 175 rfl rfl
theorem wq_927 : (Cond.methodLink RX7 182 yX7_cycles) ∈ wAll := in_t4 176 rfl rfl
theorem wq_929 : (Cond.instanceMethod yX7_cycles) ∈ wAll := in_t4 178 rfl rfl
theorem wq_27 : (Cond.selects RX7 yX7_cycles yX7_cycles) ∈ wAll := in_all 27 rfl rfl
theorem wq_930 : (Cond.code yX7_cycles cX7_cycles 4 (some .boolean)) ∈ wAll := in_t4 179 rfl rfl
theorem wq_931 : (Cond.methodLink RX7 177 yX7_isStill) ∈ wAll := in_t4 180 rfl rfl
theorem wq_933 : (Cond.instanceMethod yX7_isStill) ∈ wAll := in_t4 182 rfl rfl
theorem wq_28 : (Cond.selects RX7 yX7_isStill yX7_isStill) ∈ wAll := in_all 28 rfl rfl
theorem wq_934 : (Cond.code yX7_isStill cX7_isStill 2 (some .boolean)) ∈ wAll := in_t4 183 rfl rfl
theorem wq_935 : (Cond.methodLink RX7 174 yX7_letterOf) ∈ wAll := in_t4 184 rfl rfl
theorem wq_937 : (Cond.instanceMethod yX7_letterOf) ∈ wAll := in_t4 186 rfl rfl
theorem wq_29 : (Cond.selects RX7 yX7_letterOf yX7_letterOf) ∈ wAll := in_all 29 rfl rfl
theorem wq_938 : (Cond.code yX7_letterOf cX7_letterOf 5 (some .int)) ∈ wAll := in_t4 187 rfl rfl
theorem wq_939 : (Cond.methodLink RX7 171 yX7_bitAt) ∈ wAll := in_t4 188 rfl rfl
theorem wq_941 : (Cond.instanceMethod yX7_bitAt) ∈ wAll := in_t4 190 rfl rfl
theorem wq_30 : (Cond.selects RX7 yX7_bitAt yX7_bitAt) ∈ wAll := in_all 30 rfl rfl
theorem wq_942 : (Cond.code yX7_bitAt cX7_bitAt 2 (some .int)) ∈ wAll := in_t4 191 rfl rfl
theorem wq_642 : (Cond.methodLink RL 114 yX6_bit) ∈ wAll := in_t3 131 rfl rfl
theorem wq_643 : (Cond.instanceMethod yX6_bit) ∈ wAll := in_t3 132 rfl rfl
theorem wq_644 : (Cond.selects RX6 yX6_bit yX6_bit) ∈ wAll := in_t3 133 rfl rfl
theorem wq_645 : (Cond.code yX6_bit cX6_bit 2 (some .int)) ∈ wAll := in_t3 134 rfl rfl
theorem wq_646 : (Cond.methodLink RX6 161 yX0_get) ∈ wAll := in_t3 135 rfl rfl
theorem wq_647 : (Cond.instanceMethod yX0_get) ∈ wAll := in_t3 136 rfl rfl
theorem wq_648 : (Cond.selects RX0 yX0_get yX0_get) ∈ wAll := in_t3 137 rfl rfl
theorem wq_649 : (Cond.code yX0_get cX0_get 3 (some .int)) ∈ wAll := in_t3 138 rfl rfl
theorem wq_943 : (Cond.methodLink RL 117 yX7_bit) ∈ wAll := in_t4 192 rfl rfl
theorem wq_944 : (Cond.instanceMethod yX7_bit) ∈ wAll := in_t4 193 rfl rfl
theorem wq_945 : (Cond.selects RX7 yX7_bit yX7_bit) ∈ wAll := in_t4 194 rfl rfl
theorem wq_946 : (Cond.code yX7_bit cX7_bit 2 (some .int)) ∈ wAll := in_t4 195 rfl rfl
theorem wq_652 : (Cond.methodLink RL 118 yX6_bits) ∈ wAll := in_t3 141 rfl rfl
theorem wq_653 : (Cond.instanceMethod yX6_bits) ∈ wAll := in_t3 142 rfl rfl
theorem wq_654 : (Cond.selects RX6 yX6_bits yX6_bits) ∈ wAll := in_t3 143 rfl rfl
theorem wq_655 : (Cond.code yX6_bits cX6_bits 2 (some .int)) ∈ wAll := in_t3 144 rfl rfl
theorem wq_656 : (Cond.methodLink RX6 162 yX0_size) ∈ wAll := in_t3 145 rfl rfl
theorem wq_657 : (Cond.methodLink RX6 167 yX0_ones) ∈ wAll := in_t3 146 rfl rfl
theorem wq_658 : (Cond.instanceMethod yX0_ones) ∈ wAll := in_t3 147 rfl rfl
theorem wq_659 : (Cond.selects RX0 yX0_ones yX0_ones) ∈ wAll := in_t3 148 rfl rfl
theorem wq_660 : (Cond.code yX0_ones cX0_ones 2 (some .int)) ∈ wAll := in_t3 149 rfl rfl
theorem wq_661 : (Cond.methodLink RX6 170 yX0_isStill) ∈ wAll := in_t3 150 rfl rfl
theorem wq_947 : (Cond.methodLink RL 121 yX7_bits) ∈ wAll := in_t4 196 rfl rfl
theorem wq_948 : (Cond.instanceMethod yX7_bits) ∈ wAll := in_t4 197 rfl rfl
theorem wq_949 : (Cond.selects RX7 yX7_bits yX7_bits) ∈ wAll := in_t4 198 rfl rfl
theorem wq_950 : (Cond.code yX7_bits cX7_bits 4 (some .int)) ∈ wAll := in_t4 199 rfl rfl
theorem wq_662 : (Cond.methodLink RL 122 yX6_gather) ∈ wAll := in_t3 151 rfl rfl
theorem wq_663 : (Cond.instanceMethod yX6_gather) ∈ wAll := in_t3 152 rfl rfl
theorem wq_664 : (Cond.selects RX6 yX6_gather yX6_gather) ∈ wAll := in_t3 153 rfl rfl
theorem wq_665 : (Cond.code yX6_gather cX6_gather 1 (some .int)) ∈ wAll := in_t3 154 rfl rfl
theorem wq_666 : (Cond.methodLink RX6 174 yX2_become) ∈ wAll := in_t3 155 rfl rfl
theorem wq_951 : (Cond.methodLink RL 125 yX7_gather) ∈ wAll := in_t4 200 rfl rfl
theorem wq_952 : (Cond.instanceMethod yX7_gather) ∈ wAll := in_t4 201 rfl rfl
theorem wq_953 : (Cond.selects RX7 yX7_gather yX7_gather) ∈ wAll := in_t4 202 rfl rfl
theorem wq_954 : (Cond.code yX7_gather cX7_gather 2 (some .int)) ∈ wAll := in_t4 203 rfl rfl
theorem wi_X0 : ∀ w ∈ wsX00, w ∈ wAll := by
  intro w h
  obtain ⟨k, hk⟩ := List.getElem?_of_mem h
  match k, hk with
  | 0, hk => cases hk; exact in_t2 41 rfl rfl
  | 1, hk => cases hk; exact in_t2 43 rfl rfl
  | k + 2, hk => simp [u_ws] at hk
theorem wi_X1 : ∀ w ∈ wsX10, w ∈ wAll := by
  intro w h
  obtain ⟨k, hk⟩ := List.getElem?_of_mem h
  match k, hk with
  | 0, hk => cases hk; exact in_t1 36 rfl rfl
  | 1, hk => cases hk; exact in_t1 38 rfl rfl
  | 2, hk => cases hk; exact in_t1 40 rfl rfl
  | 3, hk => cases hk; exact in_t1 42 rfl rfl
  | 4, hk => cases hk; exact in_t1 44 rfl rfl
  | 5, hk => cases hk; exact in_t1 46 rfl rfl
  | 6, hk => cases hk; exact in_t1 48 rfl rfl
  | k + 7, hk => simp [u_ws] at hk
theorem wi_X2 : ∀ w ∈ wsX20, w ∈ wAll := by
  intro w h
  obtain ⟨k, hk⟩ := List.getElem?_of_mem h
  match k, hk with
  | 0, hk => cases hk; exact in_t2 14 rfl rfl
  | 1, hk => cases hk; exact in_t2 16 rfl rfl
  | 2, hk => cases hk; exact in_t2 18 rfl rfl
  | k + 3, hk => simp [u_ws] at hk
theorem wi_X3 : ∀ w ∈ wsX30, w ∈ wAll := by
  intro w h
  obtain ⟨k, hk⟩ := List.getElem?_of_mem h
  match k, hk with
  | 0, hk => cases hk; exact in_t1 71 rfl rfl
  | 1, hk => cases hk; exact in_t1 73 rfl rfl
  | 2, hk => cases hk; exact in_t1 75 rfl rfl
  | 3, hk => cases hk; exact in_t1 77 rfl rfl
  | 4, hk => cases hk; exact in_t1 79 rfl rfl
  | 5, hk => cases hk; exact in_t1 81 rfl rfl
  | 6, hk => cases hk; exact in_t1 83 rfl rfl
  | 7, hk => cases hk; exact in_t1 85 rfl rfl
  | 8, hk => cases hk; exact in_t1 87 rfl rfl
  | k + 9, hk => simp [u_ws] at hk
theorem wi_X4 : ∀ w ∈ wsX40, w ∈ wAll := by
  intro w h
  obtain ⟨k, hk⟩ := List.getElem?_of_mem h
  match k, hk with
  | 0, hk => cases hk; exact in_t1 229 rfl rfl
  | 1, hk => cases hk; exact in_t1 231 rfl rfl
  | k + 2, hk => simp [u_ws] at hk
theorem wi_X5 : ∀ w ∈ wsX50, w ∈ wAll := by
  intro w h
  obtain ⟨k, hk⟩ := List.getElem?_of_mem h
  match k, hk with
  | 0, hk => cases hk; exact in_t2 24 rfl rfl
  | 1, hk => cases hk; exact in_t2 26 rfl rfl
  | k + 2, hk => simp [u_ws] at hk
theorem wi_X6 : ∀ w ∈ wsX60, w ∈ wAll := by
  intro w h
  obtain ⟨k, hk⟩ := List.getElem?_of_mem h
  match k, hk with
  | 0, hk => cases hk; exact in_t2 51 rfl rfl
  | 1, hk => cases hk; exact in_t2 53 rfl rfl
  | 2, hk => cases hk; exact in_t2 55 rfl rfl
  | 3, hk => cases hk; exact in_t2 57 rfl rfl
  | 4, hk => cases hk; exact in_t2 59 rfl rfl
  | k + 5, hk => simp [u_ws] at hk
theorem wi_X7 : ∀ w ∈ wsX70, w ∈ wAll := by
  intro w h
  obtain ⟨k, hk⟩ := List.getElem?_of_mem h
  match k, hk with
  | 0, hk => cases hk; exact in_t3 192 rfl rfl
  | 1, hk => cases hk; exact in_t3 194 rfl rfl
  | 2, hk => cases hk; exact in_t3 196 rfl rfl
  | 3, hk => cases hk; exact in_t3 198 rfl rfl
  | 4, hk => cases hk; exact in_t3 200 rfl rfl
  | 5, hk => cases hk; exact in_t3 202 rfl rfl
  | 6, hk => cases hk; exact in_t3 204 rfl rfl
  | 7, hk => cases hk; exact in_t3 206 rfl rfl
  | 8, hk => cases hk; exact in_t3 208 rfl rfl
  | 9, hk => cases hk; exact in_t3 210 rfl rfl
  | 10, hk => cases hk; exact in_t3 212 rfl rfl
  | 11, hk => cases hk; exact in_t3 214 rfl rfl
  | 12, hk => cases hk; exact in_t3 216 rfl rfl
  | 13, hk => cases hk; exact in_t3 218 rfl rfl
  | 14, hk => cases hk; exact in_t3 220 rfl rfl
  | 15, hk => cases hk; exact in_t3 222 rfl rfl
  | 16, hk => cases hk; exact in_t3 224 rfl rfl
  | 17, hk => cases hk; exact in_t3 226 rfl rfl
  | 18, hk => cases hk; exact in_t3 228 rfl rfl
  | 19, hk => cases hk; exact in_t3 230 rfl rfl
  | 20, hk => cases hk; exact in_t3 232 rfl rfl
  | 21, hk => cases hk; exact in_t3 234 rfl rfl
  | 22, hk => cases hk; exact in_t3 236 rfl rfl
  | 23, hk => cases hk; exact in_t3 238 rfl rfl
  | 24, hk => cases hk; exact in_t4 0 rfl rfl
  | 25, hk => cases hk; exact in_t4 2 rfl rfl
  | 26, hk => cases hk; exact in_t4 4 rfl rfl
  | 27, hk => cases hk; exact in_t4 6 rfl rfl
  | 28, hk => cases hk; exact in_t4 8 rfl rfl
  | k + 29, hk => simp [u_ws] at hk
end
section
/-! rows over ints that are known naturals: nI a -/
section XR
variable {p : Program} {l : Launch} {e : Env} {R : Room} {s : State} {m : MethodId} {args : Array Value} {below : List Frame} {meth : Method} {c : Code} {H : Heap} {locs : List Loc} {cells slots : Nat} {Q : State → Prop}
variable {cc : ByteArray} {pc : Nat} {ls : Array Slot} {rest : List Value}
theorem ln_iadd (hx : p.tables.exec = Jvm.exec) (hb : c.code = cc) {a b : Nat} (r : Nat) (hdg : decode cc pc = .ok (.iadd, 1))  (hr : a + b = r) (k : W p l e R s m args below meth c H locs cells slots Q (F0 m (pc + 1) ls (.int (nI r) :: rest))) : W p l e R s m args below meth c H locs cells slots Q (F0 m pc ls (.int (nI b) :: .int (nI a) :: rest)) := by
  subst hr
  exact lv_iadd hx hb hdg (by rw [nI_add]; exact k)
theorem ln_isub (hx : p.tables.exec = Jvm.exec) (hb : c.code = cc) {a b : Nat} (r : Nat) (hdg : decode cc pc = .ok (.isub, 1)) (h : b ≤ a) (hr : a - b = r) (k : W p l e R s m args below meth c H locs cells slots Q (F0 m (pc + 1) ls (.int (nI r) :: rest))) : W p l e R s m args below meth c H locs cells slots Q (F0 m pc ls (.int (nI b) :: .int (nI a) :: rest)) := by
  subst hr
  exact lv_isub hx hb hdg (by rw [pk_sub h]; exact k)
theorem ln_imul (hx : p.tables.exec = Jvm.exec) (hb : c.code = cc) {a b : Nat} (r : Nat) (hdg : decode cc pc = .ok (.imul, 1))  (hr : a * b = r) (k : W p l e R s m args below meth c H locs cells slots Q (F0 m (pc + 1) ls (.int (nI r) :: rest))) : W p l e R s m args below meth c H locs cells slots Q (F0 m pc ls (.int (nI b) :: .int (nI a) :: rest)) := by
  subst hr
  exact lv_imul hx hb hdg (by rw [pk_mul]; exact k)
theorem ln_idiv (hx : p.tables.exec = Jvm.exec) (hb : c.code = cc) {a b : Nat} (r : Nat) (hdg : decode cc pc = .ok (.idiv, 1)) (h0 : 0 < b) (ha : a < 2147483648) (hb2 : b < 2147483648) (hr : a / b = r) (k : W p l e R s m args below meth c H locs cells slots Q (F0 m (pc + 1) ls (.int (nI r) :: rest))) : W p l e R s m args below meth c H locs cells slots Q (F0 m pc ls (.int (nI b) :: .int (nI a) :: rest)) := by
  subst hr
  exact lv_idiv hx hb hdg (nI_ne0 h0 hb2) (by rw [pk_div ha h0 hb2]; exact k)
theorem ln_irem (hx : p.tables.exec = Jvm.exec) (hb : c.code = cc) {a b : Nat} (r : Nat) (hdg : decode cc pc = .ok (.irem, 1)) (h0 : 0 < b) (ha : a < 2147483648) (hb2 : b < 2147483648) (hr : a % b = r) (k : W p l e R s m args below meth c H locs cells slots Q (F0 m (pc + 1) ls (.int (nI r) :: rest))) : W p l e R s m args below meth c H locs cells slots Q (F0 m pc ls (.int (nI b) :: .int (nI a) :: rest)) := by
  subst hr
  exact lv_irem hx hb hdg (nI_ne0 h0 hb2) (by rw [pk_rem ha h0 hb2]; exact k)
theorem ln_icmp_eq (hx : p.tables.exec = Jvm.exec) (hb : c.code = cc) {a b : Nat} {off : Int} {tgt : Nat} (hdg : decode cc pc = .ok (.if_icmp .eq off, 3)) (ht : (pc : Int) + off = (tgt : Int)) (ha : a < 2147483648) (hb2 : b < 2147483648) (kt : a = b → W p l e R s m args below meth c H locs cells slots Q (F0 m tgt ls rest)) (kf : ¬ a = b → W p l e R s m args below meth c H locs cells slots Q (F0 m (pc + 3) ls rest)) : W p l e R s m args below meth c H locs cells slots Q (F0 m pc ls (.int (nI b) :: .int (nI a) :: rest)) := lv_icmp_eq hx hb hdg ht (fun h => kt ((nI_eq ha hb2).mp h)) (fun h => kf (fun q => h ((nI_eq ha hb2).mpr q)))
theorem ln_icmp_ne (hx : p.tables.exec = Jvm.exec) (hb : c.code = cc) {a b : Nat} {off : Int} {tgt : Nat} (hdg : decode cc pc = .ok (.if_icmp .ne off, 3)) (ht : (pc : Int) + off = (tgt : Int)) (ha : a < 2147483648) (hb2 : b < 2147483648) (kt : ¬ a = b → W p l e R s m args below meth c H locs cells slots Q (F0 m tgt ls rest)) (kf : a = b → W p l e R s m args below meth c H locs cells slots Q (F0 m (pc + 3) ls rest)) : W p l e R s m args below meth c H locs cells slots Q (F0 m pc ls (.int (nI b) :: .int (nI a) :: rest)) := lv_icmp_ne hx hb hdg ht (fun h => kt (fun q => h ((nI_eq ha hb2).mpr q))) (fun h => kf ((nI_eq ha hb2).mp h))
theorem ln_icmp_lt (hx : p.tables.exec = Jvm.exec) (hb : c.code = cc) {a b : Nat} {off : Int} {tgt : Nat} (hdg : decode cc pc = .ok (.if_icmp .lt off, 3)) (ht : (pc : Int) + off = (tgt : Int)) (ha : a < 2147483648) (hb2 : b < 2147483648) (kt : a < b → W p l e R s m args below meth c H locs cells slots Q (F0 m tgt ls rest)) (kf : b ≤ a → W p l e R s m args below meth c H locs cells slots Q (F0 m (pc + 3) ls rest)) : W p l e R s m args below meth c H locs cells slots Q (F0 m pc ls (.int (nI b) :: .int (nI a) :: rest)) := lv_icmp_lt hx hb hdg ht (fun h => kt ((nI_ltI ha hb2).mp h)) (fun h => kf (Nat.le_of_not_lt fun q => h ((nI_ltI ha hb2).mpr q)))
theorem ln_icmp_ge (hx : p.tables.exec = Jvm.exec) (hb : c.code = cc) {a b : Nat} {off : Int} {tgt : Nat} (hdg : decode cc pc = .ok (.if_icmp .ge off, 3)) (ht : (pc : Int) + off = (tgt : Int)) (ha : a < 2147483648) (hb2 : b < 2147483648) (kt : b ≤ a → W p l e R s m args below meth c H locs cells slots Q (F0 m tgt ls rest)) (kf : a < b → W p l e R s m args below meth c H locs cells slots Q (F0 m (pc + 3) ls rest)) : W p l e R s m args below meth c H locs cells slots Q (F0 m pc ls (.int (nI b) :: .int (nI a) :: rest)) := lv_icmp_ge hx hb hdg ht (fun h => kt ((nI_leI hb2 ha).mp h)) (fun h => kf (Nat.lt_of_not_le fun q => h ((nI_leI hb2 ha).mpr q)))
theorem ln_icmp_gt (hx : p.tables.exec = Jvm.exec) (hb : c.code = cc) {a b : Nat} {off : Int} {tgt : Nat} (hdg : decode cc pc = .ok (.if_icmp .gt off, 3)) (ht : (pc : Int) + off = (tgt : Int)) (ha : a < 2147483648) (hb2 : b < 2147483648) (kt : b < a → W p l e R s m args below meth c H locs cells slots Q (F0 m tgt ls rest)) (kf : a ≤ b → W p l e R s m args below meth c H locs cells slots Q (F0 m (pc + 3) ls rest)) : W p l e R s m args below meth c H locs cells slots Q (F0 m pc ls (.int (nI b) :: .int (nI a) :: rest)) := lv_icmp_gt hx hb hdg ht (fun h => kt ((nI_ltI hb2 ha).mp h)) (fun h => kf (Nat.le_of_not_lt fun q => h ((nI_ltI hb2 ha).mpr q)))
theorem ln_icmp_le (hx : p.tables.exec = Jvm.exec) (hb : c.code = cc) {a b : Nat} {off : Int} {tgt : Nat} (hdg : decode cc pc = .ok (.if_icmp .le off, 3)) (ht : (pc : Int) + off = (tgt : Int)) (ha : a < 2147483648) (hb2 : b < 2147483648) (kt : a ≤ b → W p l e R s m args below meth c H locs cells slots Q (F0 m tgt ls rest)) (kf : b < a → W p l e R s m args below meth c H locs cells slots Q (F0 m (pc + 3) ls rest)) : W p l e R s m args below meth c H locs cells slots Q (F0 m pc ls (.int (nI b) :: .int (nI a) :: rest)) := lv_icmp_le hx hb hdg ht (fun h => kt ((nI_leI ha hb2).mp h)) (fun h => kf (Nat.lt_of_not_le fun q => h ((nI_leI ha hb2).mpr q)))
theorem ln_if_eq (hx : p.tables.exec = Jvm.exec) (hb : c.code = cc) {a : Nat} {off : Int} {tgt : Nat} (hdg : decode cc pc = .ok (.ifCond .eq off, 3)) (ht : (pc : Int) + off = (tgt : Int)) (ha : a < 2147483648) (kt : a = 0 → W p l e R s m args below meth c H locs cells slots Q (F0 m tgt ls rest)) (kf : ¬ a = 0 → W p l e R s m args below meth c H locs cells slots Q (F0 m (pc + 3) ls rest)) : W p l e R s m args below meth c H locs cells slots Q (F0 m pc ls (.int (nI a) :: rest)) := lv_if_eq hx hb hdg ht (fun h => kt ((nI_eq ha (Nat.zero_lt_succ _)).mp h)) (fun h => kf (fun q => h ((nI_eq ha (Nat.zero_lt_succ _)).mpr q)))
theorem ln_if_ne (hx : p.tables.exec = Jvm.exec) (hb : c.code = cc) {a : Nat} {off : Int} {tgt : Nat} (hdg : decode cc pc = .ok (.ifCond .ne off, 3)) (ht : (pc : Int) + off = (tgt : Int)) (ha : a < 2147483648) (kt : ¬ a = 0 → W p l e R s m args below meth c H locs cells slots Q (F0 m tgt ls rest)) (kf : a = 0 → W p l e R s m args below meth c H locs cells slots Q (F0 m (pc + 3) ls rest)) : W p l e R s m args below meth c H locs cells slots Q (F0 m pc ls (.int (nI a) :: rest)) := lv_if_ne hx hb hdg ht (fun h => kt (fun q => h ((nI_eq ha (Nat.zero_lt_succ _)).mpr q))) (fun h => kf ((nI_eq ha (Nat.zero_lt_succ _)).mp h))
theorem ln_if_gt (hx : p.tables.exec = Jvm.exec) (hb : c.code = cc) {a : Nat} {off : Int} {tgt : Nat} (hdg : decode cc pc = .ok (.ifCond .gt off, 3)) (ht : (pc : Int) + off = (tgt : Int)) (ha : a < 2147483648) (kt : 0 < a → W p l e R s m args below meth c H locs cells slots Q (F0 m tgt ls rest)) (kf : a = 0 → W p l e R s m args below meth c H locs cells slots Q (F0 m (pc + 3) ls rest)) : W p l e R s m args below meth c H locs cells slots Q (F0 m pc ls (.int (nI a) :: rest)) := lv_if_gt hx hb hdg ht (fun h => kt ((nI_ltI (Nat.zero_lt_succ _) ha).mp h)) (fun h => kf (Nat.eq_zero_of_not_pos fun q => h ((nI_ltI (Nat.zero_lt_succ _) ha).mpr q)))
theorem ln_if_le (hx : p.tables.exec = Jvm.exec) (hb : c.code = cc) {a : Nat} {off : Int} {tgt : Nat} (hdg : decode cc pc = .ok (.ifCond .le off, 3)) (ht : (pc : Int) + off = (tgt : Int)) (ha : a < 2147483648) (kt : a = 0 → W p l e R s m args below meth c H locs cells slots Q (F0 m tgt ls rest)) (kf : 0 < a → W p l e R s m args below meth c H locs cells slots Q (F0 m (pc + 3) ls rest)) : W p l e R s m args below meth c H locs cells slots Q (F0 m pc ls (.int (nI a) :: rest)) := lv_if_le hx hb hdg ht (fun h => kt (Nat.le_zero.mp ((nI_leI ha (Nat.zero_lt_succ _)).mp h))) (fun h => kf (Nat.lt_of_not_le fun q => h ((nI_leI ha (Nat.zero_lt_succ _)).mpr q)))
theorem ln_if_lt (hx : p.tables.exec = Jvm.exec) (hb : c.code = cc) {a : Nat} {off : Int} {tgt : Nat} (hdg : decode cc pc = .ok (.ifCond .lt off, 3)) (ht : (pc : Int) + off = (tgt : Int)) (ha : a < 2147483648) (kf : W p l e R s m args below meth c H locs cells slots Q (F0 m (pc + 3) ls rest)) : W p l e R s m args below meth c H locs cells slots Q (F0 m pc ls (.int (nI a) :: rest)) := lv_if_lt hx hb hdg ht (fun h => absurd h (nI_pos ha)) (fun _ => kf)
theorem ln_if_ge (hx : p.tables.exec = Jvm.exec) (hb : c.code = cc) {a : Nat} {off : Int} {tgt : Nat} (hdg : decode cc pc = .ok (.ifCond .ge off, 3)) (ht : (pc : Int) + off = (tgt : Int)) (ha : a < 2147483648) (kt : W p l e R s m args below meth c H locs cells slots Q (F0 m tgt ls rest)) : W p l e R s m args below meth c H locs cells slots Q (F0 m pc ls (.int (nI a) :: rest)) := lv_if_ge hx hb hdg ht (fun _ => kt) (fun h => absurd (nI_pos' ha) h)
theorem nI_inc (a : Nat) (k : Nat) : nI a + Int32.ofInt (k : Int) = nI (a + k) := by
  rw [show Int32.ofInt (k : Int) = nI k from rfl, nI_add]
theorem ln_iinc (hx : p.tables.exec = Jvm.exec) (hb : c.code = cc) {i nL k0 k a : Nat} {n : Int} (r : Nat) {lv lv' : List (Nat × Value)} (hdg : decode cc pc = .ok (.iinc i n, 3)) (h : lv_has ls nL lv) (hk : lv[k0]? = some (i, .int (nI a))) (hn2 : n = (k : Int)) (hr : a + k = r) (hn : i < nL) (hl : (i, Value.int (nI r)) :: lv.filter (fun q => !(q.1 == i) && !(q.1 + 1 == i && q.2.category == 2)) = lv') (kk : ∀ ls' : Array Slot, lv_has ls' nL lv' → W p l e R s m args below meth c H locs cells slots Q (F0 m (pc + 3) ls' rest)) : W p l e R s m args below meth c H locs cells slots Q (F0 m pc ls rest) := lv_iinc (v := nI r) hx hb hdg h hk (by rw [hn2, nI_inc, hr]) hn hl kk
/-- a number is nI n -/
theorem ln_const (hx : p.tables.exec = Jvm.exec) (hb : c.code = cc) {n : Int} (v : Nat) (hdg : decode cc pc = .ok (.iconst n, 1)) (hv : Int32.ofInt n = nI v) (k : W p l e R s m args below meth c H locs cells slots Q (F0 m (pc + 1) ls (.int (nI v) :: rest))) : W p l e R s m args below meth c H locs cells slots Q (F0 m pc ls rest) := lv_iconst hx hb hdg hv k
theorem ln_bipush (hx : p.tables.exec = Jvm.exec) (hb : c.code = cc) {n : Int} (v : Nat) (hdg : decode cc pc = .ok (.bipush n, 2)) (hv : (Int8.ofInt n).toInt32 = nI v) (k : W p l e R s m args below meth c H locs cells slots Q (F0 m (pc + 2) ls (.int (nI v) :: rest))) : W p l e R s m args below meth c H locs cells slots Q (F0 m pc ls rest) := lv_bipush hx hb hdg hv k
theorem ln_sipush (hx : p.tables.exec = Jvm.exec) (hb : c.code = cc) {n : Int} (v : Nat) (hdg : decode cc pc = .ok (.sipush n, 3)) (hv : (Int16.ofInt n).toInt32 = nI v) (k : W p l e R s m args below meth c H locs cells slots Q (F0 m (pc + 3) ls (.int (nI v) :: rest))) : W p l e R s m args below meth c H locs cells slots Q (F0 m pc ls rest) := lv_sipush hx hb hdg hv k
/-- the top of the stack by another name -/
theorem ln_top {x y : Int32} (h : x = y) (k : W p l e R s m args below meth c H locs cells slots Q (F0 m pc ls (.int y :: rest))) : W p l e R s m args below meth c H locs cells slots Q (F0 m pc ls (.int x :: rest)) := by rw [h]; exact k
end XR
/-! the world: what all contracts share -/
abbrev xZ : Type := va_G × ((Nat → Nat) × (Nat → Nat)) × ClassId × ClassId
abbrev xty (Z : xZ) : List (ClassId × FieldType) := [(Z.2.2.1, .int), (Z.2.2.2, .boolean)]
/-- an int array of naturals -/
abbrev xI (Z : xZ) (n : Nat) (g : Nat → Nat) : va_E := .inl (Z.2.2.1, n, .inl (fun k => nI (g k)))
/-- an int array -/
abbrev xJ (Z : xZ) (n : Nat) (g : Nat → Int32) : va_E := .inl (Z.2.2.1, n, .inl g)
/-- a boolean array -/
abbrev xO (Z : xZ) (n : Nat) (g : Nat → Nat) : va_E := .inl (Z.2.2.2, n, .inl (fun k => nI (g k)))
theorem upd_nI (g : Nat → Nat) (k x : Nat) : upd (fun j => nI (g j)) k (nI x) = fun j => nI (va_up g k x j) := by
  funext j
  unfold upd va_up
  split <;> rfl
def xNM : List (String × Nat × MethodName × String) := [(RX6, 11, yX1_init, RX6), (RX6, 18, yX3_init, RX6), (RX4, 68, yX6_pairOf, RX6), (RX6, 32, yX5_init, RX6), (RX6, 39, yX0_init, RX6), (RX1, 38, yX6_outside, RX6), (RX3, 41, yX6_pairOf, RX6), (RX4, 71, yX6_outside, RX6), (RX2, 28, yX6_outside, RX6), (RX4, 81, yX6_oneIf, RX6), (RX0, 38, yX6_outside, RX6), (RX0, 46, yX6_oneIf, RX6)]
def xNF : List (String × Nat × String × String × String × String) := [(RX6, 97, RX3, "state", "I", RX6), (RX6, 101, RX3, "sign", "I", RX6), (RX6, 104, RX3, "left", "I", RX6), (RX6, 107, RX3, "right", "I", RX6), (RX0, 20, RX2, "size", "I", RX6), (RX5, 30, RX2, "size", "I", RX6), (RX6, 132, RX2, "size", "I", RX6), (RX6, 128, RX5, "row", "LTagTower$LetterRow;", RX6), (RX6, 173, RX0, "row", "LTagTower$LetterRow;", RX6), (RX6, 164, RX0, "turn", "I", RX6)]
/-- the links between nest mates, the constant strings, the statics that String's methods read -/
def xN (U : State) : Prop := (∀ q ∈ xNM, va_Nw (.methodLinkNest q.1 q.2.1 q.2.2.1 q.2.2.2) U) ∧ ∀ q ∈ xNF, va_Nw (.fieldLinkNest q.1 q.2.1 q.2.2.1 q.2.2.2.1 q.2.2.2.2.1 q.2.2.2.2.2) U
def xTx : List String := ["xAaPpBbQqCcDEdeSsTUtu", "Q:Bx q:bx", "C:DE c:de S:TU s:tu", "A:Cx a:cxcx B:S b:s D:A1x E:xA0x d:a1x e:a0x T:B1x U:B0x t:b1x u:b0x", "A:Px a:px P:S p:s B:Cx b:cxcx D:Q1x E:xQ0x d:q1x e:q0x T:A1x U:A0x t:a1x u:a0x", "A:cx", "B:cx"]
def xTk : List Nat := [50, 22, 30, 32, 34, 36, 38]
def xTb : List (List Nat) := [[120, 65, 97, 80, 112, 66, 98, 81, 113, 67, 99, 68, 69, 100, 101, 83, 115, 84, 85, 116, 117], [81, 58, 66, 120, 32, 113, 58, 98, 120], [67, 58, 68, 69, 32, 99, 58, 100, 101, 32, 83, 58, 84, 85, 32, 115, 58, 116, 117], [65, 58, 67, 120, 32, 97, 58, 99, 120, 99, 120, 32, 66, 58, 83, 32, 98, 58, 115, 32, 68, 58, 65, 49, 120, 32, 69, 58, 120, 65, 48, 120, 32, 100, 58, 97, 49, 120, 32, 101, 58, 97, 48, 120, 32, 84, 58, 66, 49, 120, 32, 85, 58, 66, 48, 120, 32, 116, 58, 98, 49, 120, 32, 117, 58, 98, 48, 120], [65, 58, 80, 120, 32, 97, 58, 112, 120, 32, 80, 58, 83, 32, 112, 58, 115, 32, 66, 58, 67, 120, 32, 98, 58, 99, 120, 99, 120, 32, 68, 58, 81, 49, 120, 32, 69, 58, 120, 81, 48, 120, 32, 100, 58, 113, 49, 120, 32, 101, 58, 113, 48, 120, 32, 84, 58, 65, 49, 120, 32, 85, 58, 65, 48, 120, 32, 116, 58, 97, 49, 120, 32, 117, 58, 97, 48, 120], [65, 58, 99, 120], [66, 58, 99, 120]]
def xTl : List Nat := [21, 9, 19, 68, 78, 4, 4]
def xTi : List (List Int32) := xTb.map (fun b => b.map nI)
def xE (Z : xZ) (A : Nat → Prop) (U : State) (H : Heap) : Prop := xN U ∧ vk_S 7 xTl xTi Z.2.1.1 Z.2.1.2 A U H ∧ (∀ i, i < 7 → vk_R RX4 (xTk.getD i 0) (xTx.getD i "") (Z.2.1.1 i) U) ∧ va_Z "java/lang/String" "COMPACT_STRINGS" "Z" (.int 1) A U H ∧ va_Zq "jdk/internal/util/Preconditions" "SIOOBE_FORMATTER" "Ljava/util/function/BiFunction;" A U H
theorem xN.warm {s U : State} (hW : s.WarmedH U.vm) (h : xN s) : xN U := ⟨fun q hq => (h.1 q hq).warmM hW, fun q hq => (h.2 q hq).warmF hW⟩
theorem xN.same {u U : State} (hv : u.vm = U.vm) (h : xN u) : xN U := ⟨fun q hq => (h.1 q hq).same rfl hv, fun q hq => (h.2 q hq).same rfl hv⟩
theorem xE.blind {Z : xZ} {A : Nat → Prop} {U : State} {g : JFrame} {mk : MethodId} {a : Array Value} (h : xE Z A U U.heap) : xE Z A (U.calling g mk a) (U.calling g mk a).heap :=
  ⟨h.1.same rfl, vk_S.moved (u := U) (U := U.calling g mk a) (Vm.Alike.refl U.vm) h.2.1, fun i hi => (h.2.2.1 i hi).same rfl, va_Z.moved (u := U) (U := U.calling g mk a) (Vm.Alike.refl U.vm) h.2.2.2.1, va_Zq.moved (u := U) (U := U.calling g mk a) (Vm.Alike.refl U.vm) h.2.2.2.2⟩
theorem xE.step {Z : xZ} {A A' : Nat → Prop} {s U : State} {H : Heap} {locs : List Loc} (h : xE Z A s s.heap) (hS : va_S A s.heap H locs) (hA : ∀ q, A' q → A q) (hU : U.heap = H) (hW : s.WarmedH U.vm) : xE Z A' U U.heap := by
  subst hU
  exact ⟨h.1.warm hW, ((vk_S.moved hW.alike h.2.1).kept hS.2.1).narrow hA, fun i hi => (h.2.2.1 i hi).warm hW, ((va_Z.moved hW.alike h.2.2.2.1).kept hS.2.1).narrow hA, ((va_Zq.moved hW.alike h.2.2.2.2).kept hS.2.1).narrow hA⟩
/-- what holds in a method's body all the time -/
def xC (p : Program) (s : State) (m : MethodId) (args : Array Value) (c : Code) (cc : ByteArray) (nL : Nat) (own : String) (Ts : List Cond) (Z : xZ) (A : Nat → Prop) : Prop :=
  CallFix p m c cc nL s args Ts own ∧ va_K Z.1 vwCl (xty Z) s ∧ (∀ q, s.heap.size ≤ q → A q) ∧ xE Z A s s.heap
def xPc (Z : xZ) (w : va_W) (av : List Value) (sz : Nat) : Array Value → State → Prop := va_Pc av (fun U => U.heap.size = sz ∧ va_P Z.1 vwCl w U.heap ∧ va_K Z.1 vwCl (xty Z) U ∧ va_D (fun _ => True) w ∧ xE Z (va_A w sz) U U.heap)
def xB (Z : xZ) (A : Nat → Prop) : va_W → State → Prop := fun w t => va_P Z.1 vwCl w t.heap ∧ va_K Z.1 vwCl (xty Z) t ∧ va_D A w
/-- a method that answers an int: from the cells w, with these arguments -/
def xMi (l : Launch) (Z : xZ) (y : MethodName) (ws : List Cond) (rm : Room) (av : List Value) (w : va_W) (post : Int32 → va_W → Prop) : Prop := ∀ sz, Met l y ws rm (xPc Z w av sz) (va_Qi post (xB Z (va_A w sz)) (va_A w sz)) rm.cells rm.slots (va_A w sz)
def xMv (l : Launch) (Z : xZ) (y : MethodName) (ws : List Cond) (rm : Room) (av : List Value) (w : va_W) (post : va_W → Prop) : Prop := ∀ sz, Met l y ws rm (xPc Z w av sz) (va_Qv post (xB Z (va_A w sz)) (va_A w sz)) rm.cells rm.slots (va_A w sz)
theorem xPc.blind {Z : xZ} {w : va_W} {av : List Value} {sz : Nat} : FrameBlind (xPc Z w av sz) := by
  intro a U g mk q
  obtain ⟨q0, q1, qP, qK, qD, qE⟩ := q
  exact ⟨q0, q1, qP, va_K.moved (u := U) (U := U.calling g mk a) (Vm.Alike.refl U.vm) qK, qD, qE.blind⟩
section XC

variable {p : Program} {l : Launch} {e : Env} {R : Room} {s : State} {m : MethodId} {args : Array Value} {below : List Frame} {meth : Method} {c : Code} {H : Heap} {locs : List Loc} {cells slots : Nat} {Q : State → Prop}
variable {cc : ByteArray} {pc : Nat} {ls : Array Slot} {rest : List Value}
variable {Z : xZ} {A : Nat → Prop} {nL : Nat} {own : String} {Ts : List Cond} {ws : va_W}
/-- the entry of a method -/
theorem x_body {y : MethodName} {wd wd' : List Cond} {maxL : Nat} {ret : Option FieldType} {rm : Room} {av : List Value} {w : va_W} {sz : Nat} {Qc : Array Value → State → Outcome → State → Prop} (hy : plainName y.cls = true) (hw : wd = Cond.code y cc maxL ret :: wd') (hs : (lg_sl av).length ≤ maxL)
    (body : ∀ (p : Program) (e : Env) (s : State) (m : MethodId) (args : Array Value) (below : List Frame) (meth : Method) (c : Code) (ls : Array Slot), s.heap.size = sz → xC p s m args c cc maxL y.cls wd Z (va_A w sz) → meth.sig.returnType = ret → meth.locks = false → meth.name = y.name → lv_has ls maxL (lv_args 0 av) → va_P Z.1 vwCl w s.heap → va_D (va_A w sz) w → va_S (va_A w sz) s.heap s.heap [] → W p l e rm s m args below meth c s.heap [] 0 0 (MQ below Qc args s rm.cells rm.slots (va_A w sz)) (F0 m 0 ls [])) :
    Met l y wd rm (xPc Z w av sz) Qc rm.cells rm.slots (va_A w sz) := by
  refine Met.ofW (cc := cc) (maxL := maxL) (ret := ret) hy hw ?_
  intro p e s m args below meth c s₁ B hml hv
  obtain ⟨rfl, hsz, hP, hK, hD0, hE⟩ := hv
  have hl := lv_entry av (n := maxL) hs
  rw [lg_entry_eq]
  refine body p e s m _ below meth c _ hsz ⟨⟨B.exec, B.bytes, hml, findClass_of_methodNamed B.named, atoms_spec (ws := wd) B.pre⟩, hK, fun q h => Or.inr (by rw [← hsz]; exact h), hE⟩ B.returns B.notSynchronized (name_of_methodNamed B.named B.method).1 hl hP (hD0.self (sz := sz)) va_S.rf
theorem x_i {y : MethodName} {wd wd' : List Cond} {maxL : Nat} {ty : FieldType} {rm : Room} {av : List Value} {w : va_W} {post : Int32 → va_W → Prop} (hy : plainName y.cls = true) (hw : wd = Cond.code y cc maxL (some ty) :: wd') (hs : (lg_sl av).length ≤ maxL)
    (body : ∀ (p : Program) (e : Env) (s : State) (m : MethodId) (args : Array Value) (below : List Frame) (meth : Method) (c : Code) (ls : Array Slot) (A : Nat → Prop), xC p s m args c cc maxL y.cls wd Z A → meth.sig.returnType = some ty → meth.locks = false → lv_has ls maxL (lv_args 0 av) → va_P Z.1 vwCl w s.heap → va_D A w → va_S A s.heap s.heap [] → W p l e rm s m args below meth c s.heap [] 0 0 (MQ below (va_Qi post (xB Z A) A) args s rm.cells rm.slots A) (F0 m 0 ls [])) :
    xMi l Z y wd rm av w post := fun sz => x_body hy hw hs (fun p e s m args below meth c ls _ hC hr hk _ hl hP hD hS => body p e s m args below meth c ls _ hC hr hk hl hP hD hS)
theorem x_v {y : MethodName} {wd wd' : List Cond} {maxL : Nat} {rm : Room} {av : List Value} {w : va_W} {post : va_W → Prop} (hy : plainName y.cls = true) (hw : wd = Cond.code y cc maxL none :: wd') (hs : (lg_sl av).length ≤ maxL)
    (body : ∀ (p : Program) (e : Env) (s : State) (m : MethodId) (args : Array Value) (below : List Frame) (meth : Method) (c : Code) (ls : Array Slot) (A : Nat → Prop), xC p s m args c cc maxL y.cls wd Z A → meth.sig.returnType = none → meth.locks = false → meth.name = y.name → lv_has ls maxL (lv_args 0 av) → va_P Z.1 vwCl w s.heap → va_D A w → va_S A s.heap s.heap [] → W p l e rm s m args below meth c s.heap [] 0 0 (MQ below (va_Qv post (xB Z A) A) args s rm.cells rm.slots A) (F0 m 0 ls [])) :
    xMv l Z y wd rm av w post := fun sz => x_body hy hw hs (fun p e s m args below meth c ls _ hC hr hk hn hl hP hD hS => body p e s m args below meth c ls _ hC hr hk hn hl hP hD hS)
/-- the ends -/
theorem x_iret {post : Int32 → va_W → Prop} {v : Int32} (hC : xC p s m args c cc nL own Ts Z A) (hr : meth.sig.returnType = some .int) (hk : meth.locks = false) (hP : va_P Z.1 vwCl ws H) (hD : va_D A ws) (hS : va_S A s.heap H locs) (hdg : decode cc pc = .ok (.ireturn, 1)) (hp : post v ws) : W p l e R s m args below meth c H locs cells slots (MQ below (va_Qi post (xB Z A) A) args s cells slots A) (F0 m pc ls [.int v]) :=
  W.iret hC.1.1 hC.1.2.1 hr (fun t ht hW => ⟨⟨v, ws, rfl, hp, by rw [ht]; exact hP, va_K.moved hW.alike hC.2.1, hD⟩, hS.F ht⟩) hS.2.2 hdg hk
theorem x_zret {post : Int32 → va_W → Prop} {v : Int32} {ty : FieldType} (hC : xC p s m args c cc nL own Ts Z A) (hr : meth.sig.returnType = some ty) (hn : narrow ty (.int v) = .int v) (hk : meth.locks = false) (hP : va_P Z.1 vwCl ws H) (hD : va_D A ws) (hS : va_S A s.heap H locs) (hdg : decode cc pc = .ok (.ireturn, 1)) (hp : post v ws) : W p l e R s m args below meth c H locs cells slots (MQ below (va_Qi post (xB Z A) A) args s cells slots A) (F0 m pc ls [.int v]) :=
  W.zret hC.1.1 hC.1.2.1 hr hn (fun t ht hW => ⟨⟨v, ws, rfl, hp, by rw [ht]; exact hP, va_K.moved hW.alike hC.2.1, hD⟩, hS.F ht⟩) hS.2.2 hdg hk
theorem x_vret {post : va_W → Prop} (hC : xC p s m args c cc nL own Ts Z A) (hr : meth.sig.returnType = none) (hk : meth.locks = false) (hP : va_P Z.1 vwCl ws H) (hD : va_D A ws) (hS : va_S A s.heap H locs) (hdg : decode cc pc = .ok (.return_, 1)) (hp : post ws) : W p l e R s m args below meth c H locs cells slots (MQ below (va_Qv post (xB Z A) A) args s cells slots A) (F0 m pc ls []) :=
  W.vret hC.1.1 hC.1.2.1 hr (fun t ht hW => ⟨⟨ws, rfl, hp, by rw [ht]; exact hP, va_K.moved hW.alike hC.2.1, hD⟩, hS.F ht⟩) hS.2.2 hdg hk
/-- the callee's start -/
theorem x_preS {wc : va_W} {av : List Value} (hC : xC p s m args c cc nL own Ts Z A) (hP : va_P Z.1 vwCl ws H) (hD : va_D A ws) (hS : va_S A s.heap H locs) (isC : List Nat) (hc : isC.map (fun i => ws[i]?) = wc.map some) (hn : va_nd isC = true) : PreS s H (xPc Z wc av H.size) av := by
  have hf := va_free hD hS hC.2.2.1 isC hc
  have hPc : va_P Z.1 vwCl wc H := hP.sub isC (by
    have e : isC.filterMap (fun i => ws[i]?) = (isC.map (fun i => ws[i]?)).filterMap id := by rw [List.filterMap_map]; rfl
    rw [e, hc, List.filterMap_map]
    exact List.filterMap_some)
  exact ⟨xPc.blind, fun U hU hW => ⟨rfl, by rw [hU], by rw [hU]; exact hPc, va_K.moved hW.alike hC.2.1, (hD.sub isC hn hc).weaken (fun _ _ _ _ => trivial), hC.2.2.2.step hS hf hU hW⟩⟩
theorem x_preV {wc : va_W} {av : List Value} {b ci : Nat} {fs : List Value} {C : String} {T : u_T} {N : Nat} (hC : xC p s m args c cc nL own Ts Z A) (hP : va_P Z.1 vwCl ws H) (hD : va_D A ws) (hS : va_S A s.heap H locs) (isC : List Nat) (hc : isC.map (fun i => ws[i]?) = wc.map some) (hn : va_nd isC = true) (hrc : wc[0]? = some (b, .inr (ci, fs))) (hci : vwCl[ci]? = some (C, T, N)) : PreV s H C b (xPc Z wc (.ref b :: av) H.size) av := by
  have h := x_preS (av := .ref b :: av) hC hP hD hS isC hc hn
  have hPc : va_P Z.1 vwCl wc H := hP.sub isC (by
    have e : isC.filterMap (fun i => ws[i]?) = (isC.map (fun i => ws[i]?)).filterMap id := by rw [List.filterMap_map]; rfl
    rw [e, hc, List.filterMap_map]
    exact List.filterMap_some)
  exact ⟨h.1, va_recv hC.2.1 hPc hci hrc, h.2⟩
/-- behind a call -/
theorem x_backi {post : Int32 → va_W → Prop} {wc wr : va_W} {st0 : List Value} {mc ms : Nat} {a : Array Value} (hC : xC p s m args c cc nL own Ts Z A) (hP : va_P Z.1 vwCl ws H) (hD : va_D A ws) (hS : va_S A s.heap H locs) (isC isR : List Nat) (hc : isC.map (fun i => ws[i]?) = wc.map some) (hR : isR.map (fun i => ws[i]?) = wr.map some) (hn : va_nd isR = true) (hdis : ∀ i ∈ isR, i ∉ isC)
    (hr : va_Run p l e R s m args below meth c H locs cells slots mc ms (F0 m pc ls st0) rest (va_Qi post (xB Z (va_A wc H.size)) (va_A wc H.size) a) (va_A wc H.size))
    (kk : ∀ (r : Int32) (w1 : va_W) (H1 : Heap) (locs1 : List Loc), post r w1 → va_P Z.1 vwCl (wr ++ w1) H1 → va_D A (wr ++ w1) → va_S A s.heap H1 locs1 → W p l e R s m args below meth c H1 locs1 (cells + mc) (slots + ms) Q (F0 m (pc + 3) ls (.int r :: rest))) : W p l e R s m args below meth c H locs cells slots Q (F0 m pc ls st0) := by
  have hf := va_free hD hS hC.2.2.1 isC hc
  refine va_calli hr hS (fun q _ h => hf q h) hf (fun r u t H1 locs1 ht hvm hw hB hz1 hk1 hS1 => ?_)
  obtain ⟨hP1, hK1, hD1⟩ := hB
  rw [ht] at hP1
  obtain ⟨hP2, hD2⟩ := va_join hP hD isC isR hc hR hn hdis hk1 hf hP1 hD1
  exact kk r u H1 locs1 hw hP2 hD2 hS1
theorem x_backv {post : va_W → Prop} {wc wr : va_W} {st0 : List Value} {mc ms : Nat} {a : Array Value} (hC : xC p s m args c cc nL own Ts Z A) (hP : va_P Z.1 vwCl ws H) (hD : va_D A ws) (hS : va_S A s.heap H locs) (isC isR : List Nat) (hc : isC.map (fun i => ws[i]?) = wc.map some) (hR : isR.map (fun i => ws[i]?) = wr.map some) (hn : va_nd isR = true) (hdis : ∀ i ∈ isR, i ∉ isC)
    (hr : va_Run p l e R s m args below meth c H locs cells slots mc ms (F0 m pc ls st0) rest (va_Qv post (xB Z (va_A wc H.size)) (va_A wc H.size) a) (va_A wc H.size))
    (kk : ∀ (w1 : va_W) (H1 : Heap) (locs1 : List Loc), post w1 → va_P Z.1 vwCl (wr ++ w1) H1 → va_D A (wr ++ w1) → va_S A s.heap H1 locs1 → W p l e R s m args below meth c H1 locs1 (cells + mc) (slots + ms) Q (F0 m (pc + 3) ls rest)) : W p l e R s m args below meth c H locs cells slots Q (F0 m pc ls st0) := by
  have hf := va_free hD hS hC.2.2.1 isC hc
  refine va_callv hr hS (fun q _ h => hf q h) hf (fun u t H1 locs1 ht hvm hw hB hz1 hk1 hS1 => ?_)
  obtain ⟨hP1, hK1, hD1⟩ := hB
  rw [ht] at hP1
  obtain ⟨hP2, hD2⟩ := va_join hP hD isC isR hc hR hn hdis hk1 hf hP1 hD1
  exact kk u H1 locs1 hw hP2 hD2 hS1
theorem x_Vi {y : MethodName} {bytes : ByteArray} {maxL index n : Nat} {ret : Option FieldType} {wy wy' : List Cond} {rm : Room} {As : List Value} {wc wr : va_W} {st0 : List Value} {b ci : Nat} {fs : List Value} {C : String} {T : u_T} {N : Nat} {post : Int32 → va_W → Prop} (hC : xC p s m args c cc nL own Ts Z A) (hP : va_P Z.1 vwCl ws H) (hD : va_D A ws) (hS : va_S A s.heap H locs) (hM : xMi l Z y wy rm (.ref b :: As) wc post) (hG : GoodIn Ts (wsV own index C y wy)) (hw : wy = Cond.code y bytes maxL ret :: wy') (hd : y.cls = C ∧ y.cls ≠ "java/lang/invoke/MethodHandle" ∧ y.cls ≠ "java/lang/invoke/VarHandle" ∧ (parseMethodDescriptor y.desc).map (fun d => d.parameters.length) = some n) (hrc : wc[0]? = some (b, .inr (ci, fs))) (hci : vwCl[ci]? = some (C, T, N)) (hRm : (rm.frames + 1).ble R.frames = true ∧ (8 + (maxL + 11) + rm.locals).ble R.locals = true) (hg : As.length = n) (hsz : ls.size = nL) (hcat : ((rest.map fun v : Value => v.category).sum).ble 8 = true) (hf : cells + rm.cells ≤ R.cells ∧ slots + rm.slots ≤ R.slots) (isC isR : List Nat) (hc : isC.map (fun i => ws[i]?) = wc.map some) (hR : isR.map (fun i => ws[i]?) = wr.map some) (hnC : va_nd isC = true) (hnR : va_nd isR = true) (hdis : ∀ i ∈ isR, i ∉ isC) (hst0 : st0 = As.reverse ++ .ref b :: rest) (hdg : decode cc pc = .ok (.invokevirtual index, 3)) (kk : ∀ (r : Int32) (w1 : va_W) (H1 : Heap) (locs1 : List Loc), post r w1 → va_P Z.1 vwCl (wr ++ w1) H1 → va_D A (wr ++ w1) → va_S A s.heap H1 locs1 → W p l e R s m args below meth c H1 locs1 (cells + rm.cells) (slots + rm.slots) Q (F0 m (pc + 3) ls (.int r :: rest))) : W p l e R s m args below meth c H locs cells slots Q (F0 m pc ls st0) := by
  exact x_backi hC hP hD hS isC isR hc hR hnR hdis (va_runV hC.1 (hM H.size) (cwV n hC.1.2.2.2.2 hG hw rfl rfl hd ⟨Nat.le_of_ble_eq_true hRm.1, Nat.le_of_ble_eq_true hRm.2⟩) (x_preV hC hP hD hS isC hc hnC hrc hci) rfl hg hsz hst0 (lv_room (Nat.le_of_ble_eq_true hcat)) hdg hf) kk
theorem x_Vv {y : MethodName} {bytes : ByteArray} {maxL index n : Nat} {ret : Option FieldType} {wy wy' : List Cond} {rm : Room} {As : List Value} {wc wr : va_W} {st0 : List Value} {b ci : Nat} {fs : List Value} {C : String} {T : u_T} {N : Nat} {post : va_W → Prop} (hC : xC p s m args c cc nL own Ts Z A) (hP : va_P Z.1 vwCl ws H) (hD : va_D A ws) (hS : va_S A s.heap H locs) (hM : xMv l Z y wy rm (.ref b :: As) wc post) (hG : GoodIn Ts (wsV own index C y wy)) (hw : wy = Cond.code y bytes maxL ret :: wy') (hd : y.cls = C ∧ y.cls ≠ "java/lang/invoke/MethodHandle" ∧ y.cls ≠ "java/lang/invoke/VarHandle" ∧ (parseMethodDescriptor y.desc).map (fun d => d.parameters.length) = some n) (hrc : wc[0]? = some (b, .inr (ci, fs))) (hci : vwCl[ci]? = some (C, T, N)) (hRm : (rm.frames + 1).ble R.frames = true ∧ (8 + (maxL + 11) + rm.locals).ble R.locals = true) (hg : As.length = n) (hsz : ls.size = nL) (hcat : ((rest.map fun v : Value => v.category).sum).ble 8 = true) (hf : cells + rm.cells ≤ R.cells ∧ slots + rm.slots ≤ R.slots) (isC isR : List Nat) (hc : isC.map (fun i => ws[i]?) = wc.map some) (hR : isR.map (fun i => ws[i]?) = wr.map some) (hnC : va_nd isC = true) (hnR : va_nd isR = true) (hdis : ∀ i ∈ isR, i ∉ isC) (hst0 : st0 = As.reverse ++ .ref b :: rest) (hdg : decode cc pc = .ok (.invokevirtual index, 3)) (kk : ∀ (w1 : va_W) (H1 : Heap) (locs1 : List Loc), post w1 → va_P Z.1 vwCl (wr ++ w1) H1 → va_D A (wr ++ w1) → va_S A s.heap H1 locs1 → W p l e R s m args below meth c H1 locs1 (cells + rm.cells) (slots + rm.slots) Q (F0 m (pc + 3) ls rest)) : W p l e R s m args below meth c H locs cells slots Q (F0 m pc ls st0) := by
  exact x_backv hC hP hD hS isC isR hc hR hnR hdis (va_runV hC.1 (hM H.size) (cwV n hC.1.2.2.2.2 hG hw rfl rfl hd ⟨Nat.le_of_ble_eq_true hRm.1, Nat.le_of_ble_eq_true hRm.2⟩) (x_preV hC hP hD hS isC hc hnC hrc hci) rfl hg hsz hst0 (lv_room (Nat.le_of_ble_eq_true hcat)) hdg hf) kk
theorem x_Ri {y : MethodName} {bytes : ByteArray} {maxL index n : Nat} {ret : Option FieldType} {wy wy' : List Cond} {rm : Room} {As : List Value} {wc wr : va_W} {st0 : List Value} {b : Nat} {C : String} {post : Int32 → va_W → Prop} (hC : xC p s m args c cc nL own Ts Z A) (hP : va_P Z.1 vwCl ws H) (hD : va_D A ws) (hS : va_S A s.heap H locs) (hM : xMi l Z y wy rm (.ref b :: As) wc post) (hG : GoodIn Ts (wsV own index C y wy)) (hw : wy = Cond.code y bytes maxL ret :: wy') (hd : y.cls = C ∧ y.cls ≠ "java/lang/invoke/MethodHandle" ∧ y.cls ≠ "java/lang/invoke/VarHandle" ∧ (parseMethodDescriptor y.desc).map (fun d => d.parameters.length) = some n) (hrv : ∃ cellB : Cell, H[b]? = some cellB ∧ cellB.vm.isStatics = false ∧ s.vm.findClass C = some cellB.cls) (hRm : (rm.frames + 1).ble R.frames = true ∧ (8 + (maxL + 11) + rm.locals).ble R.locals = true) (hg : As.length = n) (hsz : ls.size = nL) (hcat : ((rest.map fun v : Value => v.category).sum).ble 8 = true) (hf : cells + rm.cells ≤ R.cells ∧ slots + rm.slots ≤ R.slots) (isC isR : List Nat) (hc : isC.map (fun i => ws[i]?) = wc.map some) (hR : isR.map (fun i => ws[i]?) = wr.map some) (hnC : va_nd isC = true) (hnR : va_nd isR = true) (hdis : ∀ i ∈ isR, i ∉ isC) (hst0 : st0 = As.reverse ++ .ref b :: rest) (hdg : decode cc pc = .ok (.invokevirtual index, 3)) (kk : ∀ (r : Int32) (w1 : va_W) (H1 : Heap) (locs1 : List Loc), post r w1 → va_P Z.1 vwCl (wr ++ w1) H1 → va_D A (wr ++ w1) → va_S A s.heap H1 locs1 → W p l e R s m args below meth c H1 locs1 (cells + rm.cells) (slots + rm.slots) Q (F0 m (pc + 3) ls (.int r :: rest))) : W p l e R s m args below meth c H locs cells slots Q (F0 m pc ls st0) := by
  exact x_backi hC hP hD hS isC isR hc hR hnR hdis (va_runV hC.1 (hM H.size) (cwV n hC.1.2.2.2.2 hG hw rfl rfl hd ⟨Nat.le_of_ble_eq_true hRm.1, Nat.le_of_ble_eq_true hRm.2⟩) ((have h9 := x_preS hC hP hD hS isC hc hnC; ⟨h9.1, hrv, h9.2⟩)) rfl hg hsz hst0 (lv_room (Nat.le_of_ble_eq_true hcat)) hdg hf) kk
theorem x_Rv {y : MethodName} {bytes : ByteArray} {maxL index n : Nat} {ret : Option FieldType} {wy wy' : List Cond} {rm : Room} {As : List Value} {wc wr : va_W} {st0 : List Value} {b : Nat} {C : String} {post : va_W → Prop} (hC : xC p s m args c cc nL own Ts Z A) (hP : va_P Z.1 vwCl ws H) (hD : va_D A ws) (hS : va_S A s.heap H locs) (hM : xMv l Z y wy rm (.ref b :: As) wc post) (hG : GoodIn Ts (wsV own index C y wy)) (hw : wy = Cond.code y bytes maxL ret :: wy') (hd : y.cls = C ∧ y.cls ≠ "java/lang/invoke/MethodHandle" ∧ y.cls ≠ "java/lang/invoke/VarHandle" ∧ (parseMethodDescriptor y.desc).map (fun d => d.parameters.length) = some n) (hrv : ∃ cellB : Cell, H[b]? = some cellB ∧ cellB.vm.isStatics = false ∧ s.vm.findClass C = some cellB.cls) (hRm : (rm.frames + 1).ble R.frames = true ∧ (8 + (maxL + 11) + rm.locals).ble R.locals = true) (hg : As.length = n) (hsz : ls.size = nL) (hcat : ((rest.map fun v : Value => v.category).sum).ble 8 = true) (hf : cells + rm.cells ≤ R.cells ∧ slots + rm.slots ≤ R.slots) (isC isR : List Nat) (hc : isC.map (fun i => ws[i]?) = wc.map some) (hR : isR.map (fun i => ws[i]?) = wr.map some) (hnC : va_nd isC = true) (hnR : va_nd isR = true) (hdis : ∀ i ∈ isR, i ∉ isC) (hst0 : st0 = As.reverse ++ .ref b :: rest) (hdg : decode cc pc = .ok (.invokevirtual index, 3)) (kk : ∀ (w1 : va_W) (H1 : Heap) (locs1 : List Loc), post w1 → va_P Z.1 vwCl (wr ++ w1) H1 → va_D A (wr ++ w1) → va_S A s.heap H1 locs1 → W p l e R s m args below meth c H1 locs1 (cells + rm.cells) (slots + rm.slots) Q (F0 m (pc + 3) ls rest)) : W p l e R s m args below meth c H locs cells slots Q (F0 m pc ls st0) := by
  exact x_backv hC hP hD hS isC isR hc hR hnR hdis (va_runV hC.1 (hM H.size) (cwV n hC.1.2.2.2.2 hG hw rfl rfl hd ⟨Nat.le_of_ble_eq_true hRm.1, Nat.le_of_ble_eq_true hRm.2⟩) ((have h9 := x_preS hC hP hD hS isC hc hnC; ⟨h9.1, hrv, h9.2⟩)) rfl hg hsz hst0 (lv_room (Nat.le_of_ble_eq_true hcat)) hdg hf) kk
theorem x_Si {y : MethodName} {bytes : ByteArray} {maxL index n : Nat} {ret : Option FieldType} {wy wy' : List Cond} {rm : Room} {As : List Value} {wc wr : va_W} {st0 : List Value} {post : Int32 → va_W → Prop} (hC : xC p s m args c cc nL own Ts Z A) (hP : va_P Z.1 vwCl ws H) (hD : va_D A ws) (hS : va_S A s.heap H locs) (hM : xMi l Z y wy rm As wc post) (hG : GoodIn Ts (va_wsS own index y wy)) (hw : wy = Cond.code y bytes maxL ret :: wy') (hd : y.cls ≠ "java/lang/invoke/MethodHandle" ∧ y.cls ≠ "java/lang/invoke/VarHandle" ∧ (parseMethodDescriptor y.desc).map (fun d => d.parameters.length) = some n) (hRm : (rm.frames + 1).ble R.frames = true ∧ (8 + (maxL + 11) + rm.locals).ble R.locals = true) (hg : As.length = n) (hsz : ls.size = nL) (hcat : ((rest.map fun v : Value => v.category).sum).ble 8 = true) (hf : cells + rm.cells ≤ R.cells ∧ slots + rm.slots ≤ R.slots) (isC isR : List Nat) (hc : isC.map (fun i => ws[i]?) = wc.map some) (hR : isR.map (fun i => ws[i]?) = wr.map some) (hnC : va_nd isC = true) (hnR : va_nd isR = true) (hdis : ∀ i ∈ isR, i ∉ isC) (hst0 : st0 = As.reverse ++ rest) (hdg : decode cc pc = .ok (.invokestatic index, 3)) (kk : ∀ (r : Int32) (w1 : va_W) (H1 : Heap) (locs1 : List Loc), post r w1 → va_P Z.1 vwCl (wr ++ w1) H1 → va_D A (wr ++ w1) → va_S A s.heap H1 locs1 → W p l e R s m args below meth c H1 locs1 (cells + rm.cells) (slots + rm.slots) Q (F0 m (pc + 3) ls (.int r :: rest))) : W p l e R s m args below meth c H locs cells slots Q (F0 m pc ls st0) := by
  exact x_backi hC hP hD hS isC isR hc hR hnR hdis (va_runS hC.1 (hM H.size) (va_cwS n hC.1.2.2.2.2 hG hw rfl rfl hd ⟨Nat.le_of_ble_eq_true hRm.1, Nat.le_of_ble_eq_true hRm.2⟩) (x_preS hC hP hD hS isC hc hnC) rfl hg hsz hst0 (lv_room (Nat.le_of_ble_eq_true hcat)) hdg hf) kk
theorem x_Sv {y : MethodName} {bytes : ByteArray} {maxL index n : Nat} {ret : Option FieldType} {wy wy' : List Cond} {rm : Room} {As : List Value} {wc wr : va_W} {st0 : List Value} {post : va_W → Prop} (hC : xC p s m args c cc nL own Ts Z A) (hP : va_P Z.1 vwCl ws H) (hD : va_D A ws) (hS : va_S A s.heap H locs) (hM : xMv l Z y wy rm As wc post) (hG : GoodIn Ts (va_wsS own index y wy)) (hw : wy = Cond.code y bytes maxL ret :: wy') (hd : y.cls ≠ "java/lang/invoke/MethodHandle" ∧ y.cls ≠ "java/lang/invoke/VarHandle" ∧ (parseMethodDescriptor y.desc).map (fun d => d.parameters.length) = some n) (hRm : (rm.frames + 1).ble R.frames = true ∧ (8 + (maxL + 11) + rm.locals).ble R.locals = true) (hg : As.length = n) (hsz : ls.size = nL) (hcat : ((rest.map fun v : Value => v.category).sum).ble 8 = true) (hf : cells + rm.cells ≤ R.cells ∧ slots + rm.slots ≤ R.slots) (isC isR : List Nat) (hc : isC.map (fun i => ws[i]?) = wc.map some) (hR : isR.map (fun i => ws[i]?) = wr.map some) (hnC : va_nd isC = true) (hnR : va_nd isR = true) (hdis : ∀ i ∈ isR, i ∉ isC) (hst0 : st0 = As.reverse ++ rest) (hdg : decode cc pc = .ok (.invokestatic index, 3)) (kk : ∀ (w1 : va_W) (H1 : Heap) (locs1 : List Loc), post w1 → va_P Z.1 vwCl (wr ++ w1) H1 → va_D A (wr ++ w1) → va_S A s.heap H1 locs1 → W p l e R s m args below meth c H1 locs1 (cells + rm.cells) (slots + rm.slots) Q (F0 m (pc + 3) ls rest)) : W p l e R s m args below meth c H locs cells slots Q (F0 m pc ls st0) := by
  exact x_backv hC hP hD hS isC isR hc hR hnR hdis (va_runS hC.1 (hM H.size) (va_cwS n hC.1.2.2.2.2 hG hw rfl rfl hd ⟨Nat.le_of_ble_eq_true hRm.1, Nat.le_of_ble_eq_true hRm.2⟩) (x_preS hC hP hD hS isC hc hnC) rfl hg hsz hst0 (lv_room (Nat.le_of_ble_eq_true hcat)) hdg hf) kk
theorem x_SNi {y : MethodName} {bytes : ByteArray} {maxL index n : Nat} {ret : Option FieldType} {wy wy' : List Cond} {rm : Room} {As : List Value} {wc wr : va_W} {st0 : List Value} {host : String} {post : Int32 → va_W → Prop} (hC : xC p s m args c cc nL own Ts Z A) (hP : va_P Z.1 vwCl ws H) (hD : va_D A ws) (hS : va_S A s.heap H locs) (hM : xMi l Z y wy rm As wc post) (hG : GoodIn Ts wy) (hl : va_Nw (.methodLinkNest own index y host) s) (hini : (Cond.initialized y.cls).before args s = true) (hst : (Cond.static y).before args s = true) (hw : wy = Cond.code y bytes maxL ret :: wy') (hd : y.cls ≠ "java/lang/invoke/MethodHandle" ∧ y.cls ≠ "java/lang/invoke/VarHandle" ∧ (parseMethodDescriptor y.desc).map (fun d => d.parameters.length) = some n) (hRm : (rm.frames + 1).ble R.frames = true ∧ (8 + (maxL + 11) + rm.locals).ble R.locals = true) (hg : As.length = n) (hsz : ls.size = nL) (hcat : ((rest.map fun v : Value => v.category).sum).ble 8 = true) (hf : cells + rm.cells ≤ R.cells ∧ slots + rm.slots ≤ R.slots) (isC isR : List Nat) (hc : isC.map (fun i => ws[i]?) = wc.map some) (hR : isR.map (fun i => ws[i]?) = wr.map some) (hnC : va_nd isC = true) (hnR : va_nd isR = true) (hdis : ∀ i ∈ isR, i ∉ isC) (hst0 : st0 = As.reverse ++ rest) (hdg : decode cc pc = .ok (.invokestatic index, 3)) (kk : ∀ (r : Int32) (w1 : va_W) (H1 : Heap) (locs1 : List Loc), post r w1 → va_P Z.1 vwCl (wr ++ w1) H1 → va_D A (wr ++ w1) → va_S A s.heap H1 locs1 → W p l e R s m args below meth c H1 locs1 (cells + rm.cells) (slots + rm.slots) Q (F0 m (pc + 3) ls (.int r :: rest))) : W p l e R s m args below meth c H locs cells slots Q (F0 m pc ls st0) := by
  exact x_backi hC hP hD hS isC isR hc hR hnR hdis (va_runSN hC.1 (hM H.size) (⟨va_cnB n hC.1.2.2.2.2 hG hw rfl rfl hl hini hd ⟨Nat.le_of_ble_eq_true hRm.1, Nat.le_of_ble_eq_true hRm.2⟩, hst, trivial⟩) (x_preS hC hP hD hS isC hc hnC) rfl hg hsz hst0 (lv_room (Nat.le_of_ble_eq_true hcat)) hdg hf) kk
theorem x_SNv {y : MethodName} {bytes : ByteArray} {maxL index n : Nat} {ret : Option FieldType} {wy wy' : List Cond} {rm : Room} {As : List Value} {wc wr : va_W} {st0 : List Value} {host : String} {post : va_W → Prop} (hC : xC p s m args c cc nL own Ts Z A) (hP : va_P Z.1 vwCl ws H) (hD : va_D A ws) (hS : va_S A s.heap H locs) (hM : xMv l Z y wy rm As wc post) (hG : GoodIn Ts wy) (hl : va_Nw (.methodLinkNest own index y host) s) (hini : (Cond.initialized y.cls).before args s = true) (hst : (Cond.static y).before args s = true) (hw : wy = Cond.code y bytes maxL ret :: wy') (hd : y.cls ≠ "java/lang/invoke/MethodHandle" ∧ y.cls ≠ "java/lang/invoke/VarHandle" ∧ (parseMethodDescriptor y.desc).map (fun d => d.parameters.length) = some n) (hRm : (rm.frames + 1).ble R.frames = true ∧ (8 + (maxL + 11) + rm.locals).ble R.locals = true) (hg : As.length = n) (hsz : ls.size = nL) (hcat : ((rest.map fun v : Value => v.category).sum).ble 8 = true) (hf : cells + rm.cells ≤ R.cells ∧ slots + rm.slots ≤ R.slots) (isC isR : List Nat) (hc : isC.map (fun i => ws[i]?) = wc.map some) (hR : isR.map (fun i => ws[i]?) = wr.map some) (hnC : va_nd isC = true) (hnR : va_nd isR = true) (hdis : ∀ i ∈ isR, i ∉ isC) (hst0 : st0 = As.reverse ++ rest) (hdg : decode cc pc = .ok (.invokestatic index, 3)) (kk : ∀ (w1 : va_W) (H1 : Heap) (locs1 : List Loc), post w1 → va_P Z.1 vwCl (wr ++ w1) H1 → va_D A (wr ++ w1) → va_S A s.heap H1 locs1 → W p l e R s m args below meth c H1 locs1 (cells + rm.cells) (slots + rm.slots) Q (F0 m (pc + 3) ls rest)) : W p l e R s m args below meth c H locs cells slots Q (F0 m pc ls st0) := by
  exact x_backv hC hP hD hS isC isR hc hR hnR hdis (va_runSN hC.1 (hM H.size) (⟨va_cnB n hC.1.2.2.2.2 hG hw rfl rfl hl hini hd ⟨Nat.le_of_ble_eq_true hRm.1, Nat.le_of_ble_eq_true hRm.2⟩, hst, trivial⟩) (x_preS hC hP hD hS isC hc hnC) rfl hg hsz hst0 (lv_room (Nat.le_of_ble_eq_true hcat)) hdg hf) kk
theorem x_Iv {y : MethodName} {bytes : ByteArray} {maxL index n : Nat} {ret : Option FieldType} {wy wy' : List Cond} {rm : Room} {As : List Value} {wc wr : va_W} {st0 : List Value} {b : Nat} {post : va_W → Prop} (hC : xC p s m args c cc nL own Ts Z A) (hP : va_P Z.1 vwCl ws H) (hD : va_D A ws) (hS : va_S A s.heap H locs) (hM : xMv l Z y wy rm (.ref b :: As) wc post) (hG : GoodIn Ts wy) (hini : (Cond.initialized y.cls).before args s = true) (hl : (Cond.methodLink own index y).before args s = true) (hin : (Cond.instanceMethod y).before args s = true) (hy1 : y.name = "<init>") (hw : wy = Cond.code y bytes maxL none :: wy') (hd : y.cls ≠ "java/lang/invoke/MethodHandle" ∧ y.cls ≠ "java/lang/invoke/VarHandle" ∧ (parseMethodDescriptor y.desc).map (fun d => d.parameters.length) = some n) (hRm : (rm.frames + 1).ble R.frames = true ∧ (8 + (maxL + 11) + rm.locals).ble R.locals = true) (hg : As.length = n) (hsz : ls.size = nL) (hcat : ((rest.map fun v : Value => v.category).sum).ble 8 = true) (hf : cells + rm.cells ≤ R.cells ∧ slots + rm.slots ≤ R.slots) (isC isR : List Nat) (hc : isC.map (fun i => ws[i]?) = wc.map some) (hR : isR.map (fun i => ws[i]?) = wr.map some) (hnC : va_nd isC = true) (hnR : va_nd isR = true) (hdis : ∀ i ∈ isR, i ∉ isC) (hst0 : st0 = As.reverse ++ .ref b :: rest) (hdg : decode cc pc = .ok (.invokespecial index, 3)) (kk : ∀ (w1 : va_W) (H1 : Heap) (locs1 : List Loc), post w1 → va_P Z.1 vwCl (wr ++ w1) H1 → va_D A (wr ++ w1) → va_S A s.heap H1 locs1 → W p l e R s m args below meth c H1 locs1 (cells + rm.cells) (slots + rm.slots) Q (F0 m (pc + 3) ls rest)) : W p l e R s m args below meth c H locs cells slots Q (F0 m pc ls st0) := by
  exact x_backv hC hP hD hS isC isR hc hR hnR hdis (va_runI hC.1 (hM H.size) (cwI n hC.1.2.2.2.2 hG hw rfl rfl hini hl hin hy1 hd ⟨Nat.le_of_ble_eq_true hRm.1, Nat.le_of_ble_eq_true hRm.2⟩) (x_preS hC hP hD hS isC hc hnC) rfl hg hsz hst0 (lv_room (Nat.le_of_ble_eq_true hcat)) hdg hf) kk
theorem x_INv {y : MethodName} {bytes : ByteArray} {maxL index n : Nat} {ret : Option FieldType} {wy wy' : List Cond} {rm : Room} {As : List Value} {wc wr : va_W} {st0 : List Value} {b : Nat} {host : String} {post : va_W → Prop} (hC : xC p s m args c cc nL own Ts Z A) (hP : va_P Z.1 vwCl ws H) (hD : va_D A ws) (hS : va_S A s.heap H locs) (hM : xMv l Z y wy rm (.ref b :: As) wc post) (hG : GoodIn Ts wy) (hl : va_Nw (.methodLinkNest own index y host) s) (hini : (Cond.initialized y.cls).before args s = true) (hin : (Cond.instanceMethod y).before args s = true) (hy1 : y.name = "<init>") (hw : wy = Cond.code y bytes maxL none :: wy') (hd : y.cls ≠ "java/lang/invoke/MethodHandle" ∧ y.cls ≠ "java/lang/invoke/VarHandle" ∧ (parseMethodDescriptor y.desc).map (fun d => d.parameters.length) = some n) (hRm : (rm.frames + 1).ble R.frames = true ∧ (8 + (maxL + 11) + rm.locals).ble R.locals = true) (hg : As.length = n) (hsz : ls.size = nL) (hcat : ((rest.map fun v : Value => v.category).sum).ble 8 = true) (hf : cells + rm.cells ≤ R.cells ∧ slots + rm.slots ≤ R.slots) (isC isR : List Nat) (hc : isC.map (fun i => ws[i]?) = wc.map some) (hR : isR.map (fun i => ws[i]?) = wr.map some) (hnC : va_nd isC = true) (hnR : va_nd isR = true) (hdis : ∀ i ∈ isR, i ∉ isC) (hst0 : st0 = As.reverse ++ .ref b :: rest) (hdg : decode cc pc = .ok (.invokespecial index, 3)) (kk : ∀ (w1 : va_W) (H1 : Heap) (locs1 : List Loc), post w1 → va_P Z.1 vwCl (wr ++ w1) H1 → va_D A (wr ++ w1) → va_S A s.heap H1 locs1 → W p l e R s m args below meth c H1 locs1 (cells + rm.cells) (slots + rm.slots) Q (F0 m (pc + 3) ls rest)) : W p l e R s m args below meth c H locs cells slots Q (F0 m pc ls st0) := by
  exact x_backv hC hP hD hS isC isR hc hR hnR hdis (va_runIN hC.1 (hM H.size) (⟨va_cnB n hC.1.2.2.2.2 hG hw rfl rfl hl hini hd ⟨Nat.le_of_ble_eq_true hRm.1, Nat.le_of_ble_eq_true hRm.2⟩, hy1, hin⟩) (x_preS hC hP hD hS isC hc hnC) rfl hg hsz hst0 (lv_room (Nat.le_of_ble_eq_true hcat)) hdg hf) kk
theorem ln_iald (hx : p.tables.exec = Jvm.exec) (hb : c.code = cc) (hK : va_K Z.1 vwCl (xty Z) s) (hP : va_P Z.1 vwCl ws H) (q0 : Nat) {a n j : Nat} {g : Nat → Nat} (ha : ws[q0]? = some (a, xI Z n g)) (h : j < n) (hn : n < 2147483648) (hdg : decode cc pc = .ok (.iaload, 1)) (kk : W p l e R s m args below meth c H locs cells slots Q (F0 m (pc + 1) ls (.int (nI (g j)) :: rest))) : W p l e R s m args below meth c H locs cells slots Q (F0 m pc ls (.int (nI j) :: .ref a :: rest)) := va_iald hx hb hK hP q0 0 ha rfl (vp_in_nI h hn) hdg (by rw [nI_clamp (Nat.lt_trans h hn)]; exact kk)
theorem ln_jald (hx : p.tables.exec = Jvm.exec) (hb : c.code = cc) (hK : va_K Z.1 vwCl (xty Z) s) (hP : va_P Z.1 vwCl ws H) (q0 : Nat) {a n j : Nat} {g : Nat → Int32} (ha : ws[q0]? = some (a, xJ Z n g)) (h : j < n) (hn : n < 2147483648) (hdg : decode cc pc = .ok (.iaload, 1)) (kk : W p l e R s m args below meth c H locs cells slots Q (F0 m (pc + 1) ls (.int (g j) :: rest))) : W p l e R s m args below meth c H locs cells slots Q (F0 m pc ls (.int (nI j) :: .ref a :: rest)) := va_iald hx hb hK hP q0 0 ha rfl (vp_in_nI h hn) hdg (by rw [nI_clamp (Nat.lt_trans h hn)]; exact kk)
theorem ln_zald (hx : p.tables.exec = Jvm.exec) (hb : c.code = cc) (hK : va_K Z.1 vwCl (xty Z) s) (hP : va_P Z.1 vwCl ws H) (q0 : Nat) {a n j : Nat} {g : Nat → Nat} (ha : ws[q0]? = some (a, xO Z n g)) (h : j < n) (hn : n < 2147483648) (hdg : decode cc pc = .ok (.baload, 1)) (kk : W p l e R s m args below meth c H locs cells slots Q (F0 m (pc + 1) ls (.int (nI (g j)) :: rest))) : W p l e R s m args below meth c H locs cells slots Q (F0 m pc ls (.int (nI j) :: .ref a :: rest)) := va_zald hx hb hK hP q0 1 ha rfl (vp_in_nI h hn) hdg (by rw [nI_clamp (Nat.lt_trans h hn)]; exact kk)
theorem ln_iast (hx : p.tables.exec = Jvm.exec) (hb : c.code = cc) (hK : va_K Z.1 vwCl (xty Z) s) (hP : va_P Z.1 vwCl ws H) (hD : va_D A ws) (hS : va_S A s.heap H locs) (q0 : Nat) {a n j : Nat} {x : Nat} {g : Nat → Nat} (ha : ws[q0]? = some (a, xI Z n g)) (h : j < n) (hn : n < 2147483648) (hdg : decode cc pc = .ok (.iastore, 1)) (kk : ∀ (H1 : Heap) (locs1 : List Loc), va_P Z.1 vwCl (ws.set q0 (a, xI Z n (va_up g j x))) H1 → va_D A (ws.set q0 (a, xI Z n (va_up g j x))) → va_S A s.heap H1 locs1 → W p l e R s m args below meth c H1 locs1 cells slots Q (F0 m (pc + 1) ls rest)) : W p l e R s m args below meth c H locs cells slots Q (F0 m pc ls (.int (nI x) :: .int (nI j) :: .ref a :: rest)) := va_iast hx hb hK hP hD hS q0 0 ha rfl (vp_in_nI h hn) hdg (fun H1 locs1 hP1 hD1 hS1 => kk H1 locs1 (by rw [nI_clamp (Nat.lt_trans h hn), upd_nI] at hP1; exact hP1) (by rw [nI_clamp (Nat.lt_trans h hn), upd_nI] at hD1; exact hD1) hS1)
theorem ln_jast (hx : p.tables.exec = Jvm.exec) (hb : c.code = cc) (hK : va_K Z.1 vwCl (xty Z) s) (hP : va_P Z.1 vwCl ws H) (hD : va_D A ws) (hS : va_S A s.heap H locs) (q0 : Nat) {a n j : Nat} {x : Int32} {g : Nat → Int32} (ha : ws[q0]? = some (a, xJ Z n g)) (h : j < n) (hn : n < 2147483648) (hdg : decode cc pc = .ok (.iastore, 1)) (kk : ∀ (H1 : Heap) (locs1 : List Loc), va_P Z.1 vwCl (ws.set q0 (a, xJ Z n (upd g j x))) H1 → va_D A (ws.set q0 (a, xJ Z n (upd g j x))) → va_S A s.heap H1 locs1 → W p l e R s m args below meth c H1 locs1 cells slots Q (F0 m (pc + 1) ls rest)) : W p l e R s m args below meth c H locs cells slots Q (F0 m pc ls (.int (x) :: .int (nI j) :: .ref a :: rest)) := va_iast hx hb hK hP hD hS q0 0 ha rfl (vp_in_nI h hn) hdg (fun H1 locs1 hP1 hD1 hS1 => kk H1 locs1 (by rw [nI_clamp (Nat.lt_trans h hn)] at hP1; exact hP1) (by rw [nI_clamp (Nat.lt_trans h hn)] at hD1; exact hD1) hS1)
theorem nar_bool {x : Nat} (h : x < 2) : vp_nar .boolean (nI x) = nI x := by
  rcases (show x = 0 ∨ x = 1 by omega) with rfl | rfl <;> rfl
theorem ln_zast (hx : p.tables.exec = Jvm.exec) (hb : c.code = cc) (hK : va_K Z.1 vwCl (xty Z) s) (hP : va_P Z.1 vwCl ws H) (hD : va_D A ws) (hS : va_S A s.heap H locs) (q0 : Nat) {a n j : Nat} {x : Nat} {g : Nat → Nat} (ha : ws[q0]? = some (a, xO Z n g)) (h : j < n) (hn : n < 2147483648) (hx2 : x < 2) (hdg : decode cc pc = .ok (.bastore, 1)) (kk : ∀ (H1 : Heap) (locs1 : List Loc), va_P Z.1 vwCl (ws.set q0 (a, xO Z n (va_up g j x))) H1 → va_D A (ws.set q0 (a, xO Z n (va_up g j x))) → va_S A s.heap H1 locs1 → W p l e R s m args below meth c H1 locs1 cells slots Q (F0 m (pc + 1) ls rest)) : W p l e R s m args below meth c H locs cells slots Q (F0 m pc ls (.int (nI x) :: .int (nI j) :: .ref a :: rest)) := va_zast hx hb hK hP hD hS q0 1 ha rfl (vp_in_nI h hn) hdg (fun H1 locs1 hP1 hD1 hS1 => kk H1 locs1 (by rw [nI_clamp (Nat.lt_trans h hn), nar_bool hx2, upd_nI] at hP1; exact hP1) (by rw [nI_clamp (Nat.lt_trans h hn), nar_bool hx2, upd_nI] at hD1; exact hD1) hS1)
end XC
end
