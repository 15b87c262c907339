section
-- ===== PART A: goes FIRST, ahead of the names: the tables' words, and 'selects' of the private methods out of them =====
/-- a private method of a class that the tables say can be made, by its rows of tables_1 -/
def lw_okq (q : MethodName × Nat) : Prop := (q.1.cls ≠ "java/lang/invoke/MethodHandle" ∧ q.1.cls ≠ "java/lang/invoke/VarHandle") ∧ Cond.instantiable q.1.cls q.2 ∈ tables_1 ∧ Cond.privateMethod q.1 ∈ tables_1 ∧ Cond.instanceMethod q.1 ∈ tables_1
theorem lw_p0 : lw_okq (⟨"TagTower$Productions", "write", "(Ljava/lang/String;II)V"⟩, 2) := ⟨⟨by decide +kernel, by decide +kernel⟩, List.mem_of_getElem? (i := 92) (by decide +kernel), List.mem_of_getElem? (i := 103) (by decide +kernel), List.mem_of_getElem? (i := 104) (by decide +kernel)⟩
theorem lw_p1 : lw_okq (⟨"TagTower$Productions", "append", "(II)V"⟩, 2) := ⟨⟨by decide +kernel, by decide +kernel⟩, List.mem_of_getElem? (i := 92) (by decide +kernel), List.mem_of_getElem? (i := 224) (by decide +kernel), List.mem_of_getElem? (i := 225) (by decide +kernel)⟩
theorem lw_p2 : lw_okq (⟨"TagTower$Counters", "doLine", "()Z"⟩, 7) := ⟨⟨by decide +kernel, by decide +kernel⟩, List.mem_of_getElem? (i := 24) (by decide +kernel), List.mem_of_getElem? (i := 346) (by decide +kernel), List.mem_of_getElem? (i := 347) (by decide +kernel)⟩
theorem lw_p3 : lw_okq (⟨"TagTower$Counters", "countUp", "(I)Z"⟩, 7) := ⟨⟨by decide +kernel, by decide +kernel⟩, List.mem_of_getElem? (i := 24) (by decide +kernel), List.mem_of_getElem? (i := 351) (by decide +kernel), List.mem_of_getElem? (i := 352) (by decide +kernel)⟩
theorem lw_p4 : lw_okq (⟨"TagTower$Counters", "countDown", "(I)Z"⟩, 7) := ⟨⟨by decide +kernel, by decide +kernel⟩, List.mem_of_getElem? (i := 24) (by decide +kernel), List.mem_of_getElem? (i := 355) (by decide +kernel), List.mem_of_getElem? (i := 356) (by decide +kernel)⟩
theorem lw_p5 : lw_okq (⟨"TagTower$Machine", "doStep", "()Z"⟩, 9) := ⟨⟨by decide +kernel, by decide +kernel⟩, List.mem_of_getElem? (i := 53) (by decide +kernel), List.mem_of_getElem? (i := 419) (by decide +kernel), List.mem_of_getElem? (i := 420) (by decide +kernel)⟩
theorem lw_p6 : lw_okq (⟨"TagTower$Word", "appendTwos", "(II)V"⟩, 2) := ⟨⟨by decide +kernel, by decide +kernel⟩, List.mem_of_getElem? (i := 236) (by decide +kernel), List.mem_of_getElem? (i := 462) (by decide +kernel), List.mem_of_getElem? (i := 463) (by decide +kernel)⟩
theorem lw_p7 : lw_okq (⟨"TagTower$LetterRow", "wrapped", "(I)I"⟩, 3) := ⟨⟨by decide +kernel, by decide +kernel⟩, List.mem_of_getElem? (i := 242) (by decide +kernel), List.mem_of_getElem? (i := 470) (by decide +kernel), List.mem_of_getElem? (i := 471) (by decide +kernel)⟩
theorem lw_p8 : lw_okq (⟨"TagTower$Word", "doStep", "(LTagTower$Productions;)Z"⟩, 2) := ⟨⟨by decide +kernel, by decide +kernel⟩, List.mem_of_getElem? (i := 236) (by decide +kernel), List.mem_of_getElem? (i := 508) (by decide +kernel), List.mem_of_getElem? (i := 509) (by decide +kernel)⟩
theorem lw_p9 : lw_okq (⟨"TagTower$Word", "middle", "()I"⟩, 2) := ⟨⟨by decide +kernel, by decide +kernel⟩, List.mem_of_getElem? (i := 236) (by decide +kernel), List.mem_of_getElem? (i := 539) (by decide +kernel), List.mem_of_getElem? (i := 540) (by decide +kernel)⟩
theorem lw_p10 : lw_okq (⟨"TagTower$Word", "behindTwos", "(II)I"⟩, 2) := ⟨⟨by decide +kernel, by decide +kernel⟩, List.mem_of_getElem? (i := 236) (by decide +kernel), List.mem_of_getElem? (i := 543) (by decide +kernel), List.mem_of_getElem? (i := 544) (by decide +kernel)⟩
theorem lw_p11 : lw_okq (⟨"TagTower$Bits", "take", "(ILTagTower$Productions;)I"⟩, 2) := ⟨⟨by decide +kernel, by decide +kernel⟩, List.mem_of_getElem? (i := 270) (by decide +kernel), List.mem_of_getElem? (i := 583) (by decide +kernel), List.mem_of_getElem? (i := 584) (by decide +kernel)⟩
theorem lw_p12 : lw_okq (⟨"TagTower$Bits", "gone", "()I"⟩, 2) := ⟨⟨by decide +kernel, by decide +kernel⟩, List.mem_of_getElem? (i := 270) (by decide +kernel), List.mem_of_getElem? (i := 593) (by decide +kernel), List.mem_of_getElem? (i := 594) (by decide +kernel)⟩
theorem lw_p13 : lw_okq (⟨"TagTower$Bits", "takeOne", "(LTagTower$Productions;)I"⟩, 2) := ⟨⟨by decide +kernel, by decide +kernel⟩, List.mem_of_getElem? (i := 270) (by decide +kernel), List.mem_of_getElem? (i := 597) (by decide +kernel), List.mem_of_getElem? (i := 598) (by decide +kernel)⟩
theorem lw_p14 : lw_okq (⟨"TagTower$Bits", "pass", "(I)V"⟩, 2) := ⟨⟨by decide +kernel, by decide +kernel⟩, List.mem_of_getElem? (i := 270) (by decide +kernel), List.mem_of_getElem? (i := 606) (by decide +kernel), List.mem_of_getElem? (i := 607) (by decide +kernel)⟩
theorem lw_p15 : lw_okq (⟨"TagTowerModel", "mayDo", "()Z"⟩, 29) := ⟨⟨by decide +kernel, by decide +kernel⟩, List.mem_of_getElem? (i := 637) (by decide +kernel), List.mem_of_getElem? (i := 760) (by decide +kernel), List.mem_of_getElem? (i := 761) (by decide +kernel)⟩
def lw_privs_1 : List (MethodName × Nat) := [(⟨"TagTower$Productions", "write", "(Ljava/lang/String;II)V"⟩, 2), (⟨"TagTower$Productions", "append", "(II)V"⟩, 2), (⟨"TagTower$Counters", "doLine", "()Z"⟩, 7), (⟨"TagTower$Counters", "countUp", "(I)Z"⟩, 7), (⟨"TagTower$Counters", "countDown", "(I)Z"⟩, 7), (⟨"TagTower$Machine", "doStep", "()Z"⟩, 9), (⟨"TagTower$Word", "appendTwos", "(II)V"⟩, 2), (⟨"TagTower$LetterRow", "wrapped", "(I)I"⟩, 3), (⟨"TagTower$Word", "doStep", "(LTagTower$Productions;)Z"⟩, 2), (⟨"TagTower$Word", "middle", "()I"⟩, 2), (⟨"TagTower$Word", "behindTwos", "(II)I"⟩, 2), (⟨"TagTower$Bits", "take", "(ILTagTower$Productions;)I"⟩, 2), (⟨"TagTower$Bits", "gone", "()I"⟩, 2), (⟨"TagTower$Bits", "takeOne", "(LTagTower$Productions;)I"⟩, 2), (⟨"TagTower$Bits", "pass", "(I)V"⟩, 2), (⟨"TagTowerModel", "mayDo", "()Z"⟩, 29)]
theorem lw_r1 : ∀ q ∈ lw_privs_1, lw_okq q := List.forall_mem_cons.mpr ⟨lw_p0, List.forall_mem_cons.mpr ⟨lw_p1, List.forall_mem_cons.mpr ⟨lw_p2, List.forall_mem_cons.mpr ⟨lw_p3, List.forall_mem_cons.mpr ⟨lw_p4, List.forall_mem_cons.mpr ⟨lw_p5, List.forall_mem_cons.mpr ⟨lw_p6, List.forall_mem_cons.mpr ⟨lw_p7, List.forall_mem_cons.mpr ⟨lw_p8, List.forall_mem_cons.mpr ⟨lw_p9, List.forall_mem_cons.mpr ⟨lw_p10, List.forall_mem_cons.mpr ⟨lw_p11, List.forall_mem_cons.mpr ⟨lw_p12, List.forall_mem_cons.mpr ⟨lw_p13, List.forall_mem_cons.mpr ⟨lw_p14, List.forall_mem_cons.mpr ⟨lw_p15, fun _ h => absurd h List.not_mem_nil⟩⟩⟩⟩⟩⟩⟩⟩⟩⟩⟩⟩⟩⟩⟩⟩
theorem lw_p16 : lw_okq (⟨"TagTowerModel", "mayMove", "()Z"⟩, 29) := ⟨⟨by decide +kernel, by decide +kernel⟩, List.mem_of_getElem? (i := 637) (by decide +kernel), List.mem_of_getElem? (i := 792) (by decide +kernel), List.mem_of_getElem? (i := 793) (by decide +kernel)⟩
theorem lw_p17 : lw_okq (⟨"TagTowerModel", "produce", "(I)V"⟩, 29) := ⟨⟨by decide +kernel, by decide +kernel⟩, List.mem_of_getElem? (i := 637) (by decide +kernel), List.mem_of_getElem? (i := 806) (by decide +kernel), List.mem_of_getElem? (i := 807) (by decide +kernel)⟩
theorem lw_p18 : lw_okq (⟨"TagTowerModel", "one", "(I)V"⟩, 29) := ⟨⟨by decide +kernel, by decide +kernel⟩, List.mem_of_getElem? (i := 637) (by decide +kernel), List.mem_of_getElem? (i := 813) (by decide +kernel), List.mem_of_getElem? (i := 814) (by decide +kernel)⟩
theorem lw_p19 : lw_okq (⟨"TagTowerModel", "makes", "(I)V"⟩, 29) := ⟨⟨by decide +kernel, by decide +kernel⟩, List.mem_of_getElem? (i := 637) (by decide +kernel), List.mem_of_getElem? (i := 817) (by decide +kernel), List.mem_of_getElem? (i := 818) (by decide +kernel)⟩
theorem lw_p20 : lw_okq (⟨"TagTowerModel", "produceRuled", "(IIII)V"⟩, 29) := ⟨⟨by decide +kernel, by decide +kernel⟩, List.mem_of_getElem? (i := 637) (by decide +kernel), List.mem_of_getElem? (i := 821) (by decide +kernel), List.mem_of_getElem? (i := 822) (by decide +kernel)⟩
theorem lw_p21 : lw_okq (⟨"TagTowerModel", "doubled", "(IZ)V"⟩, 29) := ⟨⟨by decide +kernel, by decide +kernel⟩, List.mem_of_getElem? (i := 637) (by decide +kernel), List.mem_of_getElem? (i := 825) (by decide +kernel), List.mem_of_getElem? (i := 826) (by decide +kernel)⟩
theorem lw_p22 : lw_okq (⟨"TagTowerModel", "puts", "(I)V"⟩, 29) := ⟨⟨by decide +kernel, by decide +kernel⟩, List.mem_of_getElem? (i := 637) (by decide +kernel), List.mem_of_getElem? (i := 833) (by decide +kernel), List.mem_of_getElem? (i := 834) (by decide +kernel)⟩
theorem lw_p23 : lw_okq (⟨"TagTowerModel", "letterAt", "(I)I"⟩, 29) := ⟨⟨by decide +kernel, by decide +kernel⟩, List.mem_of_getElem? (i := 637) (by decide +kernel), List.mem_of_getElem? (i := 849) (by decide +kernel), List.mem_of_getElem? (i := 850) (by decide +kernel)⟩
theorem lw_p24 : lw_okq (⟨"TagTowerModel", "tags", "()Z"⟩, 29) := ⟨⟨by decide +kernel, by decide +kernel⟩, List.mem_of_getElem? (i := 637) (by decide +kernel), List.mem_of_getElem? (i := 862) (by decide +kernel), List.mem_of_getElem? (i := 863) (by decide +kernel)⟩
theorem lw_p25 : lw_okq (⟨"TagTowerModel", "tells", "()Z"⟩, 29) := ⟨⟨by decide +kernel, by decide +kernel⟩, List.mem_of_getElem? (i := 637) (by decide +kernel), List.mem_of_getElem? (i := 870) (by decide +kernel), List.mem_of_getElem? (i := 871) (by decide +kernel)⟩
theorem lw_p26 : lw_okq (⟨"TagTowerModel", "putBit", "(I)V"⟩, 29) := ⟨⟨by decide +kernel, by decide +kernel⟩, List.mem_of_getElem? (i := 637) (by decide +kernel), List.mem_of_getElem? (i := 888) (by decide +kernel), List.mem_of_getElem? (i := 889) (by decide +kernel)⟩
theorem lw_p27 : lw_okq (⟨"TagTowerModel", "cycles", "()Z"⟩, 29) := ⟨⟨by decide +kernel, by decide +kernel⟩, List.mem_of_getElem? (i := 637) (by decide +kernel), List.mem_of_getElem? (i := 897) (by decide +kernel), List.mem_of_getElem? (i := 898) (by decide +kernel)⟩
theorem lw_p28 : lw_okq (⟨"TagTowerModel", "isStill", "()Z"⟩, 29) := ⟨⟨by decide +kernel, by decide +kernel⟩, List.mem_of_getElem? (i := 637) (by decide +kernel), List.mem_of_getElem? (i := 901) (by decide +kernel), List.mem_of_getElem? (i := 902) (by decide +kernel)⟩
theorem lw_p29 : lw_okq (⟨"TagTowerModel", "letterOf", "(I)I"⟩, 29) := ⟨⟨by decide +kernel, by decide +kernel⟩, List.mem_of_getElem? (i := 637) (by decide +kernel), List.mem_of_getElem? (i := 905) (by decide +kernel), List.mem_of_getElem? (i := 906) (by decide +kernel)⟩
theorem lw_p30 : lw_okq (⟨"TagTowerModel", "bitAt", "(I)I"⟩, 29) := ⟨⟨by decide +kernel, by decide +kernel⟩, List.mem_of_getElem? (i := 637) (by decide +kernel), List.mem_of_getElem? (i := 909) (by decide +kernel), List.mem_of_getElem? (i := 910) (by decide +kernel)⟩
def lw_privs_2 : List (MethodName × Nat) := [(⟨"TagTowerModel", "mayMove", "()Z"⟩, 29), (⟨"TagTowerModel", "produce", "(I)V"⟩, 29), (⟨"TagTowerModel", "one", "(I)V"⟩, 29), (⟨"TagTowerModel", "makes", "(I)V"⟩, 29), (⟨"TagTowerModel", "produceRuled", "(IIII)V"⟩, 29), (⟨"TagTowerModel", "doubled", "(IZ)V"⟩, 29), (⟨"TagTowerModel", "puts", "(I)V"⟩, 29), (⟨"TagTowerModel", "letterAt", "(I)I"⟩, 29), (⟨"TagTowerModel", "tags", "()Z"⟩, 29), (⟨"TagTowerModel", "tells", "()Z"⟩, 29), (⟨"TagTowerModel", "putBit", "(I)V"⟩, 29), (⟨"TagTowerModel", "cycles", "()Z"⟩, 29), (⟨"TagTowerModel", "isStill", "()Z"⟩, 29), (⟨"TagTowerModel", "letterOf", "(I)I"⟩, 29), (⟨"TagTowerModel", "bitAt", "(I)I"⟩, 29)]
theorem lw_r2 : ∀ q ∈ lw_privs_2, lw_okq q := List.forall_mem_cons.mpr ⟨lw_p16, List.forall_mem_cons.mpr ⟨lw_p17, List.forall_mem_cons.mpr ⟨lw_p18, List.forall_mem_cons.mpr ⟨lw_p19, List.forall_mem_cons.mpr ⟨lw_p20, List.forall_mem_cons.mpr ⟨lw_p21, List.forall_mem_cons.mpr ⟨lw_p22, List.forall_mem_cons.mpr ⟨lw_p23, List.forall_mem_cons.mpr ⟨lw_p24, List.forall_mem_cons.mpr ⟨lw_p25, List.forall_mem_cons.mpr ⟨lw_p26, List.forall_mem_cons.mpr ⟨lw_p27, List.forall_mem_cons.mpr ⟨lw_p28, List.forall_mem_cons.mpr ⟨lw_p29, List.forall_mem_cons.mpr ⟨lw_p30, fun _ h => absurd h List.not_mem_nil⟩⟩⟩⟩⟩⟩⟩⟩⟩⟩⟩⟩⟩⟩⟩
def lw_privs : List (MethodName × Nat) := lw_privs_1 ++ (lw_privs_2)
def lw_tbl : List Cond := k2_sels lw_privs ++ tables_1
theorem lw_privs_ok : ∀ q ∈ lw_privs, lw_okq q := by
  show ∀ q ∈ lw_privs_1 ++ (lw_privs_2), lw_okq q
  exact List.forall_mem_append.mpr ⟨lw_r1, lw_r2⟩
-- ===== end of PART A; then your names; then what follows =====
end
section
def RX0 : String := "TagTower$Bits"
def TX0 : u_T := fun k => match k with
  | 0 => ("TagTower$Bits", "row", "LTagTower$LetterRow;", true)
  | _ => ("TagTower$Bits", "turn", "I", false)
def tyX0 : Nat → FieldType := fun k => match k with
  | 0 => .object "TagTower$LetterRow"
  | _ => .int
abbrev wsX00 : List Cond := u_ws RX0 TX0 2
theorem nmX0 : ∀ a, a < 2 → ∀ b, b < 2 → a ≠ b → (TX0 a).2.1 ≠ (TX0 b).2.1 := by decide +kernel
theorem tyX0_ok : ∀ k, k < 2 → parseFieldDescriptor (TX0 k).2.2.1 = some (tyX0 k) := by decide +kernel
abbrev cX0_init : ByteArray := prog_2_method_1_code
def yX0_init : MethodName := ⟨RX0, "<init>", "()V"⟩
abbrev cX0_layWord : ByteArray := prog_2_method_2_code
def yX0_layWord : MethodName := ⟨RX0, "layWord", "(LTagTower$LetterRow;)I"⟩
abbrev cX0_size : ByteArray := prog_2_method_3_code
def yX0_size : MethodName := ⟨RX0, "size", "()I"⟩
abbrev cX0_gone : ByteArray := prog_2_method_4_code
def yX0_gone : MethodName := ⟨RX0, "gone", "()I"⟩
abbrev cX0_get : ByteArray := prog_2_method_5_code
def yX0_get : MethodName := ⟨RX0, "get", "(I)I"⟩
abbrev cX0_ones : ByteArray := prog_2_method_6_code
def yX0_ones : MethodName := ⟨RX0, "ones", "()I"⟩
abbrev cX0_isStill : ByteArray := prog_2_method_7_code
def yX0_isStill : MethodName := ⟨RX0, "isStill", "(LTagTower$Productions;)Z"⟩
abbrev cX0_doSteps : ByteArray := prog_2_method_8_code
def yX0_doSteps : MethodName := ⟨RX0, "doSteps", "(ILTagTower$Productions;)I"⟩
abbrev cX0_take : ByteArray := prog_2_method_9_code
def yX0_take : MethodName := ⟨RX0, "take", "(ILTagTower$Productions;)I"⟩
abbrev cX0_takeOne : ByteArray := prog_2_method_10_code
def yX0_takeOne : MethodName := ⟨RX0, "takeOne", "(LTagTower$Productions;)I"⟩
abbrev cX0_pass : ByteArray := prog_2_method_11_code
def yX0_pass : MethodName := ⟨RX0, "pass", "(I)V"⟩
def RX1 : String := "TagTower$Counters"
def TX1 : u_T := fun k => match k with
  | 0 => ("TagTower$Counters", "values", "[I", true)
  | 1 => ("TagTower$Counters", "ops", "[I", true)
  | 2 => ("TagTower$Counters", "worked", "[I", true)
  | 3 => ("TagTower$Counters", "onward", "[I", true)
  | 4 => ("TagTower$Counters", "ifZero", "[I", true)
  | 5 => ("TagTower$Counters", "lines", "I", false)
  | _ => ("TagTower$Counters", "now", "I", false)
def tyX1 : Nat → FieldType := fun k => match k with
  | 0 => .array .int
  | 1 => .array .int
  | 2 => .array .int
  | 3 => .array .int
  | 4 => .array .int
  | 5 => .int
  | _ => .int
abbrev wsX10 : List Cond := u_ws RX1 TX1 7
theorem nmX1 : ∀ a, a < 7 → ∀ b, b < 7 → a ≠ b → (TX1 a).2.1 ≠ (TX1 b).2.1 := by decide +kernel
theorem tyX1_ok : ∀ k, k < 7 → parseFieldDescriptor (TX1 k).2.2.1 = some (tyX1 k) := by decide +kernel
abbrev cX1_init : ByteArray := prog_3_method_1_code
def yX1_init : MethodName := ⟨RX1, "<init>", "()V"⟩
abbrev cX1_addLine : ByteArray := prog_3_method_2_code
def yX1_addLine : MethodName := ⟨RX1, "addLine", "(IIII)I"⟩
abbrev cX1_forgetLines : ByteArray := prog_3_method_3_code
def yX1_forgetLines : MethodName := ⟨RX1, "forgetLines", "()I"⟩
abbrev cX1_value : ByteArray := prog_3_method_4_code
def yX1_value : MethodName := ⟨RX1, "value", "(I)I"⟩
abbrev cX1_putValue : ByteArray := prog_3_method_5_code
def yX1_putValue : MethodName := ⟨RX1, "putValue", "(II)I"⟩
abbrev cX1_lineNow : ByteArray := prog_3_method_6_code
def yX1_lineNow : MethodName := ⟨RX1, "lineNow", "()I"⟩
abbrev cX1_jump : ByteArray := prog_3_method_7_code
def yX1_jump : MethodName := ⟨RX1, "jump", "(I)I"⟩
abbrev cX1_doLines : ByteArray := prog_3_method_8_code
def yX1_doLines : MethodName := ⟨RX1, "doLines", "(I)I"⟩
abbrev cX1_doLine : ByteArray := prog_3_method_9_code
def yX1_doLine : MethodName := ⟨RX1, "doLine", "()Z"⟩
abbrev cX1_countUp : ByteArray := prog_3_method_10_code
def yX1_countUp : MethodName := ⟨RX1, "countUp", "(I)Z"⟩
abbrev cX1_countDown : ByteArray := prog_3_method_11_code
def yX1_countDown : MethodName := ⟨RX1, "countDown", "(I)Z"⟩
def RX2 : String := "TagTower$LetterRow"
def TX2 : u_T := fun k => match k with
  | 0 => ("TagTower$LetterRow", "cells", "[I", true)
  | 1 => ("TagTower$LetterRow", "head", "I", false)
  | _ => ("TagTower$LetterRow", "size", "I", false)
def tyX2 : Nat → FieldType := fun k => match k with
  | 0 => .array .int
  | 1 => .int
  | _ => .int
abbrev wsX20 : List Cond := u_ws RX2 TX2 3
theorem nmX2 : ∀ a, a < 3 → ∀ b, b < 3 → a ≠ b → (TX2 a).2.1 ≠ (TX2 b).2.1 := by decide +kernel
theorem tyX2_ok : ∀ k, k < 3 → parseFieldDescriptor (TX2 k).2.2.1 = some (tyX2 k) := by decide +kernel
abbrev cX2_init : ByteArray := prog_4_method_1_code
def yX2_init : MethodName := ⟨RX2, "<init>", "(I)V"⟩
abbrev cX2_empty : ByteArray := prog_4_method_2_code
def yX2_empty : MethodName := ⟨RX2, "empty", "()V"⟩
abbrev cX2_get : ByteArray := prog_4_method_3_code
def yX2_get : MethodName := ⟨RX2, "get", "(I)I"⟩
abbrev cX2_append : ByteArray := prog_4_method_4_code
def yX2_append : MethodName := ⟨RX2, "append", "(I)V"⟩
abbrev cX2_drop : ByteArray := prog_4_method_5_code
def yX2_drop : MethodName := ⟨RX2, "drop", "(I)V"⟩
abbrev cX2_become : ByteArray := prog_4_method_6_code
def yX2_become : MethodName := ⟨RX2, "become", "(LTagTower$LetterRow;)V"⟩
abbrev cX2_wrapped : ByteArray := prog_4_method_7_code
def yX2_wrapped : MethodName := ⟨RX2, "wrapped", "(I)I"⟩
def RX3 : String := "TagTower$Machine"
def TX3 : u_T := fun k => match k with
  | 0 => ("TagTower$Machine", "ruled", "[Z", true)
  | 1 => ("TagTower$Machine", "signs", "[I", true)
  | 2 => ("TagTower$Machine", "ways", "[I", true)
  | 3 => ("TagTower$Machine", "states", "[I", true)
  | 4 => ("TagTower$Machine", "rules", "I", false)
  | 5 => ("TagTower$Machine", "state", "I", false)
  | 6 => ("TagTower$Machine", "sign", "I", false)
  | 7 => ("TagTower$Machine", "left", "I", false)
  | _ => ("TagTower$Machine", "right", "I", false)
def tyX3 : Nat → FieldType := fun k => match k with
  | 0 => .array .boolean
  | 1 => .array .int
  | 2 => .array .int
  | 3 => .array .int
  | 4 => .int
  | 5 => .int
  | 6 => .int
  | 7 => .int
  | _ => .int
abbrev wsX30 : List Cond := u_ws RX3 TX3 9
theorem nmX3 : ∀ a, a < 9 → ∀ b, b < 9 → a ≠ b → (TX3 a).2.1 ≠ (TX3 b).2.1 := by decide +kernel
theorem tyX3_ok : ∀ k, k < 9 → parseFieldDescriptor (TX3 k).2.2.1 = some (tyX3 k) := by decide +kernel
abbrev cX3_init : ByteArray := prog_5_method_1_code
def yX3_init : MethodName := ⟨RX3, "<init>", "()V"⟩
abbrev cX3_putRule : ByteArray := prog_5_method_2_code
def yX3_putRule : MethodName := ⟨RX3, "putRule", "(IIII)I"⟩
abbrev cX3_dropRule : ByteArray := prog_5_method_3_code
def yX3_dropRule : MethodName := ⟨RX3, "dropRule", "(I)I"⟩
abbrev cX3_putPlace : ByteArray := prog_5_method_4_code
def yX3_putPlace : MethodName := ⟨RX3, "putPlace", "(IIII)V"⟩
abbrev cX3_isStill : ByteArray := prog_5_method_5_code
def yX3_isStill : MethodName := ⟨RX3, "isStill", "()Z"⟩
abbrev cX3_doSteps : ByteArray := prog_5_method_6_code
def yX3_doSteps : MethodName := ⟨RX3, "doSteps", "(I)I"⟩
abbrev cX3_doStep : ByteArray := prog_5_method_7_code
def yX3_doStep : MethodName := ⟨RX3, "doStep", "()Z"⟩
def RX4 : String := "TagTower$Productions"
def TX4 : u_T := fun k => match k with
  | 0 => ("TagTower$Productions", "sizes", "[I", true)
  | _ => ("TagTower$Productions", "letters", "[I", true)
def tyX4 : Nat → FieldType := fun k => match k with
  | 0 => .array .int
  | _ => .array .int
abbrev wsX40 : List Cond := u_ws RX4 TX4 2
theorem nmX4 : ∀ a, a < 2 → ∀ b, b < 2 → a ≠ b → (TX4 a).2.1 ≠ (TX4 b).2.1 := by decide +kernel
theorem tyX4_ok : ∀ k, k < 2 → parseFieldDescriptor (TX4 k).2.2.1 = some (tyX4 k) := by decide +kernel
abbrev cX4_init : ByteArray := prog_6_method_1_code
def yX4_init : MethodName := ⟨RX4, "<init>", "()V"⟩
abbrev cX4_followNone : ByteArray := prog_6_method_2_code
def yX4_followNone : MethodName := ⟨RX4, "followNone", "(I)V"⟩
abbrev cX4_follow : ByteArray := prog_6_method_3_code
def yX4_follow : MethodName := ⟨RX4, "follow", "(IIII)V"⟩
abbrev cX4_write : ByteArray := prog_6_method_4_code
def yX4_write : MethodName := ⟨RX4, "write", "(Ljava/lang/String;II)V"⟩
abbrev cX4_pairMarked : ByteArray := prog_6_method_5_code
def yX4_pairMarked : MethodName := ⟨RX4, "pairMarked", "(CII)I"⟩
abbrev cX4_number : ByteArray := prog_6_method_6_code
def yX4_number : MethodName := ⟨RX4, "number", "(II)I"⟩
abbrev cX4_append : ByteArray := prog_6_method_7_code
def yX4_append : MethodName := ⟨RX4, "append", "(II)V"⟩
abbrev cX4_sizeOf : ByteArray := prog_6_method_8_code
def yX4_sizeOf : MethodName := ⟨RX4, "sizeOf", "(I)I"⟩
abbrev cX4_letterAt : ByteArray := prog_6_method_9_code
def yX4_letterAt : MethodName := ⟨RX4, "letterAt", "(II)I"⟩
abbrev cX4_bitAt : ByteArray := prog_6_method_10_code
def yX4_bitAt : MethodName := ⟨RX4, "bitAt", "(II)I"⟩
abbrev cX4_appendTo : ByteArray := prog_6_method_11_code
def yX4_appendTo : MethodName := ⟨RX4, "appendTo", "(LTagTower$LetterRow;I)V"⟩
def RX5 : String := "TagTower$Word"
def TX5 : u_T := fun k => match k with
  | 0 => ("TagTower$Word", "row", "LTagTower$LetterRow;", true)
  | _ => ("TagTower$Word", "kept", "LTagTower$LetterRow;", true)
def tyX5 : Nat → FieldType := fun k => match k with
  | 0 => .object "TagTower$LetterRow"
  | _ => .object "TagTower$LetterRow"
abbrev wsX50 : List Cond := u_ws RX5 TX5 2
theorem nmX5 : ∀ a, a < 2 → ∀ b, b < 2 → a ≠ b → (TX5 a).2.1 ≠ (TX5 b).2.1 := by decide +kernel
theorem tyX5_ok : ∀ k, k < 2 → parseFieldDescriptor (TX5 k).2.2.1 = some (tyX5 k) := by decide +kernel
abbrev cX5_init : ByteArray := prog_7_method_1_code
def yX5_init : MethodName := ⟨RX5, "<init>", "()V"⟩
abbrev cX5_layPlace : ByteArray := prog_7_method_2_code
def yX5_layPlace : MethodName := ⟨RX5, "layPlace", "(III)I"⟩
abbrev cX5_appendTwos : ByteArray := prog_7_method_3_code
def yX5_appendTwos : MethodName := ⟨RX5, "appendTwos", "(II)V"⟩
abbrev cX5_addLetter : ByteArray := prog_7_method_4_code
def yX5_addLetter : MethodName := ⟨RX5, "addLetter", "(I)I"⟩
abbrev cX5_doSteps : ByteArray := prog_7_method_5_code
def yX5_doSteps : MethodName := ⟨RX5, "doSteps", "(ILTagTower$Productions;)I"⟩
abbrev cX5_stepsToPlace : ByteArray := prog_7_method_6_code
def yX5_stepsToPlace : MethodName := ⟨RX5, "stepsToPlace", "(LTagTower$Productions;)I"⟩
abbrev cX5_doStep : ByteArray := prog_7_method_7_code
def yX5_doStep : MethodName := ⟨RX5, "doStep", "(LTagTower$Productions;)Z"⟩
abbrev cX5_tellPlace : ByteArray := prog_7_method_8_code
def yX5_tellPlace : MethodName := ⟨RX5, "tellPlace", "(I)I"⟩
abbrev cX5_middle : ByteArray := prog_7_method_9_code
def yX5_middle : MethodName := ⟨RX5, "middle", "()I"⟩
abbrev cX5_behindTwos : ByteArray := prog_7_method_10_code
def yX5_behindTwos : MethodName := ⟨RX5, "behindTwos", "(II)I"⟩
def RX6 : String := "TagTower"
def TX6 : u_T := fun k => match k with
  | 0 => ("TagTower", "counters", "LTagTower$Counters;", true)
  | 1 => ("TagTower", "machine", "LTagTower$Machine;", true)
  | 2 => ("TagTower", "productions", "LTagTower$Productions;", true)
  | 3 => ("TagTower", "word", "LTagTower$Word;", true)
  | _ => ("TagTower", "bitRow", "LTagTower$Bits;", true)
def tyX6 : Nat → FieldType := fun k => match k with
  | 0 => .object "TagTower$Counters"
  | 1 => .object "TagTower$Machine"
  | 2 => .object "TagTower$Productions"
  | 3 => .object "TagTower$Word"
  | _ => .object "TagTower$Bits"
abbrev wsX60 : List Cond := u_ws RX6 TX6 5
theorem nmX6 : ∀ a, a < 5 → ∀ b, b < 5 → a ≠ b → (TX6 a).2.1 ≠ (TX6 b).2.1 := by decide +kernel
theorem tyX6_ok : ∀ k, k < 5 → parseFieldDescriptor (TX6 k).2.2.1 = some (tyX6 k) := by decide +kernel
abbrev cX6_init : ByteArray := prog_1_method_1_code
def yX6_init : MethodName := ⟨RX6, "<init>", "()V"⟩
abbrev cX6_line : ByteArray := prog_1_method_2_code
def yX6_line : MethodName := ⟨RX6, "line", "(IIII)I"⟩
abbrev cX6_wipe : ByteArray := prog_1_method_3_code
def yX6_wipe : MethodName := ⟨RX6, "wipe", "()I"⟩
abbrev cX6_set : ByteArray := prog_1_method_4_code
def yX6_set : MethodName := ⟨RX6, "set", "(II)I"⟩
abbrev cX6_counter : ByteArray := prog_1_method_5_code
def yX6_counter : MethodName := ⟨RX6, "counter", "(I)I"⟩
abbrev cX6_count : ByteArray := prog_1_method_6_code
def yX6_count : MethodName := ⟨RX6, "count", "(I)I"⟩
abbrev cX6_at : ByteArray := prog_1_method_7_code
def yX6_at : MethodName := ⟨RX6, "at", "()I"⟩
abbrev cX6_go : ByteArray := prog_1_method_8_code
def yX6_go : MethodName := ⟨RX6, "go", "(I)I"⟩
abbrev cX6_rule : ByteArray := prog_1_method_9_code
def yX6_rule : MethodName := ⟨RX6, "rule", "(IIIII)I"⟩
abbrev cX6_unrule : ByteArray := prog_1_method_10_code
def yX6_unrule : MethodName := ⟨RX6, "unrule", "(II)I"⟩
abbrev cX6_place : ByteArray := prog_1_method_11_code
def yX6_place : MethodName := ⟨RX6, "place", "(IIII)I"⟩
abbrev cX6_move : ByteArray := prog_1_method_12_code
def yX6_move : MethodName := ⟨RX6, "move", "(I)I"⟩
abbrev cX6_where : ByteArray := prog_1_method_13_code
def yX6_where : MethodName := ⟨RX6, "where", "(I)I"⟩
abbrev cX6_production : ByteArray := prog_1_method_14_code
def yX6_production : MethodName := ⟨RX6, "production", "(II)I"⟩
abbrev cX6_lay : ByteArray := prog_1_method_15_code
def yX6_lay : MethodName := ⟨RX6, "lay", "()I"⟩
abbrev cX6_add : ByteArray := prog_1_method_16_code
def yX6_add : MethodName := ⟨RX6, "add", "(I)I"⟩
abbrev cX6_clear : ByteArray := prog_1_method_17_code
def yX6_clear : MethodName := ⟨RX6, "clear", "()I"⟩
abbrev cX6_letter : ByteArray := prog_1_method_18_code
def yX6_letter : MethodName := ⟨RX6, "letter", "(I)I"⟩
abbrev cX6_length : ByteArray := prog_1_method_19_code
def yX6_length : MethodName := ⟨RX6, "length", "()I"⟩
abbrev cX6_tag : ByteArray := prog_1_method_20_code
def yX6_tag : MethodName := ⟨RX6, "tag", "(I)I"⟩
abbrev cX6_next : ByteArray := prog_1_method_21_code
def yX6_next : MethodName := ⟨RX6, "next", "()I"⟩
abbrev cX6_told : ByteArray := prog_1_method_22_code
def yX6_told : MethodName := ⟨RX6, "told", "(I)I"⟩
abbrev cX6_appendant : ByteArray := prog_1_method_23_code
def yX6_appendant : MethodName := ⟨RX6, "appendant", "(II)I"⟩
abbrev cX6_spread : ByteArray := prog_1_method_24_code
def yX6_spread : MethodName := ⟨RX6, "spread", "()I"⟩
abbrev cX6_cycle : ByteArray := prog_1_method_25_code
def yX6_cycle : MethodName := ⟨RX6, "cycle", "(I)I"⟩
abbrev cX6_bit : ByteArray := prog_1_method_26_code
def yX6_bit : MethodName := ⟨RX6, "bit", "(I)I"⟩
abbrev cX6_bits : ByteArray := prog_1_method_27_code
def yX6_bits : MethodName := ⟨RX6, "bits", "(I)I"⟩
abbrev cX6_gather : ByteArray := prog_1_method_28_code
def yX6_gather : MethodName := ⟨RX6, "gather", "()I"⟩
abbrev cX6_outside : ByteArray := prog_1_method_29_code
def yX6_outside : MethodName := ⟨RX6, "outside", "(III)Z"⟩
abbrev cX6_oneIf : ByteArray := prog_1_method_30_code
def yX6_oneIf : MethodName := ⟨RX6, "oneIf", "(Z)I"⟩
abbrev cX6_pairOf : ByteArray := prog_1_method_31_code
def yX6_pairOf : MethodName := ⟨RX6, "pairOf", "(II)I"⟩
def RX7 : String := "TagTowerModel"
def TX7 : u_T := fun k => match k with
  | 0 => ("TagTowerModel", "thrown", "I", false)
  | 1 => ("TagTowerModel", "counter", "[I", true)
  | 2 => ("TagTowerModel", "lines", "I", false)
  | 3 => ("TagTowerModel", "op", "[I", true)
  | 4 => ("TagTowerModel", "which", "[I", true)
  | 5 => ("TagTowerModel", "then", "[I", true)
  | 6 => ("TagTowerModel", "other", "[I", true)
  | 7 => ("TagTowerModel", "line", "I", false)
  | 8 => ("TagTowerModel", "writes", "[I", true)
  | 9 => ("TagTowerModel", "way", "[I", true)
  | 10 => ("TagTowerModel", "goes", "[I", true)
  | 11 => ("TagTowerModel", "state", "I", false)
  | 12 => ("TagTowerModel", "sign", "I", false)
  | 13 => ("TagTowerModel", "left", "I", false)
  | 14 => ("TagTowerModel", "right", "I", false)
  | 15 => ("TagTowerModel", "begin", "I", false)
  | 16 => ("TagTowerModel", "length", "I", false)
  | 17 => ("TagTowerModel", "word", "[I", true)
  | 18 => ("TagTowerModel", "savedLength", "I", false)
  | 19 => ("TagTowerModel", "saved", "[I", true)
  | 20 => ("TagTowerModel", "first", "I", false)
  | 21 => ("TagTowerModel", "many", "I", false)
  | 22 => ("TagTowerModel", "bits", "[I", true)
  | 23 => ("TagTowerModel", "turn", "I", false)
  | 24 => ("TagTowerModel", "made", "I", false)
  | 25 => ("TagTowerModel", "makes", "[I", true)
  | 26 => ("TagTowerModel", "toldPair", "I", false)
  | 27 => ("TagTowerModel", "toldLeft", "I", false)
  | _ => ("TagTowerModel", "toldRight", "I", false)
def tyX7 : Nat → FieldType := fun k => match k with
  | 0 => .int
  | 1 => .array .int
  | 2 => .int
  | 3 => .array .int
  | 4 => .array .int
  | 5 => .array .int
  | 6 => .array .int
  | 7 => .int
  | 8 => .array .int
  | 9 => .array .int
  | 10 => .array .int
  | 11 => .int
  | 12 => .int
  | 13 => .int
  | 14 => .int
  | 15 => .int
  | 16 => .int
  | 17 => .array .int
  | 18 => .int
  | 19 => .array .int
  | 20 => .int
  | 21 => .int
  | 22 => .array .int
  | 23 => .int
  | 24 => .int
  | 25 => .array .int
  | 26 => .int
  | 27 => .int
  | _ => .int
abbrev wsX70 : List Cond := u_ws RX7 TX7 29
theorem nmX7 : ∀ a, a < 29 → ∀ b, b < 29 → a ≠ b → (TX7 a).2.1 ≠ (TX7 b).2.1 := by decide +kernel
theorem tyX7_ok : ∀ k, k < 29 → parseFieldDescriptor (TX7 k).2.2.1 = some (tyX7 k) := by decide +kernel
abbrev cX7_init : ByteArray := prog_9_method_1_code
def yX7_init : MethodName := ⟨RX7, "<init>", "()V"⟩
abbrev cX7_in : ByteArray := prog_9_method_3_code
def yX7_in : MethodName := ⟨RX7, "in", "(JJJ)Z"⟩
abbrev cX7_line : ByteArray := prog_9_method_4_code
def yX7_line : MethodName := ⟨RX7, "line", "(IIII)I"⟩
abbrev cX7_wipe : ByteArray := prog_9_method_5_code
def yX7_wipe : MethodName := ⟨RX7, "wipe", "()I"⟩
abbrev cX7_set : ByteArray := prog_9_method_6_code
def yX7_set : MethodName := ⟨RX7, "set", "(II)I"⟩
abbrev cX7_counter : ByteArray := prog_9_method_7_code
def yX7_counter : MethodName := ⟨RX7, "counter", "(I)I"⟩
abbrev cX7_mayDo : ByteArray := prog_9_method_8_code
def yX7_mayDo : MethodName := ⟨RX7, "mayDo", "()Z"⟩
abbrev cX7_count : ByteArray := prog_9_method_9_code
def yX7_count : MethodName := ⟨RX7, "count", "(I)I"⟩
abbrev cX7_at : ByteArray := prog_9_method_10_code
def yX7_at : MethodName := ⟨RX7, "at", "()I"⟩
abbrev cX7_go : ByteArray := prog_9_method_11_code
def yX7_go : MethodName := ⟨RX7, "go", "(I)I"⟩
abbrev cX7_isPair : ByteArray := prog_9_method_12_code
def yX7_isPair : MethodName := ⟨RX7, "isPair", "(II)Z"⟩
abbrev cX7_rule : ByteArray := prog_9_method_13_code
def yX7_rule : MethodName := ⟨RX7, "rule", "(IIIII)I"⟩
abbrev cX7_unrule : ByteArray := prog_9_method_14_code
def yX7_unrule : MethodName := ⟨RX7, "unrule", "(II)I"⟩
abbrev cX7_place : ByteArray := prog_9_method_15_code
def yX7_place : MethodName := ⟨RX7, "place", "(IIII)I"⟩
abbrev cX7_mayMove : ByteArray := prog_9_method_16_code
def yX7_mayMove : MethodName := ⟨RX7, "mayMove", "()Z"⟩
abbrev cX7_move : ByteArray := prog_9_method_17_code
def yX7_move : MethodName := ⟨RX7, "move", "(I)I"⟩
abbrev cX7_where : ByteArray := prog_9_method_18_code
def yX7_where : MethodName := ⟨RX7, "where", "(I)I"⟩
abbrev cX7_makes : ByteArray := prog_9_method_19_code
def yX7_makes : MethodName := ⟨RX7, "makes", "(I)V"⟩
abbrev cX7_of : ByteArray := prog_9_method_20_code
def yX7_of : MethodName := ⟨RX7, "of", "(II)I"⟩
abbrev cX7_one : ByteArray := prog_9_method_21_code
def yX7_one : MethodName := ⟨RX7, "one", "(I)V"⟩
abbrev cX7_doubled : ByteArray := prog_9_method_22_code
def yX7_doubled : MethodName := ⟨RX7, "doubled", "(IZ)V"⟩
abbrev cX7_produceRuled : ByteArray := prog_9_method_23_code
def yX7_produceRuled : MethodName := ⟨RX7, "produceRuled", "(IIII)V"⟩
abbrev cX7_produce : ByteArray := prog_9_method_24_code
def yX7_produce : MethodName := ⟨RX7, "produce", "(I)V"⟩
abbrev cX7_production : ByteArray := prog_9_method_25_code
def yX7_production : MethodName := ⟨RX7, "production", "(II)I"⟩
abbrev cX7_letterAt : ByteArray := prog_9_method_26_code
def yX7_letterAt : MethodName := ⟨RX7, "letterAt", "(I)I"⟩
abbrev cX7_puts : ByteArray := prog_9_method_27_code
def yX7_puts : MethodName := ⟨RX7, "puts", "(I)V"⟩
abbrev cX7_lay : ByteArray := prog_9_method_28_code
def yX7_lay : MethodName := ⟨RX7, "lay", "()I"⟩
abbrev cX7_add : ByteArray := prog_9_method_29_code
def yX7_add : MethodName := ⟨RX7, "add", "(I)I"⟩
abbrev cX7_clear : ByteArray := prog_9_method_30_code
def yX7_clear : MethodName := ⟨RX7, "clear", "()I"⟩
abbrev cX7_letter : ByteArray := prog_9_method_31_code
def yX7_letter : MethodName := ⟨RX7, "letter", "(I)I"⟩
abbrev cX7_length : ByteArray := prog_9_method_32_code
def yX7_length : MethodName := ⟨RX7, "length", "()I"⟩
abbrev cX7_tags : ByteArray := prog_9_method_33_code
def yX7_tags : MethodName := ⟨RX7, "tags", "()Z"⟩
abbrev cX7_tag : ByteArray := prog_9_method_34_code
def yX7_tag : MethodName := ⟨RX7, "tag", "(I)I"⟩
abbrev cX7_tells : ByteArray := prog_9_method_35_code
def yX7_tells : MethodName := ⟨RX7, "tells", "()Z"⟩
abbrev cX7_next : ByteArray := prog_9_method_36_code
def yX7_next : MethodName := ⟨RX7, "next", "()I"⟩
abbrev cX7_told : ByteArray := prog_9_method_37_code
def yX7_told : MethodName := ⟨RX7, "told", "(I)I"⟩
abbrev cX7_bitAt : ByteArray := prog_9_method_38_code
def yX7_bitAt : MethodName := ⟨RX7, "bitAt", "(I)I"⟩
abbrev cX7_putBit : ByteArray := prog_9_method_39_code
def yX7_putBit : MethodName := ⟨RX7, "putBit", "(I)V"⟩
abbrev cX7_appendant : ByteArray := prog_9_method_40_code
def yX7_appendant : MethodName := ⟨RX7, "appendant", "(II)I"⟩
abbrev cX7_spread : ByteArray := prog_9_method_41_code
def yX7_spread : MethodName := ⟨RX7, "spread", "()I"⟩
abbrev cX7_letterOf : ByteArray := prog_9_method_42_code
def yX7_letterOf : MethodName := ⟨RX7, "letterOf", "(I)I"⟩
abbrev cX7_isStill : ByteArray := prog_9_method_43_code
def yX7_isStill : MethodName := ⟨RX7, "isStill", "()Z"⟩
abbrev cX7_cycles : ByteArray := prog_9_method_44_code
def yX7_cycles : MethodName := ⟨RX7, "cycles", "()Z"⟩
abbrev cX7_cycle : ByteArray := prog_9_method_45_code
def yX7_cycle : MethodName := ⟨RX7, "cycle", "(I)I"⟩
abbrev cX7_bit : ByteArray := prog_9_method_46_code
def yX7_bit : MethodName := ⟨RX7, "bit", "(I)I"⟩
abbrev cX7_bits : ByteArray := prog_9_method_47_code
def yX7_bits : MethodName := ⟨RX7, "bits", "(I)I"⟩
abbrev cX7_gather : ByteArray := prog_9_method_48_code
def yX7_gather : MethodName := ⟨RX7, "gather", "()I"⟩
def RJ11 : String := "java/lang/Character"
def TJ11 : u_T := fun k => match k with
  | _ => ("", "", "", false)
def tyJ11 : Nat → FieldType := fun k => match k with
  | _ => .int
theorem nmJ11 : ∀ a, a < 0 → ∀ b, b < 0 → a ≠ b → (TJ11 a).2.1 ≠ (TJ11 b).2.1 := by decide +kernel
theorem tyJ11_ok : ∀ k, k < 0 → parseFieldDescriptor (TJ11 k).2.2.1 = some (tyJ11 k) := by decide +kernel
abbrev cJ11_isValidCodePoint_9a6ad : ByteArray := prog_10_method_11_code
def yJ11_isValidCodePoint_9a6ad : MethodName := ⟨RJ11, "isValidCodePoint", "(I)Z"⟩
abbrev cJ11_highSurrogate_5068e : ByteArray := prog_10_method_28_code
def yJ11_highSurrogate_5068e : MethodName := ⟨RJ11, "highSurrogate", "(I)C"⟩
abbrev cJ11_lowSurrogate_5068e : ByteArray := prog_10_method_29_code
def yJ11_lowSurrogate_5068e : MethodName := ⟨RJ11, "lowSurrogate", "(I)C"⟩
def RJ9 : String := "java/lang/Math"
def TJ9 : u_T := fun k => match k with
  | _ => ("", "", "", false)
def tyJ9 : Nat → FieldType := fun k => match k with
  | _ => .int
theorem nmJ9 : ∀ a, a < 0 → ∀ b, b < 0 → a ≠ b → (TJ9 a).2.1 ≠ (TJ9 b).2.1 := by decide +kernel
theorem tyJ9_ok : ∀ k, k < 0 → parseFieldDescriptor (TJ9 k).2.2.1 = some (tyJ9 k) := by decide +kernel
abbrev cJ9_max_7cf53 : ByteArray := prog_11_method_65_code
def yJ9_max_7cf53 : MethodName := ⟨RJ9, "max", "(II)I"⟩
abbrev cJ9_min_7cf53 : ByteArray := prog_11_method_69_code
def yJ9_min_7cf53 : MethodName := ⟨RJ9, "min", "(II)I"⟩
def RJ0 : String := "java/lang/String"
def TJ0 : u_T := fun k => match k with
  | _ => ("", "", "", false)
def tyJ0 : Nat → FieldType := fun k => match k with
  | _ => .int
theorem nmJ0 : ∀ a, a < 0 → ∀ b, b < 0 → a ≠ b → (TJ0 a).2.1 ≠ (TJ0 b).2.1 := by decide +kernel
theorem tyJ0_ok : ∀ k, k < 0 → parseFieldDescriptor (TJ0 k).2.2.1 = some (tyJ0 k) := by decide +kernel
abbrev cJ0_length_8abf5 : ByteArray := prog_12_method_54_code
def yJ0_length_8abf5 : MethodName := ⟨RJ0, "length", "()I"⟩
abbrev cJ0_charAt_5068e : ByteArray := prog_12_method_56_code
def yJ0_charAt_5068e : MethodName := ⟨RJ0, "charAt", "(I)C"⟩
abbrev cJ0_indexOf_0f7a4 : ByteArray := prog_12_method_79_code
def yJ0_indexOf_0f7a4 : MethodName := ⟨RJ0, "indexOf", "(I)I"⟩
abbrev cJ0_indexOf_7cf53 : ByteArray := prog_12_method_80_code
def yJ0_indexOf_7cf53 : MethodName := ⟨RJ0, "indexOf", "(II)I"⟩
abbrev cJ0_coder_7d493 : ByteArray := prog_12_method_152_code
def yJ0_coder_7d493 : MethodName := ⟨RJ0, "coder", "()B"⟩
abbrev cJ0_isLatin1_aae02 : ByteArray := prog_12_method_154_code
def yJ0_isLatin1_aae02 : MethodName := ⟨RJ0, "isLatin1", "()Z"⟩
abbrev cJ0_checkIndex_df160 : ByteArray := prog_12_method_155_code
def yJ0_checkIndex_df160 : MethodName := ⟨RJ0, "checkIndex", "(II)V"⟩
abbrev cJ0_checkBoundsBeginEnd_23922 : ByteArray := prog_12_method_158_code
def yJ0_checkBoundsBeginEnd_23922 : MethodName := ⟨RJ0, "checkBoundsBeginEnd", "(III)V"⟩
def RJ1 : String := "java/lang/StringLatin1"
def TJ1 : u_T := fun k => match k with
  | _ => ("", "", "", false)
def tyJ1 : Nat → FieldType := fun k => match k with
  | _ => .int
theorem nmJ1 : ∀ a, a < 0 → ∀ b, b < 0 → a ≠ b → (TJ1 a).2.1 ≠ (TJ1 b).2.1 := by decide +kernel
theorem tyJ1_ok : ∀ k, k < 0 → parseFieldDescriptor (TJ1 k).2.2.1 = some (tyJ1 k) := by decide +kernel
abbrev cJ1_charAt_3b067 : ByteArray := prog_13_method_2_code
def yJ1_charAt_3b067 : MethodName := ⟨RJ1, "charAt", "([BI)C"⟩
abbrev cJ1_canEncode_9a6ad : ByteArray := prog_13_method_4_code
def yJ1_canEncode_9a6ad : MethodName := ⟨RJ1, "canEncode", "(I)Z"⟩
abbrev cJ1_indexOf_4cfef : ByteArray := prog_13_method_22_code
def yJ1_indexOf_4cfef : MethodName := ⟨RJ1, "indexOf", "([BIII)I"⟩
abbrev cJ1_indexOfChar_4cfef : ByteArray := prog_13_method_23_code
def yJ1_indexOfChar_4cfef : MethodName := ⟨RJ1, "indexOfChar", "([BIII)I"⟩
def RJ2 : String := "java/lang/StringUTF16"
def TJ2 : u_T := fun k => match k with
  | _ => ("", "", "", false)
def tyJ2 : Nat → FieldType := fun k => match k with
  | _ => .int
theorem nmJ2 : ∀ a, a < 0 → ∀ b, b < 0 → a ≠ b → (TJ2 a).2.1 ≠ (TJ2 b).2.1 := by decide +kernel
theorem tyJ2_ok : ∀ k, k < 0 → parseFieldDescriptor (TJ2 k).2.2.1 = some (tyJ2 k) := by decide +kernel
abbrev cJ2_getChar_3b067 : ByteArray := prog_14_method_5_code
def yJ2_getChar_3b067 : MethodName := ⟨RJ2, "getChar", "([BI)C"⟩
abbrev cJ2_length_9d52b : ByteArray := prog_14_method_6_code
def yJ2_length_9d52b : MethodName := ⟨RJ2, "length", "([B)I"⟩
abbrev cJ2_indexOf_4cfef : ByteArray := prog_14_method_40_code
def yJ2_indexOf_4cfef : MethodName := ⟨RJ2, "indexOf", "([BIII)I"⟩
abbrev cJ2_indexOfChar_4cfef : ByteArray := prog_14_method_47_code
def yJ2_indexOfChar_4cfef : MethodName := ⟨RJ2, "indexOfChar", "([BIII)I"⟩
abbrev cJ2_indexOfCharUnsafe_4cfef : ByteArray := prog_14_method_48_code
def yJ2_indexOfCharUnsafe_4cfef : MethodName := ⟨RJ2, "indexOfCharUnsafe", "([BIII)I"⟩
abbrev cJ2_indexOfSupplementary_4cfef : ByteArray := prog_14_method_49_code
def yJ2_indexOfSupplementary_4cfef : MethodName := ⟨RJ2, "indexOfSupplementary", "([BIII)I"⟩
abbrev cJ2_charAt_3b067 : ByteArray := prog_14_method_83_code
def yJ2_charAt_3b067 : MethodName := ⟨RJ2, "charAt", "([BI)C"⟩
abbrev cJ2_checkIndex_2214a : ByteArray := prog_14_method_91_code
def yJ2_checkIndex_2214a : MethodName := ⟨RJ2, "checkIndex", "(I[B)V"⟩
abbrev cJ2_checkBoundsBeginEnd_d044e : ByteArray := prog_14_method_93_code
def yJ2_checkBoundsBeginEnd_d044e : MethodName := ⟨RJ2, "checkBoundsBeginEnd", "(II[B)V"⟩
def RJ3 : String := "jdk/internal/util/Preconditions"
def TJ3 : u_T := fun k => match k with
  | _ => ("", "", "", false)
def tyJ3 : Nat → FieldType := fun k => match k with
  | _ => .int
theorem nmJ3 : ∀ a, a < 0 → ∀ b, b < 0 → a ≠ b → (TJ3 a).2.1 ≠ (TJ3 b).2.1 := by decide +kernel
theorem tyJ3_ok : ∀ k, k < 0 → parseFieldDescriptor (TJ3 k).2.2.1 = some (tyJ3 k) := by decide +kernel
abbrev cJ3_checkIndex_8e157 : ByteArray := prog_15_method_11_code
def yJ3_checkIndex_8e157 : MethodName := ⟨RJ3, "checkIndex", "(IILjava/util/function/BiFunction;)I"⟩
abbrev cJ3_checkFromToIndex_8c36e : ByteArray := prog_15_method_12_code
def yJ3_checkFromToIndex_8c36e : MethodName := ⟨RJ3, "checkFromToIndex", "(IIILjava/util/function/BiFunction;)I"⟩
def RL : String := "TagTowerLaw"
abbrev cL_law : ByteArray := code
def yL_law : MethodName := ⟨RL, "law", "([I)Z"⟩
abbrev vwCl : List vw_C := [(RX0, TX0, 2), (RX1, TX1, 7), (RX2, TX2, 3), (RX3, TX3, 9), (RX4, TX4, 2), (RX5, TX5, 2), (RX6, TX6, 5), (RX7, TX7, 29)]
end
section
/-- all words that a method may need -/
def wAll : List Cond := lw_tbl.filter goodWord
theorem in_all {w : Cond} (i : Nat) (h : lw_tbl[i]? = some w) (hg : goodWord w = true) : w ∈ wAll := List.mem_filter.mpr ⟨List.mem_of_getElem? h, hg⟩
theorem in_t1 {w : Cond} (i : Nat) (h : tables_1_1[i]? = some w) (hg : goodWord w = true) : w ∈ wAll := List.mem_filter.mpr ⟨List.mem_append_right _ (List.mem_append_left _ (List.mem_of_getElem? h)), hg⟩
theorem in_t2 {w : Cond} (i : Nat) (h : tables_1_2[i]? = some w) (hg : goodWord w = true) : w ∈ wAll := List.mem_filter.mpr ⟨List.mem_append_right _ (List.mem_append_right _ (List.mem_append_left _ (List.mem_of_getElem? h))), hg⟩
theorem in_t3 {w : Cond} (i : Nat) (h : tables_1_3[i]? = some w) (hg : goodWord w = true) : w ∈ wAll := List.mem_filter.mpr ⟨List.mem_append_right _ (List.mem_append_right _ (List.mem_append_right _ (List.mem_append_left _ (List.mem_of_getElem? h)))), hg⟩
theorem in_t4 {w : Cond} (i : Nat) (h : tables_1_4[i]? = some w) (hg : goodWord w = true) : w ∈ wAll := List.mem_filter.mpr ⟨List.mem_append_right _ (List.mem_append_right _ (List.mem_append_right _ (List.mem_append_right _ (List.mem_of_getElem? h)))), hg⟩
theorem wAll_in : ∀ w ∈ wAll, w ∈ lw_tbl := fun w h => (List.mem_filter.mp h).1
theorem wAll_good {w : Cond} (h : w ∈ wAll) : (w.onTables && w.keeps) = true ∨ ∃ ty, w = .arrayClass ty := good_of_word (List.mem_filter.mp h).2
/-- a callee's words are a caller's -/
theorem gCo {c0 cy : Cond} (h : cy ∈ wAll) : GoodIn (c0 :: wAll) (cy :: wAll) := by
  intro w hw
  have : w ∈ wAll := (List.mem_cons.mp hw).elim (fun e => e ▸ h) id
  exact ⟨List.mem_cons_of_mem _ this, wAll_good this⟩
theorem gV {c0 cy : Cond} {own : String} {idx : Nat} {C : String} {y : MethodName} (h : cy ∈ wAll) (h1 : Cond.methodLink own idx y ∈ wAll) (h2 : Cond.instanceMethod y ∈ wAll) (h3 : Cond.selects C y y ∈ wAll) (h4 : Cond.initialized C ∈ wAll) : GoodIn (c0 :: wAll) (wsV own idx C y (cy :: wAll)) := by
  intro w hw
  have : w ∈ wAll := by
    unfold wsV at hw
    simp only [List.cons_append, List.nil_append, List.mem_cons] at hw
    rcases hw with rfl | rfl | rfl | rfl | rfl | hw <;> assumption
  exact ⟨List.mem_cons_of_mem _ this, wAll_good this⟩
theorem gS {c0 cy : Cond} {own : String} {idx : Nat} {y : MethodName} (h : cy ∈ wAll) (h1 : Cond.methodLink own idx y ∈ wAll) (h2 : Cond.static y ∈ wAll) (h3 : Cond.initialized y.cls ∈ wAll) : GoodIn (c0 :: wAll) (va_wsS own idx y (cy :: wAll)) := by
  intro w hw
  have : w ∈ wAll := by
    unfold va_wsS at hw
    simp only [List.cons_append, List.nil_append, List.mem_cons] at hw
    rcases hw with rfl | rfl | rfl | rfl | hw <;> assumption
  exact ⟨List.mem_cons_of_mem _ this, wAll_good this⟩
theorem wq_46 : (Cond.classLink RL 7 RX6) ∈ wAll := in_t1 15 rfl rfl
theorem wq_47 : (Cond.instantiable RX6 5) ∈ wAll := in_t1 16 rfl rfl
theorem wq_32 : (Cond.initialized RX6) ∈ wAll := in_t1 1 rfl rfl
theorem wq_667 : (Cond.classLink RL 10 RX7) ∈ wAll := in_t3 156 rfl rfl
theorem wq_668 : (Cond.instantiable RX7 29) ∈ wAll := in_t3 157 rfl rfl
theorem wq_45 : (Cond.initialized RX7) ∈ wAll := in_t1 14 rfl rfl
theorem wq_48 : (Cond.methodLink RL 9 yX6_init) ∈ wAll := in_t1 17 rfl rfl
theorem wq_49 : (Cond.instanceMethod yX6_init) ∈ wAll := in_t1 18 rfl rfl
theorem wq_50 : (Cond.code yX6_init cX6_init 1 none) ∈ wAll := in_t1 19 rfl rfl
theorem wq_51 : (Cond.methodLink RX6 3 objectInit) ∈ wAll := in_t1 20 rfl rfl
theorem wq_52 : (Cond.instanceMethod objectInit) ∈ wAll := in_t1 21 rfl rfl
theorem wq_53 : (Cond.code objectInit ⟨#[0xb1]⟩ 1 none) ∈ wAll := in_t1 22 rfl rfl
theorem wq_54 : (Cond.classLink RX6 9 RX1) ∈ wAll := in_t1 23 rfl rfl
theorem wq_55 : (Cond.instantiable RX1 7) ∈ wAll := in_t1 24 rfl rfl
theorem wq_33 : (Cond.initialized RX1) ∈ wAll := in_t1 2 rfl rfl
theorem wq_317 : (Cond.fieldLink RX6 12 "TagTower" "counters" "LTagTower$Counters;") ∈ wAll := in_t2 46 rfl rfl
theorem wq_83 : (Cond.classLink RX6 16 RX3) ∈ wAll := in_t1 52 rfl rfl
theorem wq_84 : (Cond.instantiable RX3 9) ∈ wAll := in_t1 53 rfl rfl
theorem wq_34 : (Cond.initialized RX3) ∈ wAll := in_t1 3 rfl rfl
theorem wq_318 : (Cond.fieldLink RX6 19 "TagTower" "machine" "LTagTower$Machine;") ∈ wAll := in_t2 47 rfl rfl
theorem wq_122 : (Cond.classLink RX6 23 RX4) ∈ wAll := in_t1 91 rfl rfl
theorem wq_123 : (Cond.instantiable RX4 2) ∈ wAll := in_t1 92 rfl rfl
theorem wq_35 : (Cond.initialized RX4) ∈ wAll := in_t1 4 rfl rfl
theorem wq_319 : (Cond.fieldLink RX6 26 "TagTower" "productions" "LTagTower$Productions;") ∈ wAll := in_t2 48 rfl rfl
theorem wq_266 : (Cond.classLink RX6 30 RX5) ∈ wAll := in_t1 235 rfl rfl
theorem wq_267 : (Cond.instantiable RX5 2) ∈ wAll := in_t1 236 rfl rfl
theorem wq_42 : (Cond.initialized RX5) ∈ wAll := in_t1 11 rfl rfl
theorem wq_320 : (Cond.fieldLink RX6 33 "TagTower" "word" "LTagTower$Word;") ∈ wAll := in_t2 49 rfl rfl
theorem wq_300 : (Cond.classLink RX6 37 RX0) ∈ wAll := in_t2 29 rfl rfl
theorem wq_301 : (Cond.instantiable RX0 2) ∈ wAll := in_t2 30 rfl rfl
theorem wq_44 : (Cond.initialized RX0) ∈ wAll := in_t1 13 rfl rfl
theorem wq_321 : (Cond.fieldLink RX6 40 "TagTower" "bitRow" "LTagTower$Bits;") ∈ wAll := in_t2 50 rfl rfl
theorem wq_57 : (Cond.instanceMethod yX1_init) ∈ wAll := in_t1 26 rfl rfl
theorem wq_58 : (Cond.code yX1_init cX1_init 1 none) ∈ wAll := in_t1 27 rfl rfl
theorem wq_59 : (Cond.methodLink RX1 3 objectInit) ∈ wAll := in_t1 28 rfl rfl
theorem wq_82 : (Cond.arrayClass .int) ∈ wAll := in_t1 51 rfl rfl
theorem wq_60 : (Cond.fieldLink RX1 9 "TagTower$Counters" "values" "[I") ∈ wAll := in_t1 29 rfl rfl
theorem wq_61 : (Cond.fieldLink RX1 15 "TagTower$Counters" "ops" "[I") ∈ wAll := in_t1 30 rfl rfl
theorem wq_62 : (Cond.fieldLink RX1 18 "TagTower$Counters" "worked" "[I") ∈ wAll := in_t1 31 rfl rfl
theorem wq_63 : (Cond.fieldLink RX1 21 "TagTower$Counters" "onward" "[I") ∈ wAll := in_t1 32 rfl rfl
theorem wq_64 : (Cond.fieldLink RX1 24 "TagTower$Counters" "ifZero" "[I") ∈ wAll := in_t1 33 rfl rfl
theorem wq_86 : (Cond.instanceMethod yX3_init) ∈ wAll := in_t1 55 rfl rfl
theorem wq_87 : (Cond.code yX3_init cX3_init 1 none) ∈ wAll := in_t1 56 rfl rfl
theorem wq_88 : (Cond.methodLink RX3 3 objectInit) ∈ wAll := in_t1 57 rfl rfl
theorem wq_121 : (Cond.arrayClass .boolean) ∈ wAll := in_t1 90 rfl rfl
theorem wq_89 : (Cond.fieldLink RX3 9 "TagTower$Machine" "ruled" "[Z") ∈ wAll := in_t1 58 rfl rfl
theorem wq_90 : (Cond.fieldLink RX3 15 "TagTower$Machine" "signs" "[I") ∈ wAll := in_t1 59 rfl rfl
theorem wq_91 : (Cond.fieldLink RX3 19 "TagTower$Machine" "ways" "[I") ∈ wAll := in_t1 60 rfl rfl
theorem wq_92 : (Cond.fieldLink RX3 22 "TagTower$Machine" "states" "[I") ∈ wAll := in_t1 61 rfl rfl
theorem wq_124 : (Cond.methodLink RX6 25 yX4_init) ∈ wAll := in_t1 93 rfl rfl
theorem wq_125 : (Cond.instanceMethod yX4_init) ∈ wAll := in_t1 94 rfl rfl
theorem wq_126 : (Cond.code yX4_init cX4_init 2 none) ∈ wAll := in_t1 95 rfl rfl
theorem wq_127 : (Cond.methodLink RX4 3 objectInit) ∈ wAll := in_t1 96 rfl rfl
theorem wq_258 : (Cond.fieldLink RX4 9 "TagTower$Productions" "sizes" "[I") ∈ wAll := in_t1 227 rfl rfl
theorem wq_259 : (Cond.fieldLink RX4 15 "TagTower$Productions" "letters" "[I") ∈ wAll := in_t1 228 rfl rfl
theorem wq_128 : (Cond.methodLink RX4 18 yX4_followNone) ∈ wAll := in_t1 97 rfl rfl
theorem wq_129 : (Cond.instanceMethod yX4_followNone) ∈ wAll := in_t1 98 rfl rfl
theorem wq_130 : (Cond.selects RX4 yX4_followNone yX4_followNone) ∈ wAll := in_t1 99 rfl rfl
theorem wq_131 : (Cond.code yX4_followNone cX4_followNone 3 none) ∈ wAll := in_t1 100 rfl rfl
theorem wq_133 : (Cond.methodLink RX4 24 yX4_write) ∈ wAll := in_t1 102 rfl rfl
theorem wq_135 : (Cond.instanceMethod yX4_write) ∈ wAll := in_t1 104 rfl rfl
theorem wq_0 : (Cond.selects RX4 yX4_write yX4_write) ∈ wAll := in_all 0 rfl rfl
theorem wq_136 : (Cond.code yX4_write cX4_write 8 none) ∈ wAll := in_t1 105 rfl rfl
theorem wq_137 : (Cond.methodLink RX4 40 yJ0_length_8abf5) ∈ wAll := in_t1 106 rfl rfl
theorem wq_138 : (Cond.instanceMethod yJ0_length_8abf5) ∈ wAll := in_t1 107 rfl rfl
theorem wq_139 : (Cond.selects RJ0 yJ0_length_8abf5 yJ0_length_8abf5) ∈ wAll := in_t1 108 rfl rfl
theorem wq_36 : (Cond.initialized RJ0) ∈ wAll := in_t1 5 rfl rfl
theorem wq_140 : (Cond.code yJ0_length_8abf5 cJ0_length_8abf5 1 (some .int)) ∈ wAll := in_t1 109 rfl rfl
theorem wq_955 : (Cond.fieldLink RJ0 9 "java/lang/String" "value" "[B") ∈ wAll := in_t4 204 rfl rfl
theorem wq_141 : (Cond.methodLink RJ0 335 yJ0_coder_7d493) ∈ wAll := in_t1 110 rfl rfl
theorem wq_142 : (Cond.instanceMethod yJ0_coder_7d493) ∈ wAll := in_t1 111 rfl rfl
theorem wq_143 : (Cond.selects RJ0 yJ0_coder_7d493 yJ0_coder_7d493) ∈ wAll := in_t1 112 rfl rfl
theorem wq_144 : (Cond.code yJ0_coder_7d493 cJ0_coder_7d493 1 (some .byte)) ∈ wAll := in_t1 113 rfl rfl
theorem wq_145 : (Cond.fieldLink RJ0 38 "java/lang/String" "COMPACT_STRINGS" "Z") ∈ wAll := in_t1 114 rfl rfl
theorem wq_956 : (Cond.fieldLink RJ0 15 "java/lang/String" "coder" "B") ∈ wAll := in_t4 205 rfl rfl
theorem wq_147 : (Cond.methodLink RX4 46 yJ0_charAt_5068e) ∈ wAll := in_t1 116 rfl rfl
theorem wq_148 : (Cond.instanceMethod yJ0_charAt_5068e) ∈ wAll := in_t1 117 rfl rfl
theorem wq_149 : (Cond.selects RJ0 yJ0_charAt_5068e yJ0_charAt_5068e) ∈ wAll := in_t1 118 rfl rfl
theorem wq_150 : (Cond.code yJ0_charAt_5068e cJ0_charAt_5068e 2 (some .char)) ∈ wAll := in_t1 119 rfl rfl
theorem wq_151 : (Cond.methodLink RJ0 492 yJ0_isLatin1_aae02) ∈ wAll := in_t1 120 rfl rfl
theorem wq_152 : (Cond.instanceMethod yJ0_isLatin1_aae02) ∈ wAll := in_t1 121 rfl rfl
theorem wq_153 : (Cond.selects RJ0 yJ0_isLatin1_aae02 yJ0_isLatin1_aae02) ∈ wAll := in_t1 122 rfl rfl
theorem wq_154 : (Cond.code yJ0_isLatin1_aae02 cJ0_isLatin1_aae02 1 (some .boolean)) ∈ wAll := in_t1 123 rfl rfl
theorem wq_155 : (Cond.methodLink RJ0 495 yJ1_charAt_3b067) ∈ wAll := in_t1 124 rfl rfl
theorem wq_156 : (Cond.static yJ1_charAt_3b067) ∈ wAll := in_t1 125 rfl rfl
theorem wq_37 : (Cond.initialized RJ1) ∈ wAll := in_t1 6 rfl rfl
theorem wq_157 : (Cond.code yJ1_charAt_3b067 cJ1_charAt_3b067 2 (some .char)) ∈ wAll := in_t1 126 rfl rfl
theorem wq_158 : (Cond.methodLink RJ1 9 yJ0_checkIndex_df160) ∈ wAll := in_t1 127 rfl rfl
theorem wq_159 : (Cond.static yJ0_checkIndex_df160) ∈ wAll := in_t1 128 rfl rfl
theorem wq_160 : (Cond.code yJ0_checkIndex_df160 cJ0_checkIndex_df160 2 none) ∈ wAll := in_t1 129 rfl rfl
theorem wq_161 : (Cond.fieldLink RJ0 1053 "jdk/internal/util/Preconditions" "SIOOBE_FORMATTER" "Ljava/util/function/BiFunction;") ∈ wAll := in_t1 130 rfl rfl
theorem wq_163 : (Cond.methodLink RJ0 1059 yJ3_checkIndex_8e157) ∈ wAll := in_t1 132 rfl rfl
theorem wq_164 : (Cond.static yJ3_checkIndex_8e157) ∈ wAll := in_t1 133 rfl rfl
theorem wq_38 : (Cond.initialized RJ3) ∈ wAll := in_t1 7 rfl rfl
theorem wq_165 : (Cond.code yJ3_checkIndex_8e157 cJ3_checkIndex_8e157 3 (some .int)) ∈ wAll := in_t1 134 rfl rfl
theorem wq_39 : (Cond.initialized RJ2) ∈ wAll := in_t1 8 rfl rfl
theorem wq_186 : (Cond.methodLink RX4 52 yJ0_indexOf_0f7a4) ∈ wAll := in_t1 155 rfl rfl
theorem wq_187 : (Cond.instanceMethod yJ0_indexOf_0f7a4) ∈ wAll := in_t1 156 rfl rfl
theorem wq_188 : (Cond.selects RJ0 yJ0_indexOf_0f7a4 yJ0_indexOf_0f7a4) ∈ wAll := in_t1 157 rfl rfl
theorem wq_189 : (Cond.code yJ0_indexOf_0f7a4 cJ0_indexOf_0f7a4 2 (some .int)) ∈ wAll := in_t1 158 rfl rfl
theorem wq_190 : (Cond.methodLink RJ0 633 yJ0_indexOf_7cf53) ∈ wAll := in_t1 159 rfl rfl
theorem wq_191 : (Cond.instanceMethod yJ0_indexOf_7cf53) ∈ wAll := in_t1 160 rfl rfl
theorem wq_192 : (Cond.selects RJ0 yJ0_indexOf_7cf53 yJ0_indexOf_7cf53) ∈ wAll := in_t1 161 rfl rfl
theorem wq_193 : (Cond.code yJ0_indexOf_7cf53 cJ0_indexOf_7cf53 3 (some .int)) ∈ wAll := in_t1 162 rfl rfl
theorem wq_194 : (Cond.methodLink RJ0 505 yJ0_length_8abf5) ∈ wAll := in_t1 163 rfl rfl
theorem wq_195 : (Cond.methodLink RJ0 637 yJ1_indexOf_4cfef) ∈ wAll := in_t1 164 rfl rfl
theorem wq_196 : (Cond.static yJ1_indexOf_4cfef) ∈ wAll := in_t1 165 rfl rfl
theorem wq_197 : (Cond.code yJ1_indexOf_4cfef cJ1_indexOf_4cfef 4 (some .int)) ∈ wAll := in_t1 166 rfl rfl
theorem wq_201 : (Cond.methodLink RJ1 92 Lib.Math.max.name) ∈ wAll := in_t1 170 rfl rfl
theorem wq_202 : (Cond.static Lib.Math.max.name) ∈ wAll := in_t1 171 rfl rfl
theorem wq_40 : (Cond.initialized "java/lang/Math") ∈ wAll := in_t1 9 rfl rfl
theorem wq_203 : (Cond.code Lib.Math.max.name Lib.Math.max.code 2 (some .int)) ∈ wAll := in_t1 172 rfl rfl
theorem wq_204 : (Cond.methodLink RJ1 38 Lib.Math.min.name) ∈ wAll := in_t1 173 rfl rfl
theorem wq_205 : (Cond.static Lib.Math.min.name) ∈ wAll := in_t1 174 rfl rfl
theorem wq_206 : (Cond.code Lib.Math.min.name Lib.Math.min.code 2 (some .int)) ∈ wAll := in_t1 175 rfl rfl
theorem wq_198 : (Cond.methodLink RJ1 88 yJ1_canEncode_9a6ad) ∈ wAll := in_t1 167 rfl rfl
theorem wq_199 : (Cond.static yJ1_canEncode_9a6ad) ∈ wAll := in_t1 168 rfl rfl
theorem wq_200 : (Cond.code yJ1_canEncode_9a6ad cJ1_canEncode_9a6ad 1 (some .boolean)) ∈ wAll := in_t1 169 rfl rfl
theorem wq_207 : (Cond.methodLink RJ1 95 yJ1_indexOfChar_4cfef) ∈ wAll := in_t1 176 rfl rfl
theorem wq_208 : (Cond.static yJ1_indexOfChar_4cfef) ∈ wAll := in_t1 177 rfl rfl
theorem wq_209 : (Cond.code yJ1_indexOfChar_4cfef cJ1_indexOfChar_4cfef 6 (some .int)) ∈ wAll := in_t1 178 rfl rfl
theorem wq_223 : (Cond.static yJ0_checkBoundsBeginEnd_23922) ∈ wAll := in_t1 192 rfl rfl
theorem wq_224 : (Cond.code yJ0_checkBoundsBeginEnd_23922 cJ0_checkBoundsBeginEnd_23922 3 none) ∈ wAll := in_t1 193 rfl rfl
theorem wq_225 : (Cond.methodLink RJ0 1062 yJ3_checkFromToIndex_8c36e) ∈ wAll := in_t1 194 rfl rfl
theorem wq_226 : (Cond.static yJ3_checkFromToIndex_8c36e) ∈ wAll := in_t1 195 rfl rfl
theorem wq_227 : (Cond.code yJ3_checkFromToIndex_8c36e cJ3_checkFromToIndex_8c36e 4 (some .int)) ∈ wAll := in_t1 196 rfl rfl
theorem wq_41 : (Cond.initialized RJ11) ∈ wAll := in_t1 10 rfl rfl
theorem wq_245 : (Cond.methodLink RX4 56 yX4_number) ∈ wAll := in_t1 214 rfl rfl
theorem wq_246 : (Cond.static yX4_number) ∈ wAll := in_t1 215 rfl rfl
theorem wq_247 : (Cond.code yX4_number cX4_number 2 (some .int)) ∈ wAll := in_t1 216 rfl rfl
theorem wq_248 : (Cond.methodLink RX4 60 yX4_pairMarked) ∈ wAll := in_t1 217 rfl rfl
theorem wq_249 : (Cond.static yX4_pairMarked) ∈ wAll := in_t1 218 rfl rfl
theorem wq_250 : (Cond.code yX4_pairMarked cX4_pairMarked 3 (some .int)) ∈ wAll := in_t1 219 rfl rfl
theorem wq_252 : (Cond.static yX6_pairOf) ∈ wAll := in_t1 221 rfl rfl
theorem wq_253 : (Cond.code yX6_pairOf cX6_pairOf 2 (some .int)) ∈ wAll := in_t1 222 rfl rfl
theorem wq_254 : (Cond.methodLink RX4 64 yX4_append) ∈ wAll := in_t1 223 rfl rfl
theorem wq_256 : (Cond.instanceMethod yX4_append) ∈ wAll := in_t1 225 rfl rfl
theorem wq_1 : (Cond.selects RX4 yX4_append yX4_append) ∈ wAll := in_all 1 rfl rfl
theorem wq_257 : (Cond.code yX4_append cX4_append 3 none) ∈ wAll := in_t1 226 rfl rfl
theorem wq_269 : (Cond.instanceMethod yX5_init) ∈ wAll := in_t1 238 rfl rfl
theorem wq_270 : (Cond.code yX5_init cX5_init 1 none) ∈ wAll := in_t1 239 rfl rfl
theorem wq_271 : (Cond.methodLink RX5 3 objectInit) ∈ wAll := in_t2 0 rfl rfl
theorem wq_272 : (Cond.classLink RX5 9 RX2) ∈ wAll := in_t2 1 rfl rfl
theorem wq_273 : (Cond.instantiable RX2 3) ∈ wAll := in_t2 2 rfl rfl
theorem wq_43 : (Cond.initialized RX2) ∈ wAll := in_t1 12 rfl rfl
theorem wq_292 : (Cond.fieldLink RX5 14 "TagTower$Word" "row" "LTagTower$LetterRow;") ∈ wAll := in_t2 21 rfl rfl
theorem wq_294 : (Cond.fieldLink RX5 20 "TagTower$Word" "kept" "LTagTower$LetterRow;") ∈ wAll := in_t2 23 rfl rfl
theorem wq_274 : (Cond.methodLink RX5 11 yX2_init) ∈ wAll := in_t2 3 rfl rfl
theorem wq_275 : (Cond.instanceMethod yX2_init) ∈ wAll := in_t2 4 rfl rfl
theorem wq_276 : (Cond.code yX2_init cX2_init 2 none) ∈ wAll := in_t2 5 rfl rfl
theorem wq_277 : (Cond.methodLink RX2 3 objectInit) ∈ wAll := in_t2 6 rfl rfl
theorem wq_278 : (Cond.methodLink RX2 9 Lib.Math.max.name) ∈ wAll := in_t2 7 rfl rfl
theorem wq_279 : (Cond.fieldLink RX2 15 "TagTower$LetterRow" "cells" "[I") ∈ wAll := in_t2 8 rfl rfl
theorem wq_303 : (Cond.instanceMethod yX0_init) ∈ wAll := in_t2 32 rfl rfl
theorem wq_304 : (Cond.code yX0_init cX0_init 1 none) ∈ wAll := in_t2 33 rfl rfl
theorem wq_305 : (Cond.methodLink RX0 3 objectInit) ∈ wAll := in_t2 34 rfl rfl
theorem wq_306 : (Cond.classLink RX0 9 RX2) ∈ wAll := in_t2 35 rfl rfl
theorem wq_308 : (Cond.fieldLink RX0 14 "TagTower$Bits" "row" "LTagTower$LetterRow;") ∈ wAll := in_t2 37 rfl rfl
theorem wq_307 : (Cond.methodLink RX0 11 yX2_init) ∈ wAll := in_t2 36 rfl rfl
theorem wq_669 : (Cond.methodLink RL 12 yX7_init) ∈ wAll := in_t3 158 rfl rfl
theorem wq_670 : (Cond.instanceMethod yX7_init) ∈ wAll := in_t3 159 rfl rfl
theorem wq_671 : (Cond.code yX7_init cX7_init 1 none) ∈ wAll := in_t3 160 rfl rfl
theorem wq_672 : (Cond.methodLink RX7 1 objectInit) ∈ wAll := in_t3 161 rfl rfl
theorem wq_675 : (Cond.fieldLink RX7 7 "TagTowerModel" "counter" "[I") ∈ wAll := in_t3 164 rfl rfl
theorem wq_677 : (Cond.fieldLink RX7 13 "TagTowerModel" "op" "[I") ∈ wAll := in_t3 166 rfl rfl
theorem wq_678 : (Cond.fieldLink RX7 16 "TagTowerModel" "which" "[I") ∈ wAll := in_t3 167 rfl rfl
theorem wq_679 : (Cond.fieldLink RX7 19 "TagTowerModel" "then" "[I") ∈ wAll := in_t3 168 rfl rfl
theorem wq_680 : (Cond.fieldLink RX7 22 "TagTowerModel" "other" "[I") ∈ wAll := in_t3 169 rfl rfl
theorem wq_682 : (Cond.fieldLink RX7 25 "TagTowerModel" "writes" "[I") ∈ wAll := in_t3 171 rfl rfl
theorem wq_683 : (Cond.fieldLink RX7 28 "TagTowerModel" "way" "[I") ∈ wAll := in_t3 172 rfl rfl
theorem wq_684 : (Cond.fieldLink RX7 31 "TagTowerModel" "goes" "[I") ∈ wAll := in_t3 173 rfl rfl
theorem wq_691 : (Cond.fieldLink RX7 34 "TagTowerModel" "word" "[I") ∈ wAll := in_t3 180 rfl rfl
theorem wq_693 : (Cond.fieldLink RX7 37 "TagTowerModel" "saved" "[I") ∈ wAll := in_t3 182 rfl rfl
theorem wq_673 : (Cond.constant RX7 40 (80001)) ∈ wAll := in_t3 162 rfl rfl
theorem wq_696 : (Cond.fieldLink RX7 41 "TagTowerModel" "bits" "[I") ∈ wAll := in_t3 185 rfl rfl
theorem wq_699 : (Cond.fieldLink RX7 44 "TagTowerModel" "makes" "[I") ∈ wAll := in_t3 188 rfl rfl
theorem wq_333 : (Cond.methodLink RL 13 yX6_line) ∈ wAll := in_t2 62 rfl rfl
theorem wq_334 : (Cond.instanceMethod yX6_line) ∈ wAll := in_t2 63 rfl rfl
theorem wq_335 : (Cond.selects RX6 yX6_line yX6_line) ∈ wAll := in_t2 64 rfl rfl
theorem wq_336 : (Cond.code yX6_line cX6_line 5 (some .int)) ∈ wAll := in_t2 65 rfl rfl
theorem wq_337 : (Cond.methodLink RX6 44 yX6_outside) ∈ wAll := in_t2 66 rfl rfl
theorem wq_338 : (Cond.static yX6_outside) ∈ wAll := in_t2 67 rfl rfl
theorem wq_339 : (Cond.code yX6_outside cX6_outside 3 (some .boolean)) ∈ wAll := in_t2 68 rfl rfl
theorem wq_340 : (Cond.methodLink RX6 48 yX1_addLine) ∈ wAll := in_t2 69 rfl rfl
theorem wq_341 : (Cond.instanceMethod yX1_addLine) ∈ wAll := in_t2 70 rfl rfl
theorem wq_342 : (Cond.selects RX1 yX1_addLine yX1_addLine) ∈ wAll := in_t2 71 rfl rfl
theorem wq_343 : (Cond.code yX1_addLine cX1_addLine 5 (some .int)) ∈ wAll := in_t2 72 rfl rfl
theorem wq_65 : (Cond.fieldLink RX1 27 "TagTower$Counters" "lines" "I") ∈ wAll := in_t1 34 rfl rfl
theorem wq_762 : (Cond.methodLink RL 17 yX7_line) ∈ wAll := in_t4 11 rfl rfl
theorem wq_763 : (Cond.instanceMethod yX7_line) ∈ wAll := in_t4 12 rfl rfl
theorem wq_764 : (Cond.selects RX7 yX7_line yX7_line) ∈ wAll := in_t4 13 rfl rfl
theorem wq_765 : (Cond.code yX7_line cX7_line 5 (some .int)) ∈ wAll := in_t4 14 rfl rfl
theorem wq_674 : (Cond.fieldLink RX7 47 "TagTowerModel" "thrown" "I") ∈ wAll := in_t3 163 rfl rfl
theorem wq_766 : (Cond.constantLong RX7 51 (2)) ∈ wAll := in_t4 15 rfl rfl
theorem wq_770 : (Cond.constantLong RX7 57 (3)) ∈ wAll := in_t4 19 rfl rfl
theorem wq_771 : (Cond.constantLong RX7 59 (24)) ∈ wAll := in_t4 20 rfl rfl
theorem wq_676 : (Cond.fieldLink RX7 61 "TagTowerModel" "lines" "I") ∈ wAll := in_t3 165 rfl rfl
theorem wq_767 : (Cond.methodLink RX7 53 yX7_in) ∈ wAll := in_t4 16 rfl rfl
theorem wq_768 : (Cond.static yX7_in) ∈ wAll := in_t4 17 rfl rfl
theorem wq_769 : (Cond.code yX7_in cX7_in 6 (some .boolean)) ∈ wAll := in_t4 18 rfl rfl
theorem wq_344 : (Cond.methodLink RL 18 yX6_wipe) ∈ wAll := in_t2 73 rfl rfl
theorem wq_345 : (Cond.instanceMethod yX6_wipe) ∈ wAll := in_t2 74 rfl rfl
theorem wq_346 : (Cond.selects RX6 yX6_wipe yX6_wipe) ∈ wAll := in_t2 75 rfl rfl
theorem wq_347 : (Cond.code yX6_wipe cX6_wipe 1 (some .int)) ∈ wAll := in_t2 76 rfl rfl
theorem wq_348 : (Cond.methodLink RX6 52 yX1_forgetLines) ∈ wAll := in_t2 77 rfl rfl
theorem wq_349 : (Cond.instanceMethod yX1_forgetLines) ∈ wAll := in_t2 78 rfl rfl
theorem wq_350 : (Cond.selects RX1 yX1_forgetLines yX1_forgetLines) ∈ wAll := in_t2 79 rfl rfl
theorem wq_351 : (Cond.code yX1_forgetLines cX1_forgetLines 2 (some .int)) ∈ wAll := in_t2 80 rfl rfl
theorem wq_66 : (Cond.fieldLink RX1 31 "TagTower$Counters" "now" "I") ∈ wAll := in_t1 35 rfl rfl
theorem wq_772 : (Cond.methodLink RL 22 yX7_wipe) ∈ wAll := in_t4 21 rfl rfl
theorem wq_773 : (Cond.instanceMethod yX7_wipe) ∈ wAll := in_t4 22 rfl rfl
theorem wq_774 : (Cond.selects RX7 yX7_wipe yX7_wipe) ∈ wAll := in_t4 23 rfl rfl
theorem wq_775 : (Cond.code yX7_wipe cX7_wipe 2 (some .int)) ∈ wAll := in_t4 24 rfl rfl
theorem wq_681 : (Cond.fieldLink RX7 64 "TagTowerModel" "line" "I") ∈ wAll := in_t3 170 rfl rfl
theorem wq_352 : (Cond.methodLink RL 23 yX6_set) ∈ wAll := in_t2 81 rfl rfl
theorem wq_353 : (Cond.instanceMethod yX6_set) ∈ wAll := in_t2 82 rfl rfl
theorem wq_354 : (Cond.selects RX6 yX6_set yX6_set) ∈ wAll := in_t2 83 rfl rfl
theorem wq_355 : (Cond.code yX6_set cX6_set 3 (some .int)) ∈ wAll := in_t2 84 rfl rfl
theorem wq_356 : (Cond.methodLink RX6 56 yX1_putValue) ∈ wAll := in_t2 85 rfl rfl
theorem wq_357 : (Cond.instanceMethod yX1_putValue) ∈ wAll := in_t2 86 rfl rfl
theorem wq_358 : (Cond.selects RX1 yX1_putValue yX1_putValue) ∈ wAll := in_t2 87 rfl rfl
theorem wq_359 : (Cond.code yX1_putValue cX1_putValue 4 (some .int)) ∈ wAll := in_t2 88 rfl rfl
theorem wq_776 : (Cond.methodLink RL 27 yX7_set) ∈ wAll := in_t4 25 rfl rfl
theorem wq_777 : (Cond.instanceMethod yX7_set) ∈ wAll := in_t4 26 rfl rfl
theorem wq_778 : (Cond.selects RX7 yX7_set yX7_set) ∈ wAll := in_t4 27 rfl rfl
theorem wq_779 : (Cond.code yX7_set cX7_set 4 (some .int)) ∈ wAll := in_t4 28 rfl rfl
theorem wq_780 : (Cond.constantLong RX7 67 (1000)) ∈ wAll := in_t4 29 rfl rfl
theorem wq_360 : (Cond.methodLink RL 28 yX6_counter) ∈ wAll := in_t2 89 rfl rfl
theorem wq_361 : (Cond.instanceMethod yX6_counter) ∈ wAll := in_t2 90 rfl rfl
theorem wq_362 : (Cond.selects RX6 yX6_counter yX6_counter) ∈ wAll := in_t2 91 rfl rfl
theorem wq_363 : (Cond.code yX6_counter cX6_counter 2 (some .int)) ∈ wAll := in_t2 92 rfl rfl
theorem wq_364 : (Cond.methodLink RX6 60 yX1_value) ∈ wAll := in_t2 93 rfl rfl
theorem wq_365 : (Cond.instanceMethod yX1_value) ∈ wAll := in_t2 94 rfl rfl
theorem wq_366 : (Cond.selects RX1 yX1_value yX1_value) ∈ wAll := in_t2 95 rfl rfl
theorem wq_367 : (Cond.code yX1_value cX1_value 2 (some .int)) ∈ wAll := in_t2 96 rfl rfl
theorem wq_781 : (Cond.methodLink RL 32 yX7_counter) ∈ wAll := in_t4 30 rfl rfl
theorem wq_782 : (Cond.instanceMethod yX7_counter) ∈ wAll := in_t4 31 rfl rfl
theorem wq_783 : (Cond.selects RX7 yX7_counter yX7_counter) ∈ wAll := in_t4 32 rfl rfl
theorem wq_784 : (Cond.code yX7_counter cX7_counter 2 (some .int)) ∈ wAll := in_t4 33 rfl rfl
theorem wq_368 : (Cond.methodLink RL 33 yX6_count) ∈ wAll := in_t2 97 rfl rfl
theorem wq_369 : (Cond.instanceMethod yX6_count) ∈ wAll := in_t2 98 rfl rfl
theorem wq_370 : (Cond.selects RX6 yX6_count yX6_count) ∈ wAll := in_t2 99 rfl rfl
theorem wq_371 : (Cond.code yX6_count cX6_count 2 (some .int)) ∈ wAll := in_t2 100 rfl rfl
theorem wq_372 : (Cond.methodLink RX6 64 yX1_doLines) ∈ wAll := in_t2 101 rfl rfl
theorem wq_373 : (Cond.instanceMethod yX1_doLines) ∈ wAll := in_t2 102 rfl rfl
theorem wq_374 : (Cond.selects RX1 yX1_doLines yX1_doLines) ∈ wAll := in_t2 103 rfl rfl
theorem wq_375 : (Cond.code yX1_doLines cX1_doLines 3 (some .int)) ∈ wAll := in_t2 104 rfl rfl
theorem wq_376 : (Cond.methodLink RX1 34 yX1_doLine) ∈ wAll := in_t2 105 rfl rfl
theorem wq_378 : (Cond.instanceMethod yX1_doLine) ∈ wAll := in_t2 107 rfl rfl
theorem wq_2 : (Cond.selects RX1 yX1_doLine yX1_doLine) ∈ wAll := in_all 2 rfl rfl
theorem wq_379 : (Cond.code yX1_doLine cX1_doLine 1 (some .boolean)) ∈ wAll := in_t2 108 rfl rfl
theorem wq_381 : (Cond.methodLink RX1 42 yX1_countUp) ∈ wAll := in_t2 110 rfl rfl
theorem wq_383 : (Cond.instanceMethod yX1_countUp) ∈ wAll := in_t2 112 rfl rfl
theorem wq_3 : (Cond.selects RX1 yX1_countUp yX1_countUp) ∈ wAll := in_all 3 rfl rfl
theorem wq_384 : (Cond.code yX1_countUp cX1_countUp 2 (some .boolean)) ∈ wAll := in_t2 113 rfl rfl
theorem wq_385 : (Cond.methodLink RX1 46 yX1_countDown) ∈ wAll := in_t2 114 rfl rfl
theorem wq_387 : (Cond.instanceMethod yX1_countDown) ∈ wAll := in_t2 116 rfl rfl
theorem wq_4 : (Cond.selects RX1 yX1_countDown yX1_countDown) ∈ wAll := in_all 4 rfl rfl
theorem wq_388 : (Cond.code yX1_countDown cX1_countDown 2 (some .boolean)) ∈ wAll := in_t2 117 rfl rfl
theorem wq_785 : (Cond.methodLink RL 36 yX7_count) ∈ wAll := in_t4 34 rfl rfl
theorem wq_786 : (Cond.instanceMethod yX7_count) ∈ wAll := in_t4 35 rfl rfl
theorem wq_787 : (Cond.selects RX7 yX7_count yX7_count) ∈ wAll := in_t4 36 rfl rfl
theorem wq_788 : (Cond.code yX7_count cX7_count 4 (some .int)) ∈ wAll := in_t4 37 rfl rfl
theorem wq_789 : (Cond.constantLong RX7 69 (5000)) ∈ wAll := in_t4 38 rfl rfl
theorem wq_790 : (Cond.methodLink RX7 71 yX7_mayDo) ∈ wAll := in_t4 39 rfl rfl
theorem wq_792 : (Cond.instanceMethod yX7_mayDo) ∈ wAll := in_t4 41 rfl rfl
theorem wq_15 : (Cond.selects RX7 yX7_mayDo yX7_mayDo) ∈ wAll := in_all 15 rfl rfl
theorem wq_793 : (Cond.code yX7_mayDo cX7_mayDo 1 (some .boolean)) ∈ wAll := in_t4 42 rfl rfl
theorem wq_389 : (Cond.methodLink RL 37 yX6_at) ∈ wAll := in_t2 118 rfl rfl
theorem wq_390 : (Cond.instanceMethod yX6_at) ∈ wAll := in_t2 119 rfl rfl
theorem wq_391 : (Cond.selects RX6 yX6_at yX6_at) ∈ wAll := in_t2 120 rfl rfl
theorem wq_392 : (Cond.code yX6_at cX6_at 1 (some .int)) ∈ wAll := in_t2 121 rfl rfl
theorem wq_393 : (Cond.methodLink RX6 67 yX1_lineNow) ∈ wAll := in_t2 122 rfl rfl
theorem wq_394 : (Cond.instanceMethod yX1_lineNow) ∈ wAll := in_t2 123 rfl rfl
theorem wq_395 : (Cond.selects RX1 yX1_lineNow yX1_lineNow) ∈ wAll := in_t2 124 rfl rfl
theorem wq_396 : (Cond.code yX1_lineNow cX1_lineNow 1 (some .int)) ∈ wAll := in_t2 125 rfl rfl
theorem wq_794 : (Cond.methodLink RL 40 yX7_at) ∈ wAll := in_t4 43 rfl rfl
theorem wq_795 : (Cond.instanceMethod yX7_at) ∈ wAll := in_t4 44 rfl rfl
theorem wq_796 : (Cond.selects RX7 yX7_at yX7_at) ∈ wAll := in_t4 45 rfl rfl
theorem wq_797 : (Cond.code yX7_at cX7_at 1 (some .int)) ∈ wAll := in_t4 46 rfl rfl
theorem wq_397 : (Cond.methodLink RL 41 yX6_go) ∈ wAll := in_t2 126 rfl rfl
theorem wq_398 : (Cond.instanceMethod yX6_go) ∈ wAll := in_t2 127 rfl rfl
theorem wq_399 : (Cond.selects RX6 yX6_go yX6_go) ∈ wAll := in_t2 128 rfl rfl
theorem wq_400 : (Cond.code yX6_go cX6_go 2 (some .int)) ∈ wAll := in_t2 129 rfl rfl
theorem wq_401 : (Cond.methodLink RX6 70 yX1_jump) ∈ wAll := in_t2 130 rfl rfl
theorem wq_402 : (Cond.instanceMethod yX1_jump) ∈ wAll := in_t2 131 rfl rfl
theorem wq_403 : (Cond.selects RX1 yX1_jump yX1_jump) ∈ wAll := in_t2 132 rfl rfl
theorem wq_404 : (Cond.code yX1_jump cX1_jump 3 (some .int)) ∈ wAll := in_t2 133 rfl rfl
theorem wq_798 : (Cond.methodLink RL 44 yX7_go) ∈ wAll := in_t4 47 rfl rfl
theorem wq_799 : (Cond.instanceMethod yX7_go) ∈ wAll := in_t4 48 rfl rfl
theorem wq_800 : (Cond.selects RX7 yX7_go yX7_go) ∈ wAll := in_t4 49 rfl rfl
theorem wq_801 : (Cond.code yX7_go cX7_go 3 (some .int)) ∈ wAll := in_t4 50 rfl rfl
theorem wq_405 : (Cond.methodLink RL 45 yX6_rule) ∈ wAll := in_t2 134 rfl rfl
theorem wq_406 : (Cond.instanceMethod yX6_rule) ∈ wAll := in_t2 135 rfl rfl
theorem wq_407 : (Cond.selects RX6 yX6_rule yX6_rule) ∈ wAll := in_t2 136 rfl rfl
theorem wq_408 : (Cond.code yX6_rule cX6_rule 7 (some .int)) ∈ wAll := in_t2 137 rfl rfl
theorem wq_409 : (Cond.methodLink RX6 73 yX6_pairOf) ∈ wAll := in_t2 138 rfl rfl
theorem wq_410 : (Cond.methodLink RX6 76 yX4_follow) ∈ wAll := in_t2 139 rfl rfl
theorem wq_411 : (Cond.instanceMethod yX4_follow) ∈ wAll := in_t2 140 rfl rfl
theorem wq_412 : (Cond.selects RX4 yX4_follow yX4_follow) ∈ wAll := in_t2 141 rfl rfl
theorem wq_413 : (Cond.code yX4_follow cX4_follow 6 none) ∈ wAll := in_t2 142 rfl rfl
theorem wq_419 : (Cond.methodLink RX6 80 yX3_putRule) ∈ wAll := in_t2 148 rfl rfl
theorem wq_420 : (Cond.instanceMethod yX3_putRule) ∈ wAll := in_t2 149 rfl rfl
theorem wq_421 : (Cond.selects RX3 yX3_putRule yX3_putRule) ∈ wAll := in_t2 150 rfl rfl
theorem wq_422 : (Cond.code yX3_putRule cX3_putRule 5 (some .int)) ∈ wAll := in_t2 151 rfl rfl
theorem wq_93 : (Cond.fieldLink RX3 25 "TagTower$Machine" "rules" "I") ∈ wAll := in_t1 62 rfl rfl
theorem wq_802 : (Cond.methodLink RL 49 yX7_rule) ∈ wAll := in_t4 51 rfl rfl
theorem wq_803 : (Cond.instanceMethod yX7_rule) ∈ wAll := in_t4 52 rfl rfl
theorem wq_804 : (Cond.selects RX7 yX7_rule yX7_rule) ∈ wAll := in_t4 53 rfl rfl
theorem wq_805 : (Cond.code yX7_rule cX7_rule 9 (some .int)) ∈ wAll := in_t4 54 rfl rfl
theorem wq_806 : (Cond.methodLink RX7 75 yX7_isPair) ∈ wAll := in_t4 55 rfl rfl
theorem wq_807 : (Cond.static yX7_isPair) ∈ wAll := in_t4 56 rfl rfl
theorem wq_808 : (Cond.code yX7_isPair cX7_isPair 2 (some .boolean)) ∈ wAll := in_t4 57 rfl rfl
theorem wq_423 : (Cond.methodLink RL 50 yX6_unrule) ∈ wAll := in_t2 152 rfl rfl
theorem wq_424 : (Cond.instanceMethod yX6_unrule) ∈ wAll := in_t2 153 rfl rfl
theorem wq_425 : (Cond.selects RX6 yX6_unrule yX6_unrule) ∈ wAll := in_t2 154 rfl rfl
theorem wq_426 : (Cond.code yX6_unrule cX6_unrule 4 (some .int)) ∈ wAll := in_t2 155 rfl rfl
theorem wq_427 : (Cond.methodLink RX6 83 yX4_followNone) ∈ wAll := in_t2 156 rfl rfl
theorem wq_428 : (Cond.methodLink RX6 87 yX3_dropRule) ∈ wAll := in_t2 157 rfl rfl
theorem wq_429 : (Cond.instanceMethod yX3_dropRule) ∈ wAll := in_t2 158 rfl rfl
theorem wq_430 : (Cond.selects RX3 yX3_dropRule yX3_dropRule) ∈ wAll := in_t2 159 rfl rfl
theorem wq_431 : (Cond.code yX3_dropRule cX3_dropRule 2 (some .int)) ∈ wAll := in_t2 160 rfl rfl
theorem wq_809 : (Cond.methodLink RL 53 yX7_unrule) ∈ wAll := in_t4 58 rfl rfl
theorem wq_810 : (Cond.instanceMethod yX7_unrule) ∈ wAll := in_t4 59 rfl rfl
theorem wq_811 : (Cond.selects RX7 yX7_unrule yX7_unrule) ∈ wAll := in_t4 60 rfl rfl
theorem wq_812 : (Cond.code yX7_unrule cX7_unrule 4 (some .int)) ∈ wAll := in_t4 61 rfl rfl
theorem wq_432 : (Cond.methodLink RL 54 yX6_place) ∈ wAll := in_t2 161 rfl rfl
theorem wq_433 : (Cond.instanceMethod yX6_place) ∈ wAll := in_t2 162 rfl rfl
theorem wq_434 : (Cond.selects RX6 yX6_place yX6_place) ∈ wAll := in_t2 163 rfl rfl
theorem wq_435 : (Cond.code yX6_place cX6_place 5 (some .int)) ∈ wAll := in_t2 164 rfl rfl
theorem wq_436 : (Cond.constant RX6 90 (100000)) ∈ wAll := in_t2 165 rfl rfl
theorem wq_437 : (Cond.methodLink RX6 91 yX3_putPlace) ∈ wAll := in_t2 166 rfl rfl
theorem wq_438 : (Cond.instanceMethod yX3_putPlace) ∈ wAll := in_t2 167 rfl rfl
theorem wq_439 : (Cond.selects RX3 yX3_putPlace yX3_putPlace) ∈ wAll := in_t2 168 rfl rfl
theorem wq_440 : (Cond.code yX3_putPlace cX3_putPlace 5 none) ∈ wAll := in_t2 169 rfl rfl
theorem wq_94 : (Cond.fieldLink RX3 29 "TagTower$Machine" "state" "I") ∈ wAll := in_t1 63 rfl rfl
theorem wq_96 : (Cond.fieldLink RX3 32 "TagTower$Machine" "sign" "I") ∈ wAll := in_t1 65 rfl rfl
theorem wq_98 : (Cond.fieldLink RX3 35 "TagTower$Machine" "left" "I") ∈ wAll := in_t1 67 rfl rfl
theorem wq_100 : (Cond.fieldLink RX3 38 "TagTower$Machine" "right" "I") ∈ wAll := in_t1 69 rfl rfl
theorem wq_813 : (Cond.methodLink RL 57 yX7_place) ∈ wAll := in_t4 62 rfl rfl
theorem wq_814 : (Cond.instanceMethod yX7_place) ∈ wAll := in_t4 63 rfl rfl
theorem wq_815 : (Cond.selects RX7 yX7_place yX7_place) ∈ wAll := in_t4 64 rfl rfl
theorem wq_816 : (Cond.code yX7_place cX7_place 5 (some .int)) ∈ wAll := in_t4 65 rfl rfl
theorem wq_817 : (Cond.constantLong RX7 79 (100000)) ∈ wAll := in_t4 66 rfl rfl
theorem wq_685 : (Cond.fieldLink RX7 81 "TagTowerModel" "state" "I") ∈ wAll := in_t3 174 rfl rfl
theorem wq_686 : (Cond.fieldLink RX7 84 "TagTowerModel" "sign" "I") ∈ wAll := in_t3 175 rfl rfl
theorem wq_687 : (Cond.fieldLink RX7 87 "TagTowerModel" "left" "I") ∈ wAll := in_t3 176 rfl rfl
theorem wq_688 : (Cond.fieldLink RX7 90 "TagTowerModel" "right" "I") ∈ wAll := in_t3 177 rfl rfl
theorem wq_441 : (Cond.methodLink RL 58 yX6_move) ∈ wAll := in_t2 170 rfl rfl
theorem wq_442 : (Cond.instanceMethod yX6_move) ∈ wAll := in_t2 171 rfl rfl
theorem wq_443 : (Cond.selects RX6 yX6_move yX6_move) ∈ wAll := in_t2 172 rfl rfl
theorem wq_444 : (Cond.code yX6_move cX6_move 2 (some .int)) ∈ wAll := in_t2 173 rfl rfl
theorem wq_445 : (Cond.methodLink RX6 94 yX3_doSteps) ∈ wAll := in_t2 174 rfl rfl
theorem wq_446 : (Cond.instanceMethod yX3_doSteps) ∈ wAll := in_t2 175 rfl rfl
theorem wq_447 : (Cond.selects RX3 yX3_doSteps yX3_doSteps) ∈ wAll := in_t2 176 rfl rfl
theorem wq_448 : (Cond.code yX3_doSteps cX3_doSteps 3 (some .int)) ∈ wAll := in_t2 177 rfl rfl
theorem wq_449 : (Cond.methodLink RX3 45 yX3_doStep) ∈ wAll := in_t2 178 rfl rfl
theorem wq_451 : (Cond.instanceMethod yX3_doStep) ∈ wAll := in_t2 180 rfl rfl
theorem wq_5 : (Cond.selects RX3 yX3_doStep yX3_doStep) ∈ wAll := in_all 5 rfl rfl
theorem wq_452 : (Cond.code yX3_doStep cX3_doStep 5 (some .boolean)) ∈ wAll := in_t2 181 rfl rfl
theorem wq_458 : (Cond.constant RX3 52 (100000)) ∈ wAll := in_t2 187 rfl rfl
theorem wq_453 : (Cond.methodLink RX3 49 yX3_isStill) ∈ wAll := in_t2 182 rfl rfl
theorem wq_454 : (Cond.instanceMethod yX3_isStill) ∈ wAll := in_t2 183 rfl rfl
theorem wq_455 : (Cond.selects RX3 yX3_isStill yX3_isStill) ∈ wAll := in_t2 184 rfl rfl
theorem wq_456 : (Cond.code yX3_isStill cX3_isStill 1 (some .boolean)) ∈ wAll := in_t2 185 rfl rfl
theorem wq_818 : (Cond.methodLink RL 61 yX7_move) ∈ wAll := in_t4 67 rfl rfl
theorem wq_819 : (Cond.instanceMethod yX7_move) ∈ wAll := in_t4 68 rfl rfl
theorem wq_820 : (Cond.selects RX7 yX7_move yX7_move) ∈ wAll := in_t4 69 rfl rfl
theorem wq_821 : (Cond.code yX7_move cX7_move 4 (some .int)) ∈ wAll := in_t4 70 rfl rfl
theorem wq_822 : (Cond.methodLink RX7 94 yX7_mayMove) ∈ wAll := in_t4 71 rfl rfl
theorem wq_824 : (Cond.instanceMethod yX7_mayMove) ∈ wAll := in_t4 73 rfl rfl
theorem wq_16 : (Cond.selects RX7 yX7_mayMove yX7_mayMove) ∈ wAll := in_all 16 rfl rfl
theorem wq_825 : (Cond.code yX7_mayMove cX7_mayMove 2 (some .boolean)) ∈ wAll := in_t4 74 rfl rfl
theorem wq_826 : (Cond.constant RX7 93 (100000)) ∈ wAll := in_t4 75 rfl rfl
theorem wq_459 : (Cond.methodLink RL 62 yX6_where) ∈ wAll := in_t2 188 rfl rfl
theorem wq_460 : (Cond.instanceMethod yX6_where) ∈ wAll := in_t2 189 rfl rfl
theorem wq_461 : (Cond.selects RX6 yX6_where yX6_where) ∈ wAll := in_t2 190 rfl rfl
theorem wq_462 : (Cond.code yX6_where cX6_where 2 (some .int)) ∈ wAll := in_t2 191 rfl rfl
theorem wq_463 : (Cond.methodLink RX6 110 yX3_isStill) ∈ wAll := in_t2 192 rfl rfl
theorem wq_464 : (Cond.methodLink RX6 114 yX6_oneIf) ∈ wAll := in_t2 193 rfl rfl
theorem wq_465 : (Cond.static yX6_oneIf) ∈ wAll := in_t2 194 rfl rfl
theorem wq_466 : (Cond.code yX6_oneIf cX6_oneIf 1 (some .int)) ∈ wAll := in_t2 195 rfl rfl
theorem wq_827 : (Cond.methodLink RL 65 yX7_where) ∈ wAll := in_t4 76 rfl rfl
theorem wq_828 : (Cond.instanceMethod yX7_where) ∈ wAll := in_t4 77 rfl rfl
theorem wq_829 : (Cond.selects RX7 yX7_where yX7_where) ∈ wAll := in_t4 78 rfl rfl
theorem wq_830 : (Cond.code yX7_where cX7_where 2 (some .int)) ∈ wAll := in_t4 79 rfl rfl
theorem wq_467 : (Cond.methodLink RL 66 yX6_production) ∈ wAll := in_t2 196 rfl rfl
theorem wq_468 : (Cond.instanceMethod yX6_production) ∈ wAll := in_t2 197 rfl rfl
theorem wq_469 : (Cond.selects RX6 yX6_production yX6_production) ∈ wAll := in_t2 198 rfl rfl
theorem wq_470 : (Cond.code yX6_production cX6_production 3 (some .int)) ∈ wAll := in_t2 199 rfl rfl
theorem wq_471 : (Cond.methodLink RX6 118 yX4_letterAt) ∈ wAll := in_t2 200 rfl rfl
theorem wq_472 : (Cond.instanceMethod yX4_letterAt) ∈ wAll := in_t2 201 rfl rfl
theorem wq_473 : (Cond.selects RX4 yX4_letterAt yX4_letterAt) ∈ wAll := in_t2 202 rfl rfl
theorem wq_474 : (Cond.code yX4_letterAt cX4_letterAt 3 (some .int)) ∈ wAll := in_t2 203 rfl rfl
theorem wq_475 : (Cond.methodLink RX4 75 yX4_sizeOf) ∈ wAll := in_t2 204 rfl rfl
theorem wq_476 : (Cond.instanceMethod yX4_sizeOf) ∈ wAll := in_t2 205 rfl rfl
theorem wq_477 : (Cond.selects RX4 yX4_sizeOf yX4_sizeOf) ∈ wAll := in_t2 206 rfl rfl
theorem wq_478 : (Cond.code yX4_sizeOf cX4_sizeOf 2 (some .int)) ∈ wAll := in_t2 207 rfl rfl
theorem wq_831 : (Cond.methodLink RL 69 yX7_production) ∈ wAll := in_t4 80 rfl rfl
theorem wq_832 : (Cond.instanceMethod yX7_production) ∈ wAll := in_t4 81 rfl rfl
theorem wq_833 : (Cond.selects RX7 yX7_production yX7_production) ∈ wAll := in_t4 82 rfl rfl
theorem wq_834 : (Cond.code yX7_production cX7_production 3 (some .int)) ∈ wAll := in_t4 83 rfl rfl
theorem wq_835 : (Cond.constantLong RX7 118 (120)) ∈ wAll := in_t4 84 rfl rfl
theorem wq_698 : (Cond.fieldLink RX7 97 "TagTowerModel" "made" "I") ∈ wAll := in_t3 187 rfl rfl
theorem wq_836 : (Cond.methodLink RX7 120 yX7_produce) ∈ wAll := in_t4 85 rfl rfl
theorem wq_838 : (Cond.instanceMethod yX7_produce) ∈ wAll := in_t4 87 rfl rfl
theorem wq_17 : (Cond.selects RX7 yX7_produce yX7_produce) ∈ wAll := in_all 17 rfl rfl
theorem wq_839 : (Cond.code yX7_produce cX7_produce 4 none) ∈ wAll := in_t4 88 rfl rfl
theorem wq_840 : (Cond.methodLink RX7 103 yX7_of) ∈ wAll := in_t4 89 rfl rfl
theorem wq_841 : (Cond.static yX7_of) ∈ wAll := in_t4 90 rfl rfl
theorem wq_842 : (Cond.code yX7_of cX7_of 2 (some .int)) ∈ wAll := in_t4 91 rfl rfl
theorem wq_843 : (Cond.methodLink RX7 107 yX7_one) ∈ wAll := in_t4 92 rfl rfl
theorem wq_845 : (Cond.instanceMethod yX7_one) ∈ wAll := in_t4 94 rfl rfl
theorem wq_18 : (Cond.selects RX7 yX7_one yX7_one) ∈ wAll := in_all 18 rfl rfl
theorem wq_846 : (Cond.code yX7_one cX7_one 2 none) ∈ wAll := in_t4 95 rfl rfl
theorem wq_847 : (Cond.methodLink RX7 100 yX7_makes) ∈ wAll := in_t4 96 rfl rfl
theorem wq_849 : (Cond.instanceMethod yX7_makes) ∈ wAll := in_t4 98 rfl rfl
theorem wq_19 : (Cond.selects RX7 yX7_makes yX7_makes) ∈ wAll := in_all 19 rfl rfl
theorem wq_850 : (Cond.code yX7_makes cX7_makes 2 none) ∈ wAll := in_t4 99 rfl rfl
theorem wq_851 : (Cond.methodLink RX7 114 yX7_produceRuled) ∈ wAll := in_t4 100 rfl rfl
theorem wq_853 : (Cond.instanceMethod yX7_produceRuled) ∈ wAll := in_t4 102 rfl rfl
theorem wq_20 : (Cond.selects RX7 yX7_produceRuled yX7_produceRuled) ∈ wAll := in_all 20 rfl rfl
theorem wq_854 : (Cond.code yX7_produceRuled cX7_produceRuled 6 none) ∈ wAll := in_t4 103 rfl rfl
theorem wq_855 : (Cond.methodLink RX7 110 yX7_doubled) ∈ wAll := in_t4 104 rfl rfl
theorem wq_857 : (Cond.instanceMethod yX7_doubled) ∈ wAll := in_t4 106 rfl rfl
theorem wq_21 : (Cond.selects RX7 yX7_doubled yX7_doubled) ∈ wAll := in_all 21 rfl rfl
theorem wq_858 : (Cond.code yX7_doubled cX7_doubled 3 none) ∈ wAll := in_t4 107 rfl rfl
theorem wq_480 : (Cond.methodLink RL 70 yX6_lay) ∈ wAll := in_t2 209 rfl rfl
theorem wq_481 : (Cond.instanceMethod yX6_lay) ∈ wAll := in_t2 210 rfl rfl
theorem wq_482 : (Cond.selects RX6 yX6_lay yX6_lay) ∈ wAll := in_t2 211 rfl rfl
theorem wq_483 : (Cond.code yX6_lay cX6_lay 1 (some .int)) ∈ wAll := in_t2 212 rfl rfl
theorem wq_484 : (Cond.methodLink RX6 121 yX5_layPlace) ∈ wAll := in_t2 213 rfl rfl
theorem wq_485 : (Cond.instanceMethod yX5_layPlace) ∈ wAll := in_t2 214 rfl rfl
theorem wq_486 : (Cond.selects RX5 yX5_layPlace yX5_layPlace) ∈ wAll := in_t2 215 rfl rfl
theorem wq_487 : (Cond.code yX5_layPlace cX5_layPlace 5 (some .int)) ∈ wAll := in_t2 216 rfl rfl
theorem wq_488 : (Cond.methodLink RX5 23 yX2_empty) ∈ wAll := in_t2 217 rfl rfl
theorem wq_489 : (Cond.instanceMethod yX2_empty) ∈ wAll := in_t2 218 rfl rfl
theorem wq_490 : (Cond.selects RX2 yX2_empty yX2_empty) ∈ wAll := in_t2 219 rfl rfl
theorem wq_491 : (Cond.code yX2_empty cX2_empty 1 none) ∈ wAll := in_t2 220 rfl rfl
theorem wq_280 : (Cond.fieldLink RX2 21 "TagTower$LetterRow" "head" "I") ∈ wAll := in_t2 9 rfl rfl
theorem wq_282 : (Cond.fieldLink RX2 25 "TagTower$LetterRow" "size" "I") ∈ wAll := in_t2 11 rfl rfl
theorem wq_492 : (Cond.methodLink RX5 26 yX5_appendTwos) ∈ wAll := in_t2 221 rfl rfl
theorem wq_494 : (Cond.instanceMethod yX5_appendTwos) ∈ wAll := in_t2 223 rfl rfl
theorem wq_6 : (Cond.selects RX5 yX5_appendTwos yX5_appendTwos) ∈ wAll := in_all 6 rfl rfl
theorem wq_495 : (Cond.code yX5_appendTwos cX5_appendTwos 4 none) ∈ wAll := in_t2 224 rfl rfl
theorem wq_496 : (Cond.methodLink RX5 34 yX2_append) ∈ wAll := in_t2 225 rfl rfl
theorem wq_497 : (Cond.instanceMethod yX2_append) ∈ wAll := in_t2 226 rfl rfl
theorem wq_498 : (Cond.selects RX2 yX2_append yX2_append) ∈ wAll := in_t2 227 rfl rfl
theorem wq_499 : (Cond.code yX2_append cX2_append 2 none) ∈ wAll := in_t2 228 rfl rfl
theorem wq_500 : (Cond.methodLink RX2 32 yX2_wrapped) ∈ wAll := in_t2 229 rfl rfl
theorem wq_502 : (Cond.instanceMethod yX2_wrapped) ∈ wAll := in_t2 231 rfl rfl
theorem wq_7 : (Cond.selects RX2 yX2_wrapped yX2_wrapped) ∈ wAll := in_all 7 rfl rfl
theorem wq_503 : (Cond.code yX2_wrapped cX2_wrapped 2 (some .int)) ∈ wAll := in_t2 232 rfl rfl
theorem wq_859 : (Cond.methodLink RL 73 yX7_lay) ∈ wAll := in_t4 108 rfl rfl
theorem wq_860 : (Cond.instanceMethod yX7_lay) ∈ wAll := in_t4 109 rfl rfl
theorem wq_861 : (Cond.selects RX7 yX7_lay yX7_lay) ∈ wAll := in_t4 110 rfl rfl
theorem wq_862 : (Cond.code yX7_lay cX7_lay 3 (some .int)) ∈ wAll := in_t4 111 rfl rfl
theorem wq_689 : (Cond.fieldLink RX7 123 "TagTowerModel" "begin" "I") ∈ wAll := in_t3 178 rfl rfl
theorem wq_690 : (Cond.fieldLink RX7 126 "TagTowerModel" "length" "I") ∈ wAll := in_t3 179 rfl rfl
theorem wq_863 : (Cond.methodLink RX7 129 yX7_puts) ∈ wAll := in_t4 112 rfl rfl
theorem wq_865 : (Cond.instanceMethod yX7_puts) ∈ wAll := in_t4 114 rfl rfl
theorem wq_22 : (Cond.selects RX7 yX7_puts yX7_puts) ∈ wAll := in_all 22 rfl rfl
theorem wq_866 : (Cond.code yX7_puts cX7_puts 2 none) ∈ wAll := in_t4 115 rfl rfl
theorem wq_504 : (Cond.methodLink RL 74 yX6_add) ∈ wAll := in_t2 233 rfl rfl
theorem wq_505 : (Cond.instanceMethod yX6_add) ∈ wAll := in_t2 234 rfl rfl
theorem wq_506 : (Cond.selects RX6 yX6_add yX6_add) ∈ wAll := in_t2 235 rfl rfl
theorem wq_507 : (Cond.code yX6_add cX6_add 2 (some .int)) ∈ wAll := in_t2 236 rfl rfl
theorem wq_508 : (Cond.methodLink RX6 125 yX5_addLetter) ∈ wAll := in_t2 237 rfl rfl
theorem wq_509 : (Cond.instanceMethod yX5_addLetter) ∈ wAll := in_t2 238 rfl rfl
theorem wq_510 : (Cond.selects RX5 yX5_addLetter yX5_addLetter) ∈ wAll := in_t2 239 rfl rfl
theorem wq_511 : (Cond.code yX5_addLetter cX5_addLetter 2 (some .int)) ∈ wAll := in_t3 0 rfl rfl
theorem wq_867 : (Cond.methodLink RL 77 yX7_add) ∈ wAll := in_t4 116 rfl rfl
theorem wq_868 : (Cond.instanceMethod yX7_add) ∈ wAll := in_t4 117 rfl rfl
theorem wq_869 : (Cond.selects RX7 yX7_add yX7_add) ∈ wAll := in_t4 118 rfl rfl
theorem wq_870 : (Cond.code yX7_add cX7_add 2 (some .int)) ∈ wAll := in_t4 119 rfl rfl
theorem wq_512 : (Cond.methodLink RL 78 yX6_clear) ∈ wAll := in_t3 1 rfl rfl
theorem wq_513 : (Cond.instanceMethod yX6_clear) ∈ wAll := in_t3 2 rfl rfl
theorem wq_514 : (Cond.selects RX6 yX6_clear yX6_clear) ∈ wAll := in_t3 3 rfl rfl
theorem wq_515 : (Cond.code yX6_clear cX6_clear 2 (some .int)) ∈ wAll := in_t3 4 rfl rfl
theorem wq_516 : (Cond.methodLink RX6 137 yX2_empty) ∈ wAll := in_t3 5 rfl rfl
theorem wq_871 : (Cond.methodLink RL 81 yX7_clear) ∈ wAll := in_t4 120 rfl rfl
theorem wq_872 : (Cond.instanceMethod yX7_clear) ∈ wAll := in_t4 121 rfl rfl
theorem wq_873 : (Cond.selects RX7 yX7_clear yX7_clear) ∈ wAll := in_t4 122 rfl rfl
theorem wq_874 : (Cond.code yX7_clear cX7_clear 2 (some .int)) ∈ wAll := in_t4 123 rfl rfl
theorem wq_517 : (Cond.methodLink RL 82 yX6_letter) ∈ wAll := in_t3 6 rfl rfl
theorem wq_518 : (Cond.instanceMethod yX6_letter) ∈ wAll := in_t3 7 rfl rfl
theorem wq_519 : (Cond.selects RX6 yX6_letter yX6_letter) ∈ wAll := in_t3 8 rfl rfl
theorem wq_520 : (Cond.code yX6_letter cX6_letter 2 (some .int)) ∈ wAll := in_t3 9 rfl rfl
theorem wq_521 : (Cond.methodLink RX6 140 yX2_get) ∈ wAll := in_t3 10 rfl rfl
theorem wq_522 : (Cond.instanceMethod yX2_get) ∈ wAll := in_t3 11 rfl rfl
theorem wq_523 : (Cond.selects RX2 yX2_get yX2_get) ∈ wAll := in_t3 12 rfl rfl
theorem wq_524 : (Cond.code yX2_get cX2_get 2 (some .int)) ∈ wAll := in_t3 13 rfl rfl
theorem wq_875 : (Cond.methodLink RL 85 yX7_letter) ∈ wAll := in_t4 124 rfl rfl
theorem wq_876 : (Cond.instanceMethod yX7_letter) ∈ wAll := in_t4 125 rfl rfl
theorem wq_877 : (Cond.selects RX7 yX7_letter yX7_letter) ∈ wAll := in_t4 126 rfl rfl
theorem wq_878 : (Cond.code yX7_letter cX7_letter 2 (some .int)) ∈ wAll := in_t4 127 rfl rfl
theorem wq_879 : (Cond.methodLink RX7 132 yX7_letterAt) ∈ wAll := in_t4 128 rfl rfl
theorem wq_881 : (Cond.instanceMethod yX7_letterAt) ∈ wAll := in_t4 130 rfl rfl
theorem wq_23 : (Cond.selects RX7 yX7_letterAt yX7_letterAt) ∈ wAll := in_all 23 rfl rfl
theorem wq_882 : (Cond.code yX7_letterAt cX7_letterAt 2 (some .int)) ∈ wAll := in_t4 131 rfl rfl
theorem wq_526 : (Cond.methodLink RL 86 yX6_length) ∈ wAll := in_t3 15 rfl rfl
theorem wq_527 : (Cond.instanceMethod yX6_length) ∈ wAll := in_t3 16 rfl rfl
theorem wq_528 : (Cond.selects RX6 yX6_length yX6_length) ∈ wAll := in_t3 17 rfl rfl
theorem wq_529 : (Cond.code yX6_length cX6_length 1 (some .int)) ∈ wAll := in_t3 18 rfl rfl
theorem wq_883 : (Cond.methodLink RL 89 yX7_length) ∈ wAll := in_t4 132 rfl rfl
theorem wq_884 : (Cond.instanceMethod yX7_length) ∈ wAll := in_t4 133 rfl rfl
theorem wq_885 : (Cond.selects RX7 yX7_length yX7_length) ∈ wAll := in_t4 134 rfl rfl
theorem wq_886 : (Cond.code yX7_length cX7_length 1 (some .int)) ∈ wAll := in_t4 135 rfl rfl
theorem wq_530 : (Cond.methodLink RL 90 yX6_tag) ∈ wAll := in_t3 19 rfl rfl
theorem wq_531 : (Cond.instanceMethod yX6_tag) ∈ wAll := in_t3 20 rfl rfl
theorem wq_532 : (Cond.selects RX6 yX6_tag yX6_tag) ∈ wAll := in_t3 21 rfl rfl
theorem wq_533 : (Cond.code yX6_tag cX6_tag 2 (some .int)) ∈ wAll := in_t3 22 rfl rfl
theorem wq_534 : (Cond.methodLink RX6 143 yX5_doSteps) ∈ wAll := in_t3 23 rfl rfl
theorem wq_535 : (Cond.instanceMethod yX5_doSteps) ∈ wAll := in_t3 24 rfl rfl
theorem wq_536 : (Cond.selects RX5 yX5_doSteps yX5_doSteps) ∈ wAll := in_t3 25 rfl rfl
theorem wq_537 : (Cond.code yX5_doSteps cX5_doSteps 4 (some .int)) ∈ wAll := in_t3 26 rfl rfl
theorem wq_538 : (Cond.methodLink RX5 37 yX5_doStep) ∈ wAll := in_t3 27 rfl rfl
theorem wq_540 : (Cond.instanceMethod yX5_doStep) ∈ wAll := in_t3 29 rfl rfl
theorem wq_8 : (Cond.selects RX5 yX5_doStep yX5_doStep) ∈ wAll := in_all 8 rfl rfl
theorem wq_541 : (Cond.code yX5_doStep cX5_doStep 4 (some .boolean)) ∈ wAll := in_t3 30 rfl rfl
theorem wq_542 : (Cond.methodLink RX5 49 yX2_get) ∈ wAll := in_t3 31 rfl rfl
theorem wq_543 : (Cond.methodLink RX5 53 yX4_sizeOf) ∈ wAll := in_t3 32 rfl rfl
theorem wq_544 : (Cond.methodLink RX5 58 yX2_drop) ∈ wAll := in_t3 33 rfl rfl
theorem wq_545 : (Cond.instanceMethod yX2_drop) ∈ wAll := in_t3 34 rfl rfl
theorem wq_546 : (Cond.selects RX2 yX2_drop yX2_drop) ∈ wAll := in_t3 35 rfl rfl
theorem wq_547 : (Cond.code yX2_drop cX2_drop 3 none) ∈ wAll := in_t3 36 rfl rfl
theorem wq_548 : (Cond.methodLink RX2 36 Lib.Math.min.name) ∈ wAll := in_t3 37 rfl rfl
theorem wq_549 : (Cond.methodLink RX5 61 yX4_appendTo) ∈ wAll := in_t3 38 rfl rfl
theorem wq_550 : (Cond.instanceMethod yX4_appendTo) ∈ wAll := in_t3 39 rfl rfl
theorem wq_551 : (Cond.selects RX4 yX4_appendTo yX4_appendTo) ∈ wAll := in_t3 40 rfl rfl
theorem wq_552 : (Cond.code yX4_appendTo cX4_appendTo 6 none) ∈ wAll := in_t3 41 rfl rfl
theorem wq_553 : (Cond.methodLink RX4 85 yX2_append) ∈ wAll := in_t3 42 rfl rfl
theorem wq_887 : (Cond.methodLink RL 93 yX7_tag) ∈ wAll := in_t4 136 rfl rfl
theorem wq_888 : (Cond.instanceMethod yX7_tag) ∈ wAll := in_t4 137 rfl rfl
theorem wq_889 : (Cond.selects RX7 yX7_tag yX7_tag) ∈ wAll := in_t4 138 rfl rfl
theorem wq_890 : (Cond.code yX7_tag cX7_tag 3 (some .int)) ∈ wAll := in_t4 139 rfl rfl
theorem wq_891 : (Cond.constantLong RX7 136 (20000)) ∈ wAll := in_t4 140 rfl rfl
theorem wq_892 : (Cond.methodLink RX7 138 yX7_tags) ∈ wAll := in_t4 141 rfl rfl
theorem wq_894 : (Cond.instanceMethod yX7_tags) ∈ wAll := in_t4 143 rfl rfl
theorem wq_24 : (Cond.selects RX7 yX7_tags yX7_tags) ∈ wAll := in_all 24 rfl rfl
theorem wq_895 : (Cond.code yX7_tags cX7_tags 2 (some .boolean)) ∈ wAll := in_t4 144 rfl rfl
theorem wq_554 : (Cond.methodLink RL 94 yX6_next) ∈ wAll := in_t3 43 rfl rfl
theorem wq_555 : (Cond.instanceMethod yX6_next) ∈ wAll := in_t3 44 rfl rfl
theorem wq_556 : (Cond.selects RX6 yX6_next yX6_next) ∈ wAll := in_t3 45 rfl rfl
theorem wq_557 : (Cond.code yX6_next cX6_next 1 (some .int)) ∈ wAll := in_t3 46 rfl rfl
theorem wq_558 : (Cond.methodLink RX6 146 yX5_stepsToPlace) ∈ wAll := in_t3 47 rfl rfl
theorem wq_559 : (Cond.instanceMethod yX5_stepsToPlace) ∈ wAll := in_t3 48 rfl rfl
theorem wq_560 : (Cond.selects RX5 yX5_stepsToPlace yX5_stepsToPlace) ∈ wAll := in_t3 49 rfl rfl
theorem wq_561 : (Cond.code yX5_stepsToPlace cX5_stepsToPlace 3 (some .int)) ∈ wAll := in_t3 50 rfl rfl
theorem wq_562 : (Cond.methodLink RX5 41 yX2_become) ∈ wAll := in_t3 51 rfl rfl
theorem wq_563 : (Cond.instanceMethod yX2_become) ∈ wAll := in_t3 52 rfl rfl
theorem wq_564 : (Cond.selects RX2 yX2_become yX2_become) ∈ wAll := in_t3 53 rfl rfl
theorem wq_565 : (Cond.code yX2_become cX2_become 3 none) ∈ wAll := in_t3 54 rfl rfl
theorem wq_566 : (Cond.methodLink RX2 39 yX2_empty) ∈ wAll := in_t3 55 rfl rfl
theorem wq_567 : (Cond.methodLink RX2 42 yX2_get) ∈ wAll := in_t3 56 rfl rfl
theorem wq_568 : (Cond.methodLink RX2 45 yX2_append) ∈ wAll := in_t3 57 rfl rfl
theorem wq_569 : (Cond.methodLink RX5 45 yX5_middle) ∈ wAll := in_t3 58 rfl rfl
theorem wq_571 : (Cond.instanceMethod yX5_middle) ∈ wAll := in_t3 60 rfl rfl
theorem wq_9 : (Cond.selects RX5 yX5_middle yX5_middle) ∈ wAll := in_all 9 rfl rfl
theorem wq_572 : (Cond.code yX5_middle cX5_middle 4 (some .int)) ∈ wAll := in_t3 61 rfl rfl
theorem wq_573 : (Cond.methodLink RX5 65 yX5_behindTwos) ∈ wAll := in_t3 62 rfl rfl
theorem wq_575 : (Cond.instanceMethod yX5_behindTwos) ∈ wAll := in_t3 64 rfl rfl
theorem wq_10 : (Cond.selects RX5 yX5_behindTwos yX5_behindTwos) ∈ wAll := in_all 10 rfl rfl
theorem wq_576 : (Cond.code yX5_behindTwos cX5_behindTwos 4 (some .int)) ∈ wAll := in_t3 65 rfl rfl
theorem wq_896 : (Cond.methodLink RL 97 yX7_next) ∈ wAll := in_t4 145 rfl rfl
theorem wq_897 : (Cond.instanceMethod yX7_next) ∈ wAll := in_t4 146 rfl rfl
theorem wq_898 : (Cond.selects RX7 yX7_next yX7_next) ∈ wAll := in_t4 147 rfl rfl
theorem wq_899 : (Cond.code yX7_next cX7_next 3 (some .int)) ∈ wAll := in_t4 148 rfl rfl
theorem wq_692 : (Cond.fieldLink RX7 150 "TagTowerModel" "savedLength" "I") ∈ wAll := in_t3 181 rfl rfl
theorem wq_900 : (Cond.methodLink RX7 153 yX7_tells) ∈ wAll := in_t4 149 rfl rfl
theorem wq_902 : (Cond.instanceMethod yX7_tells) ∈ wAll := in_t4 151 rfl rfl
theorem wq_25 : (Cond.selects RX7 yX7_tells yX7_tells) ∈ wAll := in_all 25 rfl rfl
theorem wq_903 : (Cond.code yX7_tells cX7_tells 4 (some .boolean)) ∈ wAll := in_t4 152 rfl rfl
theorem wq_700 : (Cond.fieldLink RX7 141 "TagTowerModel" "toldPair" "I") ∈ wAll := in_t3 189 rfl rfl
theorem wq_701 : (Cond.fieldLink RX7 144 "TagTowerModel" "toldLeft" "I") ∈ wAll := in_t3 190 rfl rfl
theorem wq_702 : (Cond.fieldLink RX7 147 "TagTowerModel" "toldRight" "I") ∈ wAll := in_t3 191 rfl rfl
theorem wq_577 : (Cond.methodLink RL 98 yX6_told) ∈ wAll := in_t3 66 rfl rfl
theorem wq_578 : (Cond.instanceMethod yX6_told) ∈ wAll := in_t3 67 rfl rfl
theorem wq_579 : (Cond.selects RX6 yX6_told yX6_told) ∈ wAll := in_t3 68 rfl rfl
theorem wq_580 : (Cond.code yX6_told cX6_told 2 (some .int)) ∈ wAll := in_t3 69 rfl rfl
theorem wq_581 : (Cond.methodLink RX6 150 yX5_tellPlace) ∈ wAll := in_t3 70 rfl rfl
theorem wq_582 : (Cond.instanceMethod yX5_tellPlace) ∈ wAll := in_t3 71 rfl rfl
theorem wq_583 : (Cond.selects RX5 yX5_tellPlace yX5_tellPlace) ∈ wAll := in_t3 72 rfl rfl
theorem wq_584 : (Cond.code yX5_tellPlace cX5_tellPlace 4 (some .int)) ∈ wAll := in_t3 73 rfl rfl
theorem wq_904 : (Cond.methodLink RL 101 yX7_told) ∈ wAll := in_t4 153 rfl rfl
theorem wq_905 : (Cond.instanceMethod yX7_told) ∈ wAll := in_t4 154 rfl rfl
theorem wq_906 : (Cond.selects RX7 yX7_told yX7_told) ∈ wAll := in_t4 155 rfl rfl
theorem wq_907 : (Cond.code yX7_told cX7_told 2 (some .int)) ∈ wAll := in_t4 156 rfl rfl
theorem wq_585 : (Cond.methodLink RL 102 yX6_appendant) ∈ wAll := in_t3 74 rfl rfl
theorem wq_586 : (Cond.instanceMethod yX6_appendant) ∈ wAll := in_t3 75 rfl rfl
theorem wq_587 : (Cond.selects RX6 yX6_appendant yX6_appendant) ∈ wAll := in_t3 76 rfl rfl
theorem wq_588 : (Cond.code yX6_appendant cX6_appendant 3 (some .int)) ∈ wAll := in_t3 77 rfl rfl
theorem wq_589 : (Cond.methodLink RX6 153 yX4_bitAt) ∈ wAll := in_t3 78 rfl rfl
theorem wq_590 : (Cond.instanceMethod yX4_bitAt) ∈ wAll := in_t3 79 rfl rfl
theorem wq_591 : (Cond.selects RX4 yX4_bitAt yX4_bitAt) ∈ wAll := in_t3 80 rfl rfl
theorem wq_592 : (Cond.code yX4_bitAt cX4_bitAt 3 (some .int)) ∈ wAll := in_t3 81 rfl rfl
theorem wq_593 : (Cond.methodLink RX4 78 yX4_letterAt) ∈ wAll := in_t3 82 rfl rfl
theorem wq_908 : (Cond.methodLink RL 105 yX7_appendant) ∈ wAll := in_t4 157 rfl rfl
theorem wq_909 : (Cond.instanceMethod yX7_appendant) ∈ wAll := in_t4 158 rfl rfl
theorem wq_910 : (Cond.selects RX7 yX7_appendant yX7_appendant) ∈ wAll := in_t4 159 rfl rfl
theorem wq_911 : (Cond.code yX7_appendant cX7_appendant 3 (some .int)) ∈ wAll := in_t4 160 rfl rfl
theorem wq_912 : (Cond.constantLong RX7 162 (241)) ∈ wAll := in_t4 161 rfl rfl
theorem wq_595 : (Cond.methodLink RL 106 yX6_spread) ∈ wAll := in_t3 84 rfl rfl
theorem wq_596 : (Cond.instanceMethod yX6_spread) ∈ wAll := in_t3 85 rfl rfl
theorem wq_597 : (Cond.selects RX6 yX6_spread yX6_spread) ∈ wAll := in_t3 86 rfl rfl
theorem wq_598 : (Cond.code yX6_spread cX6_spread 1 (some .int)) ∈ wAll := in_t3 87 rfl rfl
theorem wq_599 : (Cond.methodLink RX6 156 yX0_layWord) ∈ wAll := in_t3 88 rfl rfl
theorem wq_600 : (Cond.instanceMethod yX0_layWord) ∈ wAll := in_t3 89 rfl rfl
theorem wq_601 : (Cond.selects RX0 yX0_layWord yX0_layWord) ∈ wAll := in_t3 90 rfl rfl
theorem wq_602 : (Cond.code yX0_layWord cX0_layWord 3 (some .int)) ∈ wAll := in_t3 91 rfl rfl
theorem wq_603 : (Cond.constant RX0 24 (80000)) ∈ wAll := in_t3 92 rfl rfl
theorem wq_310 : (Cond.fieldLink RX0 29 "TagTower$Bits" "turn" "I") ∈ wAll := in_t2 39 rfl rfl
theorem wq_604 : (Cond.methodLink RX0 25 yX2_become) ∈ wAll := in_t3 93 rfl rfl
theorem wq_913 : (Cond.methodLink RL 109 yX7_spread) ∈ wAll := in_t4 162 rfl rfl
theorem wq_914 : (Cond.instanceMethod yX7_spread) ∈ wAll := in_t4 163 rfl rfl
theorem wq_915 : (Cond.selects RX7 yX7_spread yX7_spread) ∈ wAll := in_t4 164 rfl rfl
theorem wq_916 : (Cond.code yX7_spread cX7_spread 3 (some .int)) ∈ wAll := in_t4 165 rfl rfl
theorem wq_917 : (Cond.constant RX7 164 (80000)) ∈ wAll := in_t4 166 rfl rfl
theorem wq_694 : (Cond.fieldLink RX7 156 "TagTowerModel" "first" "I") ∈ wAll := in_t3 183 rfl rfl
theorem wq_695 : (Cond.fieldLink RX7 159 "TagTowerModel" "many" "I") ∈ wAll := in_t3 184 rfl rfl
theorem wq_697 : (Cond.fieldLink RX7 165 "TagTowerModel" "turn" "I") ∈ wAll := in_t3 186 rfl rfl
theorem wq_918 : (Cond.methodLink RX7 168 yX7_putBit) ∈ wAll := in_t4 167 rfl rfl
theorem wq_920 : (Cond.instanceMethod yX7_putBit) ∈ wAll := in_t4 169 rfl rfl
theorem wq_26 : (Cond.selects RX7 yX7_putBit yX7_putBit) ∈ wAll := in_all 26 rfl rfl
theorem wq_921 : (Cond.code yX7_putBit cX7_putBit 2 none) ∈ wAll := in_t4 170 rfl rfl
theorem wq_605 : (Cond.methodLink RL 110 yX6_cycle) ∈ wAll := in_t3 94 rfl rfl
theorem wq_606 : (Cond.instanceMethod yX6_cycle) ∈ wAll := in_t3 95 rfl rfl
theorem wq_607 : (Cond.selects RX6 yX6_cycle yX6_cycle) ∈ wAll := in_t3 96 rfl rfl
theorem wq_608 : (Cond.code yX6_cycle cX6_cycle 2 (some .int)) ∈ wAll := in_t3 97 rfl rfl
theorem wq_609 : (Cond.methodLink RX6 160 yX0_doSteps) ∈ wAll := in_t3 98 rfl rfl
theorem wq_610 : (Cond.instanceMethod yX0_doSteps) ∈ wAll := in_t3 99 rfl rfl
theorem wq_611 : (Cond.selects RX0 yX0_doSteps yX0_doSteps) ∈ wAll := in_t3 100 rfl rfl
theorem wq_612 : (Cond.code yX0_doSteps cX0_doSteps 5 (some .int)) ∈ wAll := in_t3 101 rfl rfl
theorem wq_613 : (Cond.methodLink RX0 55 yX0_take) ∈ wAll := in_t3 102 rfl rfl
theorem wq_615 : (Cond.instanceMethod yX0_take) ∈ wAll := in_t3 104 rfl rfl
theorem wq_11 : (Cond.selects RX0 yX0_take yX0_take) ∈ wAll := in_all 11 rfl rfl
theorem wq_616 : (Cond.code yX0_take cX0_take 7 (some .int)) ∈ wAll := in_t3 105 rfl rfl
theorem wq_641 : (Cond.methodLink RX0 67 Lib.Math.min.name) ∈ wAll := in_t3 130 rfl rfl
theorem wq_617 : (Cond.methodLink RX0 59 yX0_isStill) ∈ wAll := in_t3 106 rfl rfl
theorem wq_618 : (Cond.instanceMethod yX0_isStill) ∈ wAll := in_t3 107 rfl rfl
theorem wq_619 : (Cond.selects RX0 yX0_isStill yX0_isStill) ∈ wAll := in_t3 108 rfl rfl
theorem wq_620 : (Cond.code yX0_isStill cX0_isStill 2 (some .boolean)) ∈ wAll := in_t3 109 rfl rfl
theorem wq_621 : (Cond.methodLink RX0 42 yX2_get) ∈ wAll := in_t3 110 rfl rfl
theorem wq_622 : (Cond.methodLink RX0 50 yX4_sizeOf) ∈ wAll := in_t3 111 rfl rfl
theorem wq_623 : (Cond.methodLink RX0 32 yX0_gone) ∈ wAll := in_t3 112 rfl rfl
theorem wq_625 : (Cond.instanceMethod yX0_gone) ∈ wAll := in_t3 114 rfl rfl
theorem wq_12 : (Cond.selects RX0 yX0_gone yX0_gone) ∈ wAll := in_all 12 rfl rfl
theorem wq_626 : (Cond.code yX0_gone cX0_gone 1 (some .int)) ∈ wAll := in_t3 115 rfl rfl
theorem wq_627 : (Cond.methodLink RX0 63 yX0_takeOne) ∈ wAll := in_t3 116 rfl rfl
theorem wq_629 : (Cond.instanceMethod yX0_takeOne) ∈ wAll := in_t3 118 rfl rfl
theorem wq_13 : (Cond.selects RX0 yX0_takeOne yX0_takeOne) ∈ wAll := in_all 13 rfl rfl
theorem wq_630 : (Cond.code yX0_takeOne cX0_takeOne 2 (some .int)) ∈ wAll := in_t3 119 rfl rfl
theorem wq_631 : (Cond.methodLink RX0 36 yX0_size) ∈ wAll := in_t3 120 rfl rfl
theorem wq_632 : (Cond.instanceMethod yX0_size) ∈ wAll := in_t3 121 rfl rfl
theorem wq_633 : (Cond.selects RX0 yX0_size yX0_size) ∈ wAll := in_t3 122 rfl rfl
theorem wq_634 : (Cond.code yX0_size cX0_size 1 (some .int)) ∈ wAll := in_t3 123 rfl rfl
theorem wq_635 : (Cond.methodLink RX0 76 yX4_appendTo) ∈ wAll := in_t3 124 rfl rfl
theorem wq_636 : (Cond.methodLink RX0 73 yX0_pass) ∈ wAll := in_t3 125 rfl rfl
theorem wq_638 : (Cond.instanceMethod yX0_pass) ∈ wAll := in_t3 127 rfl rfl
theorem wq_14 : (Cond.selects RX0 yX0_pass yX0_pass) ∈ wAll := in_all 14 rfl rfl
theorem wq_639 : (Cond.code yX0_pass cX0_pass 2 none) ∈ wAll := in_t3 128 rfl rfl
theorem wq_640 : (Cond.methodLink RX0 80 yX2_drop) ∈ wAll := in_t3 129 rfl rfl
theorem wq_922 : (Cond.methodLink RL 113 yX7_cycle) ∈ wAll := in_t4 171 rfl rfl
theorem wq_923 : (Cond.instanceMethod yX7_cycle) ∈ wAll := in_t4 172 rfl rfl
theorem wq_924 : (Cond.selects RX7 yX7_cycle yX7_cycle) ∈ wAll := in_t4 173 rfl rfl
theorem wq_925 : (Cond.code yX7_cycle cX7_cycle 3 (some .int)) ∈ wAll := in_t4 174 rfl rfl
theorem wq_926 : (Cond.constantLong RX7 180 (30000)) ∈ wAll := in_t4 175 rfl rfl
theorem wq_927 : (Cond.methodLink RX7 182 yX7_cycles) ∈ wAll := in_t4 176 rfl rfl
theorem wq_929 : (Cond.instanceMethod yX7_cycles) ∈ wAll := in_t4 178 rfl rfl
theorem wq_27 : (Cond.selects RX7 yX7_cycles yX7_cycles) ∈ wAll := in_all 27 rfl rfl
theorem wq_930 : (Cond.code yX7_cycles cX7_cycles 4 (some .boolean)) ∈ wAll := in_t4 179 rfl rfl
theorem wq_931 : (Cond.methodLink RX7 177 yX7_isStill) ∈ wAll := in_t4 180 rfl rfl
theorem wq_933 : (Cond.instanceMethod yX7_isStill) ∈ wAll := in_t4 182 rfl rfl
theorem wq_28 : (Cond.selects RX7 yX7_isStill yX7_isStill) ∈ wAll := in_all 28 rfl rfl
theorem wq_934 : (Cond.code yX7_isStill cX7_isStill 2 (some .boolean)) ∈ wAll := in_t4 183 rfl rfl
theorem wq_935 : (Cond.methodLink RX7 174 yX7_letterOf) ∈ wAll := in_t4 184 rfl rfl
theorem wq_937 : (Cond.instanceMethod yX7_letterOf) ∈ wAll := in_t4 186 rfl rfl
theorem wq_29 : (Cond.selects RX7 yX7_letterOf yX7_letterOf) ∈ wAll := in_all 29 rfl rfl
theorem wq_938 : (Cond.code yX7_letterOf cX7_letterOf 5 (some .int)) ∈ wAll := in_t4 187 rfl rfl
theorem wq_939 : (Cond.methodLink RX7 171 yX7_bitAt) ∈ wAll := in_t4 188 rfl rfl
theorem wq_941 : (Cond.instanceMethod yX7_bitAt) ∈ wAll := in_t4 190 rfl rfl
theorem wq_30 : (Cond.selects RX7 yX7_bitAt yX7_bitAt) ∈ wAll := in_all 30 rfl rfl
theorem wq_942 : (Cond.code yX7_bitAt cX7_bitAt 2 (some .int)) ∈ wAll := in_t4 191 rfl rfl
theorem wq_642 : (Cond.methodLink RL 114 yX6_bit) ∈ wAll := in_t3 131 rfl rfl
theorem wq_643 : (Cond.instanceMethod yX6_bit) ∈ wAll := in_t3 132 rfl rfl
theorem wq_644 : (Cond.selects RX6 yX6_bit yX6_bit) ∈ wAll := in_t3 133 rfl rfl
theorem wq_645 : (Cond.code yX6_bit cX6_bit 2 (some .int)) ∈ wAll := in_t3 134 rfl rfl
theorem wq_646 : (Cond.methodLink RX6 161 yX0_get) ∈ wAll := in_t3 135 rfl rfl
theorem wq_647 : (Cond.instanceMethod yX0_get) ∈ wAll := in_t3 136 rfl rfl
theorem wq_648 : (Cond.selects RX0 yX0_get yX0_get) ∈ wAll := in_t3 137 rfl rfl
theorem wq_649 : (Cond.code yX0_get cX0_get 3 (some .int)) ∈ wAll := in_t3 138 rfl rfl
theorem wq_943 : (Cond.methodLink RL 117 yX7_bit) ∈ wAll := in_t4 192 rfl rfl
theorem wq_944 : (Cond.instanceMethod yX7_bit) ∈ wAll := in_t4 193 rfl rfl
theorem wq_945 : (Cond.selects RX7 yX7_bit yX7_bit) ∈ wAll := in_t4 194 rfl rfl
theorem wq_946 : (Cond.code yX7_bit cX7_bit 2 (some .int)) ∈ wAll := in_t4 195 rfl rfl
theorem wq_652 : (Cond.methodLink RL 118 yX6_bits) ∈ wAll := in_t3 141 rfl rfl
theorem wq_653 : (Cond.instanceMethod yX6_bits) ∈ wAll := in_t3 142 rfl rfl
theorem wq_654 : (Cond.selects RX6 yX6_bits yX6_bits) ∈ wAll := in_t3 143 rfl rfl
theorem wq_655 : (Cond.code yX6_bits cX6_bits 2 (some .int)) ∈ wAll := in_t3 144 rfl rfl
theorem wq_656 : (Cond.methodLink RX6 162 yX0_size) ∈ wAll := in_t3 145 rfl rfl
theorem wq_657 : (Cond.methodLink RX6 167 yX0_ones) ∈ wAll := in_t3 146 rfl rfl
theorem wq_658 : (Cond.instanceMethod yX0_ones) ∈ wAll := in_t3 147 rfl rfl
theorem wq_659 : (Cond.selects RX0 yX0_ones yX0_ones) ∈ wAll := in_t3 148 rfl rfl
theorem wq_660 : (Cond.code yX0_ones cX0_ones 2 (some .int)) ∈ wAll := in_t3 149 rfl rfl
theorem wq_661 : (Cond.methodLink RX6 170 yX0_isStill) ∈ wAll := in_t3 150 rfl rfl
theorem wq_947 : (Cond.methodLink RL 121 yX7_bits) ∈ wAll := in_t4 196 rfl rfl
theorem wq_948 : (Cond.instanceMethod yX7_bits) ∈ wAll := in_t4 197 rfl rfl
theorem wq_949 : (Cond.selects RX7 yX7_bits yX7_bits) ∈ wAll := in_t4 198 rfl rfl
theorem wq_950 : (Cond.code yX7_bits cX7_bits 4 (some .int)) ∈ wAll := in_t4 199 rfl rfl
theorem wq_662 : (Cond.methodLink RL 122 yX6_gather) ∈ wAll := in_t3 151 rfl rfl
theorem wq_663 : (Cond.instanceMethod yX6_gather) ∈ wAll := in_t3 152 rfl rfl
theorem wq_664 : (Cond.selects RX6 yX6_gather yX6_gather) ∈ wAll := in_t3 153 rfl rfl
theorem wq_665 : (Cond.code yX6_gather cX6_gather 1 (some .int)) ∈ wAll := in_t3 154 rfl rfl
theorem wq_666 : (Cond.methodLink RX6 174 yX2_become) ∈ wAll := in_t3 155 rfl rfl
theorem wq_951 : (Cond.methodLink RL 125 yX7_gather) ∈ wAll := in_t4 200 rfl rfl
theorem wq_952 : (Cond.instanceMethod yX7_gather) ∈ wAll := in_t4 201 rfl rfl
theorem wq_953 : (Cond.selects RX7 yX7_gather yX7_gather) ∈ wAll := in_t4 202 rfl rfl
theorem wq_954 : (Cond.code yX7_gather cX7_gather 2 (some .int)) ∈ wAll := in_t4 203 rfl rfl
theorem wi_X0 : ∀ w ∈ wsX00, w ∈ wAll := by
  intro w h
  obtain ⟨k, hk⟩ := List.getElem?_of_mem h
  match k, hk with
  | 0, hk => cases hk; exact in_t2 41 rfl rfl
  | 1, hk => cases hk; exact in_t2 43 rfl rfl
  | k + 2, hk => simp [u_ws] at hk
theorem wi_X1 : ∀ w ∈ wsX10, w ∈ wAll := by
  intro w h
  obtain ⟨k, hk⟩ := List.getElem?_of_mem h
  match k, hk with
  | 0, hk => cases hk; exact in_t1 36 rfl rfl
  | 1, hk => cases hk; exact in_t1 38 rfl rfl
  | 2, hk => cases hk; exact in_t1 40 rfl rfl
  | 3, hk => cases hk; exact in_t1 42 rfl rfl
  | 4, hk => cases hk; exact in_t1 44 rfl rfl
  | 5, hk => cases hk; exact in_t1 46 rfl rfl
  | 6, hk => cases hk; exact in_t1 48 rfl rfl
  | k + 7, hk => simp [u_ws] at hk
theorem wi_X2 : ∀ w ∈ wsX20, w ∈ wAll := by
  intro w h
  obtain ⟨k, hk⟩ := List.getElem?_of_mem h
  match k, hk with
  | 0, hk => cases hk; exact in_t2 14 rfl rfl
  | 1, hk => cases hk; exact in_t2 16 rfl rfl
  | 2, hk => cases hk; exact in_t2 18 rfl rfl
  | k + 3, hk => simp [u_ws] at hk
theorem wi_X3 : ∀ w ∈ wsX30, w ∈ wAll := by
  intro w h
  obtain ⟨k, hk⟩ := List.getElem?_of_mem h
  match k, hk with
  | 0, hk => cases hk; exact in_t1 71 rfl rfl
  | 1, hk => cases hk; exact in_t1 73 rfl rfl
  | 2, hk => cases hk; exact in_t1 75 rfl rfl
  | 3, hk => cases hk; exact in_t1 77 rfl rfl
  | 4, hk => cases hk; exact in_t1 79 rfl rfl
  | 5, hk => cases hk; exact in_t1 81 rfl rfl
  | 6, hk => cases hk; exact in_t1 83 rfl rfl
  | 7, hk => cases hk; exact in_t1 85 rfl rfl
  | 8, hk => cases hk; exact in_t1 87 rfl rfl
  | k + 9, hk => simp [u_ws] at hk
theorem wi_X4 : ∀ w ∈ wsX40, w ∈ wAll := by
  intro w h
  obtain ⟨k, hk⟩ := List.getElem?_of_mem h
  match k, hk with
  | 0, hk => cases hk; exact in_t1 229 rfl rfl
  | 1, hk => cases hk; exact in_t1 231 rfl rfl
  | k + 2, hk => simp [u_ws] at hk
theorem wi_X5 : ∀ w ∈ wsX50, w ∈ wAll := by
  intro w h
  obtain ⟨k, hk⟩ := List.getElem?_of_mem h
  match k, hk with
  | 0, hk => cases hk; exact in_t2 24 rfl rfl
  | 1, hk => cases hk; exact in_t2 26 rfl rfl
  | k + 2, hk => simp [u_ws] at hk
theorem wi_X6 : ∀ w ∈ wsX60, w ∈ wAll := by
  intro w h
  obtain ⟨k, hk⟩ := List.getElem?_of_mem h
  match k, hk with
  | 0, hk => cases hk; exact in_t2 51 rfl rfl
  | 1, hk => cases hk; exact in_t2 53 rfl rfl
  | 2, hk => cases hk; exact in_t2 55 rfl rfl
  | 3, hk => cases hk; exact in_t2 57 rfl rfl
  | 4, hk => cases hk; exact in_t2 59 rfl rfl
  | k + 5, hk => simp [u_ws] at hk
theorem wi_X7 : ∀ w ∈ wsX70, w ∈ wAll := by
  intro w h
  obtain ⟨k, hk⟩ := List.getElem?_of_mem h
  match k, hk with
  | 0, hk => cases hk; exact in_t3 192 rfl rfl
  | 1, hk => cases hk; exact in_t3 194 rfl rfl
  | 2, hk => cases hk; exact in_t3 196 rfl rfl
  | 3, hk => cases hk; exact in_t3 198 rfl rfl
  | 4, hk => cases hk; exact in_t3 200 rfl rfl
  | 5, hk => cases hk; exact in_t3 202 rfl rfl
  | 6, hk => cases hk; exact in_t3 204 rfl rfl
  | 7, hk => cases hk; exact in_t3 206 rfl rfl
  | 8, hk => cases hk; exact in_t3 208 rfl rfl
  | 9, hk => cases hk; exact in_t3 210 rfl rfl
  | 10, hk => cases hk; exact in_t3 212 rfl rfl
  | 11, hk => cases hk; exact in_t3 214 rfl rfl
  | 12, hk => cases hk; exact in_t3 216 rfl rfl
  | 13, hk => cases hk; exact in_t3 218 rfl rfl
  | 14, hk => cases hk; exact in_t3 220 rfl rfl
  | 15, hk => cases hk; exact in_t3 222 rfl rfl
  | 16, hk => cases hk; exact in_t3 224 rfl rfl
  | 17, hk => cases hk; exact in_t3 226 rfl rfl
  | 18, hk => cases hk; exact in_t3 228 rfl rfl
  | 19, hk => cases hk; exact in_t3 230 rfl rfl
  | 20, hk => cases hk; exact in_t3 232 rfl rfl
  | 21, hk => cases hk; exact in_t3 234 rfl rfl
  | 22, hk => cases hk; exact in_t3 236 rfl rfl
  | 23, hk => cases hk; exact in_t3 238 rfl rfl
  | 24, hk => cases hk; exact in_t4 0 rfl rfl
  | 25, hk => cases hk; exact in_t4 2 rfl rfl
  | 26, hk => cases hk; exact in_t4 4 rfl rfl
  | 27, hk => cases hk; exact in_t4 6 rfl rfl
  | 28, hk => cases hk; exact in_t4 8 rfl rfl
  | k + 29, hk => simp [u_ws] at hk
abbrev vX0_init : List Cond := Cond.code yX0_init cX0_init 1 none :: wAll
abbrev vX0_layWord : List Cond := Cond.code yX0_layWord cX0_layWord 3 (some .int) :: wAll
abbrev vX0_size : List Cond := Cond.code yX0_size cX0_size 1 (some .int) :: wAll
abbrev vX0_gone : List Cond := Cond.code yX0_gone cX0_gone 1 (some .int) :: wAll
abbrev vX0_get : List Cond := Cond.code yX0_get cX0_get 3 (some .int) :: wAll
abbrev vX0_ones : List Cond := Cond.code yX0_ones cX0_ones 2 (some .int) :: wAll
abbrev vX0_isStill : List Cond := Cond.code yX0_isStill cX0_isStill 2 (some .boolean) :: wAll
abbrev vX0_doSteps : List Cond := Cond.code yX0_doSteps cX0_doSteps 5 (some .int) :: wAll
abbrev vX0_take : List Cond := Cond.code yX0_take cX0_take 7 (some .int) :: wAll
abbrev vX0_takeOne : List Cond := Cond.code yX0_takeOne cX0_takeOne 2 (some .int) :: wAll
abbrev vX0_pass : List Cond := Cond.code yX0_pass cX0_pass 2 none :: wAll
abbrev vX1_init : List Cond := Cond.code yX1_init cX1_init 1 none :: wAll
abbrev vX1_addLine : List Cond := Cond.code yX1_addLine cX1_addLine 5 (some .int) :: wAll
abbrev vX1_forgetLines : List Cond := Cond.code yX1_forgetLines cX1_forgetLines 2 (some .int) :: wAll
abbrev vX1_value : List Cond := Cond.code yX1_value cX1_value 2 (some .int) :: wAll
abbrev vX1_putValue : List Cond := Cond.code yX1_putValue cX1_putValue 4 (some .int) :: wAll
abbrev vX1_lineNow : List Cond := Cond.code yX1_lineNow cX1_lineNow 1 (some .int) :: wAll
abbrev vX1_jump : List Cond := Cond.code yX1_jump cX1_jump 3 (some .int) :: wAll
abbrev vX1_doLines : List Cond := Cond.code yX1_doLines cX1_doLines 3 (some .int) :: wAll
abbrev vX1_doLine : List Cond := Cond.code yX1_doLine cX1_doLine 1 (some .boolean) :: wAll
abbrev vX1_countUp : List Cond := Cond.code yX1_countUp cX1_countUp 2 (some .boolean) :: wAll
abbrev vX1_countDown : List Cond := Cond.code yX1_countDown cX1_countDown 2 (some .boolean) :: wAll
abbrev vX2_init : List Cond := Cond.code yX2_init cX2_init 2 none :: wAll
abbrev vX2_empty : List Cond := Cond.code yX2_empty cX2_empty 1 none :: wAll
abbrev vX2_get : List Cond := Cond.code yX2_get cX2_get 2 (some .int) :: wAll
abbrev vX2_append : List Cond := Cond.code yX2_append cX2_append 2 none :: wAll
abbrev vX2_drop : List Cond := Cond.code yX2_drop cX2_drop 3 none :: wAll
abbrev vX2_become : List Cond := Cond.code yX2_become cX2_become 3 none :: wAll
abbrev vX2_wrapped : List Cond := Cond.code yX2_wrapped cX2_wrapped 2 (some .int) :: wAll
abbrev vX3_init : List Cond := Cond.code yX3_init cX3_init 1 none :: wAll
abbrev vX3_putRule : List Cond := Cond.code yX3_putRule cX3_putRule 5 (some .int) :: wAll
abbrev vX3_dropRule : List Cond := Cond.code yX3_dropRule cX3_dropRule 2 (some .int) :: wAll
abbrev vX3_putPlace : List Cond := Cond.code yX3_putPlace cX3_putPlace 5 none :: wAll
abbrev vX3_isStill : List Cond := Cond.code yX3_isStill cX3_isStill 1 (some .boolean) :: wAll
abbrev vX3_doSteps : List Cond := Cond.code yX3_doSteps cX3_doSteps 3 (some .int) :: wAll
abbrev vX3_doStep : List Cond := Cond.code yX3_doStep cX3_doStep 5 (some .boolean) :: wAll
abbrev vX4_init : List Cond := Cond.code yX4_init cX4_init 2 none :: wAll
abbrev vX4_followNone : List Cond := Cond.code yX4_followNone cX4_followNone 3 none :: wAll
abbrev vX4_follow : List Cond := Cond.code yX4_follow cX4_follow 6 none :: wAll
abbrev vX4_write : List Cond := Cond.code yX4_write cX4_write 8 none :: wAll
abbrev vX4_pairMarked : List Cond := Cond.code yX4_pairMarked cX4_pairMarked 3 (some .int) :: wAll
abbrev vX4_number : List Cond := Cond.code yX4_number cX4_number 2 (some .int) :: wAll
abbrev vX4_append : List Cond := Cond.code yX4_append cX4_append 3 none :: wAll
abbrev vX4_sizeOf : List Cond := Cond.code yX4_sizeOf cX4_sizeOf 2 (some .int) :: wAll
abbrev vX4_letterAt : List Cond := Cond.code yX4_letterAt cX4_letterAt 3 (some .int) :: wAll
abbrev vX4_bitAt : List Cond := Cond.code yX4_bitAt cX4_bitAt 3 (some .int) :: wAll
abbrev vX4_appendTo : List Cond := Cond.code yX4_appendTo cX4_appendTo 6 none :: wAll
abbrev vX5_init : List Cond := Cond.code yX5_init cX5_init 1 none :: wAll
abbrev vX5_layPlace : List Cond := Cond.code yX5_layPlace cX5_layPlace 5 (some .int) :: wAll
abbrev vX5_appendTwos : List Cond := Cond.code yX5_appendTwos cX5_appendTwos 4 none :: wAll
abbrev vX5_addLetter : List Cond := Cond.code yX5_addLetter cX5_addLetter 2 (some .int) :: wAll
abbrev vX5_doSteps : List Cond := Cond.code yX5_doSteps cX5_doSteps 4 (some .int) :: wAll
abbrev vX5_stepsToPlace : List Cond := Cond.code yX5_stepsToPlace cX5_stepsToPlace 3 (some .int) :: wAll
abbrev vX5_doStep : List Cond := Cond.code yX5_doStep cX5_doStep 4 (some .boolean) :: wAll
abbrev vX5_tellPlace : List Cond := Cond.code yX5_tellPlace cX5_tellPlace 4 (some .int) :: wAll
abbrev vX5_middle : List Cond := Cond.code yX5_middle cX5_middle 4 (some .int) :: wAll
abbrev vX5_behindTwos : List Cond := Cond.code yX5_behindTwos cX5_behindTwos 4 (some .int) :: wAll
abbrev vX6_init : List Cond := Cond.code yX6_init cX6_init 1 none :: wAll
abbrev vX6_line : List Cond := Cond.code yX6_line cX6_line 5 (some .int) :: wAll
abbrev vX6_wipe : List Cond := Cond.code yX6_wipe cX6_wipe 1 (some .int) :: wAll
abbrev vX6_set : List Cond := Cond.code yX6_set cX6_set 3 (some .int) :: wAll
abbrev vX6_counter : List Cond := Cond.code yX6_counter cX6_counter 2 (some .int) :: wAll
abbrev vX6_count : List Cond := Cond.code yX6_count cX6_count 2 (some .int) :: wAll
abbrev vX6_at : List Cond := Cond.code yX6_at cX6_at 1 (some .int) :: wAll
abbrev vX6_go : List Cond := Cond.code yX6_go cX6_go 2 (some .int) :: wAll
abbrev vX6_rule : List Cond := Cond.code yX6_rule cX6_rule 7 (some .int) :: wAll
abbrev vX6_unrule : List Cond := Cond.code yX6_unrule cX6_unrule 4 (some .int) :: wAll
abbrev vX6_place : List Cond := Cond.code yX6_place cX6_place 5 (some .int) :: wAll
abbrev vX6_move : List Cond := Cond.code yX6_move cX6_move 2 (some .int) :: wAll
abbrev vX6_where : List Cond := Cond.code yX6_where cX6_where 2 (some .int) :: wAll
abbrev vX6_production : List Cond := Cond.code yX6_production cX6_production 3 (some .int) :: wAll
abbrev vX6_lay : List Cond := Cond.code yX6_lay cX6_lay 1 (some .int) :: wAll
abbrev vX6_add : List Cond := Cond.code yX6_add cX6_add 2 (some .int) :: wAll
abbrev vX6_clear : List Cond := Cond.code yX6_clear cX6_clear 2 (some .int) :: wAll
abbrev vX6_letter : List Cond := Cond.code yX6_letter cX6_letter 2 (some .int) :: wAll
abbrev vX6_length : List Cond := Cond.code yX6_length cX6_length 1 (some .int) :: wAll
abbrev vX6_tag : List Cond := Cond.code yX6_tag cX6_tag 2 (some .int) :: wAll
abbrev vX6_next : List Cond := Cond.code yX6_next cX6_next 1 (some .int) :: wAll
abbrev vX6_told : List Cond := Cond.code yX6_told cX6_told 2 (some .int) :: wAll
abbrev vX6_appendant : List Cond := Cond.code yX6_appendant cX6_appendant 3 (some .int) :: wAll
abbrev vX6_spread : List Cond := Cond.code yX6_spread cX6_spread 1 (some .int) :: wAll
abbrev vX6_cycle : List Cond := Cond.code yX6_cycle cX6_cycle 2 (some .int) :: wAll
abbrev vX6_bit : List Cond := Cond.code yX6_bit cX6_bit 2 (some .int) :: wAll
abbrev vX6_bits : List Cond := Cond.code yX6_bits cX6_bits 2 (some .int) :: wAll
abbrev vX6_gather : List Cond := Cond.code yX6_gather cX6_gather 1 (some .int) :: wAll
abbrev vX6_outside : List Cond := Cond.code yX6_outside cX6_outside 3 (some .boolean) :: wAll
abbrev vX6_oneIf : List Cond := Cond.code yX6_oneIf cX6_oneIf 1 (some .int) :: wAll
abbrev vX6_pairOf : List Cond := Cond.code yX6_pairOf cX6_pairOf 2 (some .int) :: wAll
abbrev vX7_init : List Cond := Cond.code yX7_init cX7_init 1 none :: wAll
abbrev vX7_in : List Cond := Cond.code yX7_in cX7_in 6 (some .boolean) :: wAll
abbrev vX7_line : List Cond := Cond.code yX7_line cX7_line 5 (some .int) :: wAll
abbrev vX7_wipe : List Cond := Cond.code yX7_wipe cX7_wipe 2 (some .int) :: wAll
abbrev vX7_set : List Cond := Cond.code yX7_set cX7_set 4 (some .int) :: wAll
abbrev vX7_counter : List Cond := Cond.code yX7_counter cX7_counter 2 (some .int) :: wAll
abbrev vX7_mayDo : List Cond := Cond.code yX7_mayDo cX7_mayDo 1 (some .boolean) :: wAll
abbrev vX7_count : List Cond := Cond.code yX7_count cX7_count 4 (some .int) :: wAll
abbrev vX7_at : List Cond := Cond.code yX7_at cX7_at 1 (some .int) :: wAll
abbrev vX7_go : List Cond := Cond.code yX7_go cX7_go 3 (some .int) :: wAll
abbrev vX7_isPair : List Cond := Cond.code yX7_isPair cX7_isPair 2 (some .boolean) :: wAll
abbrev vX7_rule : List Cond := Cond.code yX7_rule cX7_rule 9 (some .int) :: wAll
abbrev vX7_unrule : List Cond := Cond.code yX7_unrule cX7_unrule 4 (some .int) :: wAll
abbrev vX7_place : List Cond := Cond.code yX7_place cX7_place 5 (some .int) :: wAll
abbrev vX7_mayMove : List Cond := Cond.code yX7_mayMove cX7_mayMove 2 (some .boolean) :: wAll
abbrev vX7_move : List Cond := Cond.code yX7_move cX7_move 4 (some .int) :: wAll
abbrev vX7_where : List Cond := Cond.code yX7_where cX7_where 2 (some .int) :: wAll
abbrev vX7_makes : List Cond := Cond.code yX7_makes cX7_makes 2 none :: wAll
abbrev vX7_of : List Cond := Cond.code yX7_of cX7_of 2 (some .int) :: wAll
abbrev vX7_one : List Cond := Cond.code yX7_one cX7_one 2 none :: wAll
abbrev vX7_doubled : List Cond := Cond.code yX7_doubled cX7_doubled 3 none :: wAll
abbrev vX7_produceRuled : List Cond := Cond.code yX7_produceRuled cX7_produceRuled 6 none :: wAll
abbrev vX7_produce : List Cond := Cond.code yX7_produce cX7_produce 4 none :: wAll
abbrev vX7_production : List Cond := Cond.code yX7_production cX7_production 3 (some .int) :: wAll
abbrev vX7_letterAt : List Cond := Cond.code yX7_letterAt cX7_letterAt 2 (some .int) :: wAll
abbrev vX7_puts : List Cond := Cond.code yX7_puts cX7_puts 2 none :: wAll
abbrev vX7_lay : List Cond := Cond.code yX7_lay cX7_lay 3 (some .int) :: wAll
abbrev vX7_add : List Cond := Cond.code yX7_add cX7_add 2 (some .int) :: wAll
abbrev vX7_clear : List Cond := Cond.code yX7_clear cX7_clear 2 (some .int) :: wAll
abbrev vX7_letter : List Cond := Cond.code yX7_letter cX7_letter 2 (some .int) :: wAll
abbrev vX7_length : List Cond := Cond.code yX7_length cX7_length 1 (some .int) :: wAll
abbrev vX7_tags : List Cond := Cond.code yX7_tags cX7_tags 2 (some .boolean) :: wAll
abbrev vX7_tag : List Cond := Cond.code yX7_tag cX7_tag 3 (some .int) :: wAll
abbrev vX7_tells : List Cond := Cond.code yX7_tells cX7_tells 4 (some .boolean) :: wAll
abbrev vX7_next : List Cond := Cond.code yX7_next cX7_next 3 (some .int) :: wAll
abbrev vX7_told : List Cond := Cond.code yX7_told cX7_told 2 (some .int) :: wAll
abbrev vX7_bitAt : List Cond := Cond.code yX7_bitAt cX7_bitAt 2 (some .int) :: wAll
abbrev vX7_putBit : List Cond := Cond.code yX7_putBit cX7_putBit 2 none :: wAll
abbrev vX7_appendant : List Cond := Cond.code yX7_appendant cX7_appendant 3 (some .int) :: wAll
abbrev vX7_spread : List Cond := Cond.code yX7_spread cX7_spread 3 (some .int) :: wAll
abbrev vX7_letterOf : List Cond := Cond.code yX7_letterOf cX7_letterOf 5 (some .int) :: wAll
abbrev vX7_isStill : List Cond := Cond.code yX7_isStill cX7_isStill 2 (some .boolean) :: wAll
abbrev vX7_cycles : List Cond := Cond.code yX7_cycles cX7_cycles 4 (some .boolean) :: wAll
abbrev vX7_cycle : List Cond := Cond.code yX7_cycle cX7_cycle 3 (some .int) :: wAll
abbrev vX7_bit : List Cond := Cond.code yX7_bit cX7_bit 2 (some .int) :: wAll
abbrev vX7_bits : List Cond := Cond.code yX7_bits cX7_bits 4 (some .int) :: wAll
abbrev vX7_gather : List Cond := Cond.code yX7_gather cX7_gather 2 (some .int) :: wAll
abbrev vJ9_max_7cf53 : List Cond := Cond.code yJ9_max_7cf53 cJ9_max_7cf53 2 (some .int) :: wAll
abbrev vJ9_min_7cf53 : List Cond := Cond.code yJ9_min_7cf53 cJ9_min_7cf53 2 (some .int) :: wAll
abbrev vJ0_length_8abf5 : List Cond := Cond.code yJ0_length_8abf5 cJ0_length_8abf5 1 (some .int) :: wAll
abbrev vJ0_charAt_5068e : List Cond := Cond.code yJ0_charAt_5068e cJ0_charAt_5068e 2 (some .char) :: wAll
abbrev vJ0_indexOf_0f7a4 : List Cond := Cond.code yJ0_indexOf_0f7a4 cJ0_indexOf_0f7a4 2 (some .int) :: wAll
abbrev vJ0_indexOf_7cf53 : List Cond := Cond.code yJ0_indexOf_7cf53 cJ0_indexOf_7cf53 3 (some .int) :: wAll
abbrev vJ0_coder_7d493 : List Cond := Cond.code yJ0_coder_7d493 cJ0_coder_7d493 1 (some .byte) :: wAll
abbrev vJ0_isLatin1_aae02 : List Cond := Cond.code yJ0_isLatin1_aae02 cJ0_isLatin1_aae02 1 (some .boolean) :: wAll
abbrev vJ0_checkIndex_df160 : List Cond := Cond.code yJ0_checkIndex_df160 cJ0_checkIndex_df160 2 none :: wAll
abbrev vJ1_charAt_3b067 : List Cond := Cond.code yJ1_charAt_3b067 cJ1_charAt_3b067 2 (some .char) :: wAll
abbrev vJ1_canEncode_9a6ad : List Cond := Cond.code yJ1_canEncode_9a6ad cJ1_canEncode_9a6ad 1 (some .boolean) :: wAll
abbrev vJ1_indexOf_4cfef : List Cond := Cond.code yJ1_indexOf_4cfef cJ1_indexOf_4cfef 4 (some .int) :: wAll
abbrev vJ1_indexOfChar_4cfef : List Cond := Cond.code yJ1_indexOfChar_4cfef cJ1_indexOfChar_4cfef 6 (some .int) :: wAll
abbrev vJ3_checkIndex_8e157 : List Cond := Cond.code yJ3_checkIndex_8e157 cJ3_checkIndex_8e157 3 (some .int) :: wAll
end
section
/-! rows over ints that are known naturals: nI a -/
section XR
variable {p : Program} {l : Launch} {e : Env} {R : Room} {s : State} {m : MethodId} {args : Array Value} {below : List Frame} {meth : Method} {c : Code} {H : Heap} {locs : List Loc} {cells slots : Nat} {Q : State → Prop}
variable {cc : ByteArray} {pc : Nat} {ls : Array Slot} {rest : List Value}
theorem ln_iadd (r : Nat) (hx : p.tables.exec = Jvm.exec) (hb : c.code = cc) {a b : Nat} (hdg : decode cc pc = .ok (.iadd, 1))  (hr : a + b = r) (k : W p l e R s m args below meth c H locs cells slots Q (F0 m (pc + 1) ls (.int (nI r) :: rest))) : W p l e R s m args below meth c H locs cells slots Q (F0 m pc ls (.int (nI b) :: .int (nI a) :: rest)) := by
  subst hr
  exact lv_iadd hx hb hdg (by rw [nI_add]; exact k)
theorem ln_isub (r : Nat) (hx : p.tables.exec = Jvm.exec) (hb : c.code = cc) {a b : Nat} (hdg : decode cc pc = .ok (.isub, 1)) (h : b ≤ a) (hr : a - b = r) (k : W p l e R s m args below meth c H locs cells slots Q (F0 m (pc + 1) ls (.int (nI r) :: rest))) : W p l e R s m args below meth c H locs cells slots Q (F0 m pc ls (.int (nI b) :: .int (nI a) :: rest)) := by
  subst hr
  exact lv_isub hx hb hdg (by rw [pk_sub h]; exact k)
theorem ln_imul (r : Nat) (hx : p.tables.exec = Jvm.exec) (hb : c.code = cc) {a b : Nat} (hdg : decode cc pc = .ok (.imul, 1))  (hr : a * b = r) (k : W p l e R s m args below meth c H locs cells slots Q (F0 m (pc + 1) ls (.int (nI r) :: rest))) : W p l e R s m args below meth c H locs cells slots Q (F0 m pc ls (.int (nI b) :: .int (nI a) :: rest)) := by
  subst hr
  exact lv_imul hx hb hdg (by rw [pk_mul]; exact k)
theorem ln_idiv (r : Nat) (hx : p.tables.exec = Jvm.exec) (hb : c.code = cc) {a b : Nat} (hdg : decode cc pc = .ok (.idiv, 1)) (h0 : 0 < b) (ha : a < 2147483648) (hb2 : b < 2147483648) (hr : a / b = r) (k : W p l e R s m args below meth c H locs cells slots Q (F0 m (pc + 1) ls (.int (nI r) :: rest))) : W p l e R s m args below meth c H locs cells slots Q (F0 m pc ls (.int (nI b) :: .int (nI a) :: rest)) := by
  subst hr
  exact lv_idiv hx hb hdg (nI_ne0 h0 hb2) (by rw [pk_div ha h0 hb2]; exact k)
theorem ln_irem (r : Nat) (hx : p.tables.exec = Jvm.exec) (hb : c.code = cc) {a b : Nat} (hdg : decode cc pc = .ok (.irem, 1)) (h0 : 0 < b) (ha : a < 2147483648) (hb2 : b < 2147483648) (hr : a % b = r) (k : W p l e R s m args below meth c H locs cells slots Q (F0 m (pc + 1) ls (.int (nI r) :: rest))) : W p l e R s m args below meth c H locs cells slots Q (F0 m pc ls (.int (nI b) :: .int (nI a) :: rest)) := by
  subst hr
  exact lv_irem hx hb hdg (nI_ne0 h0 hb2) (by rw [pk_rem ha h0 hb2]; exact k)
theorem ln_icmp_eq (hx : p.tables.exec = Jvm.exec) (hb : c.code = cc) {a b : Nat} {off : Int} {tgt : Nat} (hdg : decode cc pc = .ok (.if_icmp .eq off, 3)) (ht : (pc : Int) + off = (tgt : Int)) (ha : a < 2147483648) (hb2 : b < 2147483648) (kt : a = b → W p l e R s m args below meth c H locs cells slots Q (F0 m tgt ls rest)) (kf : ¬ a = b → W p l e R s m args below meth c H locs cells slots Q (F0 m (pc + 3) ls rest)) : W p l e R s m args below meth c H locs cells slots Q (F0 m pc ls (.int (nI b) :: .int (nI a) :: rest)) := lv_icmp_eq hx hb hdg ht (fun h => kt ((nI_eq ha hb2).mp h)) (fun h => kf (fun q => h ((nI_eq ha hb2).mpr q)))
theorem ln_icmp_ne (hx : p.tables.exec = Jvm.exec) (hb : c.code = cc) {a b : Nat} {off : Int} {tgt : Nat} (hdg : decode cc pc = .ok (.if_icmp .ne off, 3)) (ht : (pc : Int) + off = (tgt : Int)) (ha : a < 2147483648) (hb2 : b < 2147483648) (kt : ¬ a = b → W p l e R s m args below meth c H locs cells slots Q (F0 m tgt ls rest)) (kf : a = b → W p l e R s m args below meth c H locs cells slots Q (F0 m (pc + 3) ls rest)) : W p l e R s m args below meth c H locs cells slots Q (F0 m pc ls (.int (nI b) :: .int (nI a) :: rest)) := lv_icmp_ne hx hb hdg ht (fun h => kt (fun q => h ((nI_eq ha hb2).mpr q))) (fun h => kf ((nI_eq ha hb2).mp h))
theorem ln_icmp_lt (hx : p.tables.exec = Jvm.exec) (hb : c.code = cc) {a b : Nat} {off : Int} {tgt : Nat} (hdg : decode cc pc = .ok (.if_icmp .lt off, 3)) (ht : (pc : Int) + off = (tgt : Int)) (ha : a < 2147483648) (hb2 : b < 2147483648) (kt : a < b → W p l e R s m args below meth c H locs cells slots Q (F0 m tgt ls rest)) (kf : b ≤ a → W p l e R s m args below meth c H locs cells slots Q (F0 m (pc + 3) ls rest)) : W p l e R s m args below meth c H locs cells slots Q (F0 m pc ls (.int (nI b) :: .int (nI a) :: rest)) := lv_icmp_lt hx hb hdg ht (fun h => kt ((nI_ltI ha hb2).mp h)) (fun h => kf (Nat.le_of_not_lt fun q => h ((nI_ltI ha hb2).mpr q)))
theorem ln_icmp_ge (hx : p.tables.exec = Jvm.exec) (hb : c.code = cc) {a b : Nat} {off : Int} {tgt : Nat} (hdg : decode cc pc = .ok (.if_icmp .ge off, 3)) (ht : (pc : Int) + off = (tgt : Int)) (ha : a < 2147483648) (hb2 : b < 2147483648) (kt : b ≤ a → W p l e R s m args below meth c H locs cells slots Q (F0 m tgt ls rest)) (kf : a < b → W p l e R s m args below meth c H locs cells slots Q (F0 m (pc + 3) ls rest)) : W p l e R s m args below meth c H locs cells slots Q (F0 m pc ls (.int (nI b) :: .int (nI a) :: rest)) := lv_icmp_ge hx hb hdg ht (fun h => kt ((nI_leI hb2 ha).mp h)) (fun h => kf (Nat.lt_of_not_le fun q => h ((nI_leI hb2 ha).mpr q)))
theorem ln_icmp_gt (hx : p.tables.exec = Jvm.exec) (hb : c.code = cc) {a b : Nat} {off : Int} {tgt : Nat} (hdg : decode cc pc = .ok (.if_icmp .gt off, 3)) (ht : (pc : Int) + off = (tgt : Int)) (ha : a < 2147483648) (hb2 : b < 2147483648) (kt : b < a → W p l e R s m args below meth c H locs cells slots Q (F0 m tgt ls rest)) (kf : a ≤ b → W p l e R s m args below meth c H locs cells slots Q (F0 m (pc + 3) ls rest)) : W p l e R s m args below meth c H locs cells slots Q (F0 m pc ls (.int (nI b) :: .int (nI a) :: rest)) := lv_icmp_gt hx hb hdg ht (fun h => kt ((nI_ltI hb2 ha).mp h)) (fun h => kf (Nat.le_of_not_lt fun q => h ((nI_ltI hb2 ha).mpr q)))
theorem ln_icmp_le (hx : p.tables.exec = Jvm.exec) (hb : c.code = cc) {a b : Nat} {off : Int} {tgt : Nat} (hdg : decode cc pc = .ok (.if_icmp .le off, 3)) (ht : (pc : Int) + off = (tgt : Int)) (ha : a < 2147483648) (hb2 : b < 2147483648) (kt : a ≤ b → W p l e R s m args below meth c H locs cells slots Q (F0 m tgt ls rest)) (kf : b < a → W p l e R s m args below meth c H locs cells slots Q (F0 m (pc + 3) ls rest)) : W p l e R s m args below meth c H locs cells slots Q (F0 m pc ls (.int (nI b) :: .int (nI a) :: rest)) := lv_icmp_le hx hb hdg ht (fun h => kt ((nI_leI ha hb2).mp h)) (fun h => kf (Nat.lt_of_not_le fun q => h ((nI_leI ha hb2).mpr q)))
theorem ln_if_eq (hx : p.tables.exec = Jvm.exec) (hb : c.code = cc) {a : Nat} {off : Int} {tgt : Nat} (hdg : decode cc pc = .ok (.ifCond .eq off, 3)) (ht : (pc : Int) + off = (tgt : Int)) (ha : a < 2147483648) (kt : a = 0 → W p l e R s m args below meth c H locs cells slots Q (F0 m tgt ls rest)) (kf : ¬ a = 0 → W p l e R s m args below meth c H locs cells slots Q (F0 m (pc + 3) ls rest)) : W p l e R s m args below meth c H locs cells slots Q (F0 m pc ls (.int (nI a) :: rest)) := lv_if_eq hx hb hdg ht (fun h => kt ((nI_eq ha (Nat.zero_lt_succ _)).mp h)) (fun h => kf (fun q => h ((nI_eq ha (Nat.zero_lt_succ _)).mpr q)))
theorem ln_if_ne (hx : p.tables.exec = Jvm.exec) (hb : c.code = cc) {a : Nat} {off : Int} {tgt : Nat} (hdg : decode cc pc = .ok (.ifCond .ne off, 3)) (ht : (pc : Int) + off = (tgt : Int)) (ha : a < 2147483648) (kt : ¬ a = 0 → W p l e R s m args below meth c H locs cells slots Q (F0 m tgt ls rest)) (kf : a = 0 → W p l e R s m args below meth c H locs cells slots Q (F0 m (pc + 3) ls rest)) : W p l e R s m args below meth c H locs cells slots Q (F0 m pc ls (.int (nI a) :: rest)) := lv_if_ne hx hb hdg ht (fun h => kt (fun q => h ((nI_eq ha (Nat.zero_lt_succ _)).mpr q))) (fun h => kf ((nI_eq ha (Nat.zero_lt_succ _)).mp h))
theorem ln_if_gt (hx : p.tables.exec = Jvm.exec) (hb : c.code = cc) {a : Nat} {off : Int} {tgt : Nat} (hdg : decode cc pc = .ok (.ifCond .gt off, 3)) (ht : (pc : Int) + off = (tgt : Int)) (ha : a < 2147483648) (kt : 0 < a → W p l e R s m args below meth c H locs cells slots Q (F0 m tgt ls rest)) (kf : a = 0 → W p l e R s m args below meth c H locs cells slots Q (F0 m (pc + 3) ls rest)) : W p l e R s m args below meth c H locs cells slots Q (F0 m pc ls (.int (nI a) :: rest)) := lv_if_gt hx hb hdg ht (fun h => kt ((nI_ltI (Nat.zero_lt_succ _) ha).mp h)) (fun h => kf (Nat.eq_zero_of_not_pos fun q => h ((nI_ltI (Nat.zero_lt_succ _) ha).mpr q)))
theorem ln_if_le (hx : p.tables.exec = Jvm.exec) (hb : c.code = cc) {a : Nat} {off : Int} {tgt : Nat} (hdg : decode cc pc = .ok (.ifCond .le off, 3)) (ht : (pc : Int) + off = (tgt : Int)) (ha : a < 2147483648) (kt : a = 0 → W p l e R s m args below meth c H locs cells slots Q (F0 m tgt ls rest)) (kf : 0 < a → W p l e R s m args below meth c H locs cells slots Q (F0 m (pc + 3) ls rest)) : W p l e R s m args below meth c H locs cells slots Q (F0 m pc ls (.int (nI a) :: rest)) := lv_if_le hx hb hdg ht (fun h => kt (Nat.le_zero.mp ((nI_leI ha (Nat.zero_lt_succ _)).mp h))) (fun h => kf (Nat.lt_of_not_le fun q => h ((nI_leI ha (Nat.zero_lt_succ _)).mpr q)))
theorem ln_if_lt (hx : p.tables.exec = Jvm.exec) (hb : c.code = cc) {a : Nat} {off : Int} {tgt : Nat} (hdg : decode cc pc = .ok (.ifCond .lt off, 3)) (ht : (pc : Int) + off = (tgt : Int)) (ha : a < 2147483648) (kf : W p l e R s m args below meth c H locs cells slots Q (F0 m (pc + 3) ls rest)) : W p l e R s m args below meth c H locs cells slots Q (F0 m pc ls (.int (nI a) :: rest)) := lv_if_lt hx hb hdg ht (fun h => absurd h (nI_pos ha)) (fun _ => kf)
theorem ln_if_ge (hx : p.tables.exec = Jvm.exec) (hb : c.code = cc) {a : Nat} {off : Int} {tgt : Nat} (hdg : decode cc pc = .ok (.ifCond .ge off, 3)) (ht : (pc : Int) + off = (tgt : Int)) (ha : a < 2147483648) (kt : W p l e R s m args below meth c H locs cells slots Q (F0 m tgt ls rest)) : W p l e R s m args below meth c H locs cells slots Q (F0 m pc ls (.int (nI a) :: rest)) := lv_if_ge hx hb hdg ht (fun _ => kt) (fun h => absurd (nI_pos' ha) h)
theorem nI_inc (a : Nat) (k : Nat) : nI a + Int32.ofInt (k : Int) = nI (a + k) := by
  rw [show Int32.ofInt (k : Int) = nI k from rfl, nI_add]
theorem ln_iinc {k0 k : Nat} (r : Nat) (hx : p.tables.exec = Jvm.exec) (hb : c.code = cc) {i nL a : Nat} {n : Int} {lv lv' : List (Nat × Value)} (hdg : decode cc pc = .ok (.iinc i n, 3)) (h : lv_has ls nL lv) (hk : lv[k0]? = some (i, .int (nI a))) (hn2 : n = (k : Int)) (hr : a + k = r) (hn : i < nL) (hl : (i, Value.int (nI r)) :: lv.filter (fun q => !(q.1 == i) && !(q.1 + 1 == i && q.2.category == 2)) = lv') (kk : ∀ ls' : Array Slot, lv_has ls' nL lv' → W p l e R s m args below meth c H locs cells slots Q (F0 m (pc + 3) ls' rest)) : W p l e R s m args below meth c H locs cells slots Q (F0 m pc ls rest) := lv_iinc (v := nI r) hx hb hdg h hk (by rw [hn2, nI_inc, hr]) hn hl kk
/-- a number is nI n -/
theorem ln_const (v : Nat) (hx : p.tables.exec = Jvm.exec) (hb : c.code = cc) {n : Int} (hdg : decode cc pc = .ok (.iconst n, 1)) (hv : Int32.ofInt n = nI v) (k : W p l e R s m args below meth c H locs cells slots Q (F0 m (pc + 1) ls (.int (nI v) :: rest))) : W p l e R s m args below meth c H locs cells slots Q (F0 m pc ls rest) := lv_iconst hx hb hdg hv k
theorem ln_bipush (v : Nat) (hx : p.tables.exec = Jvm.exec) (hb : c.code = cc) {n : Int} (hdg : decode cc pc = .ok (.bipush n, 2)) (hv : (Int8.ofInt n).toInt32 = nI v) (k : W p l e R s m args below meth c H locs cells slots Q (F0 m (pc + 2) ls (.int (nI v) :: rest))) : W p l e R s m args below meth c H locs cells slots Q (F0 m pc ls rest) := lv_bipush hx hb hdg hv k
theorem ln_sipush (v : Nat) (hx : p.tables.exec = Jvm.exec) (hb : c.code = cc) {n : Int} (hdg : decode cc pc = .ok (.sipush n, 3)) (hv : (Int16.ofInt n).toInt32 = nI v) (k : W p l e R s m args below meth c H locs cells slots Q (F0 m (pc + 3) ls (.int (nI v) :: rest))) : W p l e R s m args below meth c H locs cells slots Q (F0 m pc ls rest) := lv_sipush hx hb hdg hv k
/-- the top of the stack by another name -/
theorem ln_top {x y : Int32} (h : x = y) (k : W p l e R s m args below meth c H locs cells slots Q (F0 m pc ls (.int y :: rest))) : W p l e R s m args below meth c H locs cells slots Q (F0 m pc ls (.int x :: rest)) := by rw [h]; exact k
end XR
/-! the world: what all contracts share -/
abbrev xZ : Type := va_G × ((Nat → Nat) × (Nat → Nat)) × ClassId × ClassId
abbrev xty (Z : xZ) : List (ClassId × FieldType) := [(Z.2.2.1, .int), (Z.2.2.2, .boolean)]
/-- an int array of naturals -/
abbrev xI (Z : xZ) (n : Nat) (g : Nat → Nat) : va_E := .inl (Z.2.2.1, n, .inl (fun k => nI (g k)))
/-- an int array -/
abbrev xJ (Z : xZ) (n : Nat) (g : Nat → Int32) : va_E := .inl (Z.2.2.1, n, .inl g)
/-- a boolean array -/
abbrev xO (Z : xZ) (n : Nat) (g : Nat → Nat) : va_E := .inl (Z.2.2.2, n, .inl (fun k => nI (g k)))
theorem upd_nI (g : Nat → Nat) (k x : Nat) : upd (fun j => nI (g j)) k (nI x) = fun j => nI (va_up g k x j) := by
  funext j
  unfold upd va_up
  split <;> rfl
def xNM : List (String × Nat × MethodName × String) := [(RX6, 11, yX1_init, RX6), (RX6, 18, yX3_init, RX6), (RX4, 68, yX6_pairOf, RX6), (RX6, 32, yX5_init, RX6), (RX6, 39, yX0_init, RX6), (RX1, 38, yX6_outside, RX6), (RX3, 41, yX6_pairOf, RX6), (RX4, 71, yX6_outside, RX6), (RX2, 28, yX6_outside, RX6), (RX4, 81, yX6_oneIf, RX6), (RX0, 38, yX6_outside, RX6), (RX0, 46, yX6_oneIf, RX6)]
def xNF : List (String × Nat × String × String × String × String) := [(RX6, 97, RX3, "state", "I", RX6), (RX6, 101, RX3, "sign", "I", RX6), (RX6, 104, RX3, "left", "I", RX6), (RX6, 107, RX3, "right", "I", RX6), (RX0, 20, RX2, "size", "I", RX6), (RX5, 30, RX2, "size", "I", RX6), (RX6, 132, RX2, "size", "I", RX6), (RX6, 128, RX5, "row", "LTagTower$LetterRow;", RX6), (RX6, 173, RX0, "row", "LTagTower$LetterRow;", RX6), (RX6, 164, RX0, "turn", "I", RX6)]
/-- the links between nest mates, the constant strings, the statics that String's methods read -/
def xN (U : State) : Prop := (∀ q ∈ xNM, va_Nw (.methodLinkNest q.1 q.2.1 q.2.2.1 q.2.2.2) U) ∧ ∀ q ∈ xNF, va_Nw (.fieldLinkNest q.1 q.2.1 q.2.2.1 q.2.2.2.1 q.2.2.2.2.1 q.2.2.2.2.2) U
def xTx : List String := ["xAaPpBbQqCcDEdeSsTUtu", "Q:Bx q:bx", "C:DE c:de S:TU s:tu", "A:Cx a:cxcx B:S b:s D:A1x E:xA0x d:a1x e:a0x T:B1x U:B0x t:b1x u:b0x", "A:Px a:px P:S p:s B:Cx b:cxcx D:Q1x E:xQ0x d:q1x e:q0x T:A1x U:A0x t:a1x u:a0x", "A:cx", "B:cx"]
def xTk : List Nat := [50, 22, 30, 32, 34, 36, 38]
def xTb : List (List Nat) := [[120, 65, 97, 80, 112, 66, 98, 81, 113, 67, 99, 68, 69, 100, 101, 83, 115, 84, 85, 116, 117], [81, 58, 66, 120, 32, 113, 58, 98, 120], [67, 58, 68, 69, 32, 99, 58, 100, 101, 32, 83, 58, 84, 85, 32, 115, 58, 116, 117], [65, 58, 67, 120, 32, 97, 58, 99, 120, 99, 120, 32, 66, 58, 83, 32, 98, 58, 115, 32, 68, 58, 65, 49, 120, 32, 69, 58, 120, 65, 48, 120, 32, 100, 58, 97, 49, 120, 32, 101, 58, 97, 48, 120, 32, 84, 58, 66, 49, 120, 32, 85, 58, 66, 48, 120, 32, 116, 58, 98, 49, 120, 32, 117, 58, 98, 48, 120], [65, 58, 80, 120, 32, 97, 58, 112, 120, 32, 80, 58, 83, 32, 112, 58, 115, 32, 66, 58, 67, 120, 32, 98, 58, 99, 120, 99, 120, 32, 68, 58, 81, 49, 120, 32, 69, 58, 120, 81, 48, 120, 32, 100, 58, 113, 49, 120, 32, 101, 58, 113, 48, 120, 32, 84, 58, 65, 49, 120, 32, 85, 58, 65, 48, 120, 32, 116, 58, 97, 49, 120, 32, 117, 58, 97, 48, 120], [65, 58, 99, 120], [66, 58, 99, 120]]
def xTl : List Nat := [21, 9, 19, 68, 78, 4, 4]
def xTi : List (List Int32) := xTb.map (fun b => b.map nI)
def xE (Z : xZ) (A : Nat → Prop) (U : State) (H : Heap) : Prop := xN U ∧ vk_S 7 xTl xTi Z.2.1.1 Z.2.1.2 A U H ∧ (∀ i, i < 7 → vk_R RX4 (xTk.getD i 0) (xTx.getD i "") (Z.2.1.1 i) U) ∧ va_Z "java/lang/String" "COMPACT_STRINGS" "Z" (.int 1) A U H ∧ va_Zq "jdk/internal/util/Preconditions" "SIOOBE_FORMATTER" "Ljava/util/function/BiFunction;" A U H
theorem xN.warm {s U : State} (hW : s.WarmedH U.vm) (h : xN s) : xN U := ⟨fun q hq => (h.1 q hq).warmM hW, fun q hq => (h.2 q hq).warmF hW⟩
theorem xN.same {u U : State} (hv : u.vm = U.vm) (h : xN u) : xN U := ⟨fun q hq => (h.1 q hq).same rfl hv, fun q hq => (h.2 q hq).same rfl hv⟩
theorem xE.blind {Z : xZ} {A : Nat → Prop} {U : State} {g : JFrame} {mk : MethodId} {a : Array Value} (h : xE Z A U U.heap) : xE Z A (U.calling g mk a) (U.calling g mk a).heap :=
  ⟨h.1.same rfl, vk_S.moved (u := U) (U := U.calling g mk a) (Vm.Alike.refl U.vm) h.2.1, fun i hi => (h.2.2.1 i hi).same rfl, va_Z.moved (u := U) (U := U.calling g mk a) (Vm.Alike.refl U.vm) h.2.2.2.1, va_Zq.moved (u := U) (U := U.calling g mk a) (Vm.Alike.refl U.vm) h.2.2.2.2⟩
theorem xE.step {Z : xZ} {A A' : Nat → Prop} {s U : State} {H : Heap} {locs : List Loc} (h : xE Z A s s.heap) (hS : va_S A s.heap H locs) (hA : ∀ q, A' q → A q) (hU : U.heap = H) (hW : s.WarmedH U.vm) : xE Z A' U U.heap := by
  subst hU
  exact ⟨h.1.warm hW, ((vk_S.moved hW.alike h.2.1).kept hS.2.1).narrow hA, fun i hi => (h.2.2.1 i hi).warm hW, ((va_Z.moved hW.alike h.2.2.2.1).kept hS.2.1).narrow hA, ((va_Zq.moved hW.alike h.2.2.2.2).kept hS.2.1).narrow hA⟩
/-- what holds in a method's body all the time -/
def xC (p : Program) (s : State) (m : MethodId) (args : Array Value) (c : Code) (cc : ByteArray) (nL : Nat) (own : String) (Ts : List Cond) (Z : xZ) (A : Nat → Prop) : Prop :=
  CallFix p m c cc nL s args Ts own ∧ va_K Z.1 vwCl (xty Z) s ∧ (∀ q, s.heap.size ≤ q → A q) ∧ xE Z A s s.heap
def xPc (Z : xZ) (w : va_W) (av : List Value) (sz : Nat) : Array Value → State → Prop := va_Pc av (fun U => U.heap.size = sz ∧ va_P Z.1 vwCl w U.heap ∧ va_K Z.1 vwCl (xty Z) U ∧ va_D (fun _ => True) w ∧ xE Z (va_A w sz) U U.heap)
def xB (Z : xZ) (A : Nat → Prop) : va_W → State → Prop := fun w t => va_P Z.1 vwCl w t.heap ∧ va_K Z.1 vwCl (xty Z) t ∧ va_D A w
/-- a method that answers an int: from the cells w, with these arguments -/
def xMi (l : Launch) (Z : xZ) (y : MethodName) (ws : List Cond) (rm : Room) (av : List Value) (w : va_W) (post : Int32 → va_W → Prop) : Prop := ∀ sz, Met l y ws rm (xPc Z w av sz) (va_Qi post (xB Z (va_A w sz)) (va_A w sz)) rm.cells rm.slots (va_A w sz)
def xMv (l : Launch) (Z : xZ) (y : MethodName) (ws : List Cond) (rm : Room) (av : List Value) (w : va_W) (post : va_W → Prop) : Prop := ∀ sz, Met l y ws rm (xPc Z w av sz) (va_Qv post (xB Z (va_A w sz)) (va_A w sz)) rm.cells rm.slots (va_A w sz)
theorem xPc.blind {Z : xZ} {w : va_W} {av : List Value} {sz : Nat} : FrameBlind (xPc Z w av sz) := by
  intro a U g mk q
  obtain ⟨q0, q1, qP, qK, qD, qE⟩ := q
  exact ⟨q0, q1, qP, va_K.moved (u := U) (U := U.calling g mk a) (Vm.Alike.refl U.vm) qK, qD, qE.blind⟩
section XC

variable {p : Program} {l : Launch} {e : Env} {R : Room} {s : State} {m : MethodId} {args : Array Value} {below : List Frame} {meth : Method} {c : Code} {H : Heap} {locs : List Loc} {cells slots : Nat} {Q : State → Prop}
variable {cc : ByteArray} {pc : Nat} {ls : Array Slot} {rest : List Value}
variable {Z : xZ} {A : Nat → Prop} {nL : Nat} {own : String} {Ts : List Cond} {ws : va_W}
/-- the entry of a method -/
theorem x_body {y : MethodName} {wd wd' : List Cond} {maxL : Nat} {ret : Option FieldType} {rm : Room} {av : List Value} {w : va_W} {sz : Nat} {Qc : Array Value → State → Outcome → State → Prop} (hy : plainName y.cls = true) (hw : wd = Cond.code y cc maxL ret :: wd') (hs : (lg_sl av).length ≤ maxL)
    (body : ∀ (p : Program) (e : Env) (s : State) (m : MethodId) (args : Array Value) (below : List Frame) (meth : Method) (c : Code) (ls : Array Slot), s.heap.size = sz → xC p s m args c cc maxL y.cls wd Z (va_A w sz) → meth.sig.returnType = ret → meth.locks = false → meth.name = y.name → lv_has ls maxL (lv_args 0 av) → va_P Z.1 vwCl w s.heap → va_D (va_A w sz) w → va_S (va_A w sz) s.heap s.heap [] → W p l e rm s m args below meth c s.heap [] 0 0 (MQ below Qc args s rm.cells rm.slots (va_A w sz)) (F0 m 0 ls [])) :
    Met l y wd rm (xPc Z w av sz) Qc rm.cells rm.slots (va_A w sz) := by
  refine Met.ofW (cc := cc) (maxL := maxL) (ret := ret) hy hw ?_
  intro p e s m args below meth c s₁ B hml hv
  obtain ⟨rfl, hsz, hP, hK, hD0, hE⟩ := hv
  have hl := lv_entry av (n := maxL) hs
  rw [lg_entry_eq]
  refine body p e s m _ below meth c _ hsz ⟨⟨B.exec, B.bytes, hml, findClass_of_methodNamed B.named, atoms_spec (ws := wd) B.pre⟩, hK, fun q h => Or.inr (by rw [← hsz]; exact h), hE⟩ B.returns B.notSynchronized (name_of_methodNamed B.named B.method).1 hl hP (hD0.self (sz := sz)) va_S.rf
theorem x_i {y : MethodName} {wd wd' : List Cond} {maxL : Nat} {ty : FieldType} {rm : Room} {av : List Value} {w : va_W} {post : Int32 → va_W → Prop} (hy : plainName y.cls = true) (hw : wd = Cond.code y cc maxL (some ty) :: wd') (hs : (lg_sl av).length ≤ maxL)
    (body : ∀ (p : Program) (e : Env) (s : State) (m : MethodId) (args : Array Value) (below : List Frame) (meth : Method) (c : Code) (ls : Array Slot) (A : Nat → Prop), xC p s m args c cc maxL y.cls wd Z A → meth.sig.returnType = some ty → meth.locks = false → lv_has ls maxL (lv_args 0 av) → va_P Z.1 vwCl w s.heap → va_D A w → va_S A s.heap s.heap [] → W p l e rm s m args below meth c s.heap [] 0 0 (MQ below (va_Qi post (xB Z A) A) args s rm.cells rm.slots A) (F0 m 0 ls [])) :
    xMi l Z y wd rm av w post := fun sz => x_body hy hw hs (fun p e s m args below meth c ls _ hC hr hk _ hl hP hD hS => body p e s m args below meth c ls _ hC hr hk hl hP hD hS)
theorem x_v {y : MethodName} {wd wd' : List Cond} {maxL : Nat} {rm : Room} {av : List Value} {w : va_W} {post : va_W → Prop} (hy : plainName y.cls = true) (hw : wd = Cond.code y cc maxL none :: wd') (hs : (lg_sl av).length ≤ maxL)
    (body : ∀ (p : Program) (e : Env) (s : State) (m : MethodId) (args : Array Value) (below : List Frame) (meth : Method) (c : Code) (ls : Array Slot) (A : Nat → Prop), xC p s m args c cc maxL y.cls wd Z A → meth.sig.returnType = none → meth.locks = false → meth.name = y.name → lv_has ls maxL (lv_args 0 av) → va_P Z.1 vwCl w s.heap → va_D A w → va_S A s.heap s.heap [] → W p l e rm s m args below meth c s.heap [] 0 0 (MQ below (va_Qv post (xB Z A) A) args s rm.cells rm.slots A) (F0 m 0 ls [])) :
    xMv l Z y wd rm av w post := fun sz => x_body hy hw hs (fun p e s m args below meth c ls _ hC hr hk hn hl hP hD hS => body p e s m args below meth c ls _ hC hr hk hn hl hP hD hS)
/-- the ends -/
theorem x_iret {post : Int32 → va_W → Prop} {v : Int32} (hC : xC p s m args c cc nL own Ts Z A) (hr : meth.sig.returnType = some .int) (hk : meth.locks = false) (hP : va_P Z.1 vwCl ws H) (hD : va_D A ws) (hS : va_S A s.heap H locs) (hdg : decode cc pc = .ok (.ireturn, 1)) (hp : post v ws) : W p l e R s m args below meth c H locs cells slots (MQ below (va_Qi post (xB Z A) A) args s cells slots A) (F0 m pc ls [.int v]) :=
  W.iret hC.1.1 hC.1.2.1 hr (fun t ht hW => ⟨⟨v, ws, rfl, hp, by rw [ht]; exact hP, va_K.moved hW.alike hC.2.1, hD⟩, hS.F ht⟩) hS.2.2 hdg hk
theorem x_zret {post : Int32 → va_W → Prop} {v : Int32} {ty : FieldType} (hC : xC p s m args c cc nL own Ts Z A) (hr : meth.sig.returnType = some ty) (hn : narrow ty (.int v) = .int v) (hk : meth.locks = false) (hP : va_P Z.1 vwCl ws H) (hD : va_D A ws) (hS : va_S A s.heap H locs) (hdg : decode cc pc = .ok (.ireturn, 1)) (hp : post v ws) : W p l e R s m args below meth c H locs cells slots (MQ below (va_Qi post (xB Z A) A) args s cells slots A) (F0 m pc ls [.int v]) :=
  W.zret hC.1.1 hC.1.2.1 hr hn (fun t ht hW => ⟨⟨v, ws, rfl, hp, by rw [ht]; exact hP, va_K.moved hW.alike hC.2.1, hD⟩, hS.F ht⟩) hS.2.2 hdg hk
theorem x_vret {post : va_W → Prop} (hC : xC p s m args c cc nL own Ts Z A) (hr : meth.sig.returnType = none) (hk : meth.locks = false) (hP : va_P Z.1 vwCl ws H) (hD : va_D A ws) (hS : va_S A s.heap H locs) (hdg : decode cc pc = .ok (.return_, 1)) (hp : post ws) : W p l e R s m args below meth c H locs cells slots (MQ below (va_Qv post (xB Z A) A) args s cells slots A) (F0 m pc ls []) :=
  W.vret hC.1.1 hC.1.2.1 hr (fun t ht hW => ⟨⟨ws, rfl, hp, by rw [ht]; exact hP, va_K.moved hW.alike hC.2.1, hD⟩, hS.F ht⟩) hS.2.2 hdg hk
/-- the callee's start -/
theorem x_preS {wc : va_W} {av : List Value} (hC : xC p s m args c cc nL own Ts Z A) (hP : va_P Z.1 vwCl ws H) (hD : va_D A ws) (hS : va_S A s.heap H locs) (isC : List Nat) (hc : isC.map (fun i => ws[i]?) = wc.map some) (hn : va_nd isC = true) : PreS s H (xPc Z wc av H.size) av := by
  have hf := va_free hD hS hC.2.2.1 isC hc
  have hPc : va_P Z.1 vwCl wc H := hP.sub isC (by
    have e : isC.filterMap (fun i => ws[i]?) = (isC.map (fun i => ws[i]?)).filterMap id := by rw [List.filterMap_map]; rfl
    rw [e, hc, List.filterMap_map]
    exact List.filterMap_some)
  exact ⟨xPc.blind, fun U hU hW => ⟨rfl, by rw [hU], by rw [hU]; exact hPc, va_K.moved hW.alike hC.2.1, (hD.sub isC hn hc).weaken (fun _ _ _ _ => trivial), hC.2.2.2.step hS hf hU hW⟩⟩
theorem x_preV {wc : va_W} {av : List Value} {b ci : Nat} {fs : List Value} {C : String} {T : u_T} {N : Nat} (hC : xC p s m args c cc nL own Ts Z A) (hP : va_P Z.1 vwCl ws H) (hD : va_D A ws) (hS : va_S A s.heap H locs) (isC : List Nat) (hc : isC.map (fun i => ws[i]?) = wc.map some) (hn : va_nd isC = true) (hrc : wc[0]? = some (b, .inr (ci, fs))) (hci : vwCl[ci]? = some (C, T, N)) : PreV s H C b (xPc Z wc (.ref b :: av) H.size) av := by
  have h := x_preS (av := .ref b :: av) hC hP hD hS isC hc hn
  have hPc : va_P Z.1 vwCl wc H := hP.sub isC (by
    have e : isC.filterMap (fun i => ws[i]?) = (isC.map (fun i => ws[i]?)).filterMap id := by rw [List.filterMap_map]; rfl
    rw [e, hc, List.filterMap_map]
    exact List.filterMap_some)
  exact ⟨h.1, va_recv hC.2.1 hPc hci hrc, h.2⟩
/-- behind a call -/
theorem x_backi {post : Int32 → va_W → Prop} {wc wr : va_W} {st0 : List Value} {mc ms : Nat} {a : Array Value} (hC : xC p s m args c cc nL own Ts Z A) (hP : va_P Z.1 vwCl ws H) (hD : va_D A ws) (hS : va_S A s.heap H locs) (isC isR : List Nat) (hc : isC.map (fun i => ws[i]?) = wc.map some) (hR : isR.map (fun i => ws[i]?) = wr.map some) (hn : va_nd isR = true) (hdis : ∀ i ∈ isR, i ∉ isC)
    (hr : va_Run p l e R s m args below meth c H locs cells slots mc ms (F0 m pc ls st0) rest (va_Qi post (xB Z (va_A wc H.size)) (va_A wc H.size) a) (va_A wc H.size))
    (kk : ∀ (r : Int32) (w1 : va_W) (H1 : Heap) (locs1 : List Loc), post r w1 → va_P Z.1 vwCl (wr ++ w1) H1 → va_D A (wr ++ w1) → va_S A s.heap H1 locs1 → W p l e R s m args below meth c H1 locs1 (cells + mc) (slots + ms) Q (F0 m (pc + 3) ls (.int r :: rest))) : W p l e R s m args below meth c H locs cells slots Q (F0 m pc ls st0) := by
  have hf := va_free hD hS hC.2.2.1 isC hc
  refine va_calli hr hS (fun q _ h => hf q h) hf (fun r u t H1 locs1 ht hvm hw hB hz1 hk1 hS1 => ?_)
  obtain ⟨hP1, hK1, hD1⟩ := hB
  rw [ht] at hP1
  obtain ⟨hP2, hD2⟩ := va_join hP hD isC isR hc hR hn hdis hk1 hf hP1 hD1
  exact kk r u H1 locs1 hw hP2 hD2 hS1
theorem x_backv {post : va_W → Prop} {wc wr : va_W} {st0 : List Value} {mc ms : Nat} {a : Array Value} (hC : xC p s m args c cc nL own Ts Z A) (hP : va_P Z.1 vwCl ws H) (hD : va_D A ws) (hS : va_S A s.heap H locs) (isC isR : List Nat) (hc : isC.map (fun i => ws[i]?) = wc.map some) (hR : isR.map (fun i => ws[i]?) = wr.map some) (hn : va_nd isR = true) (hdis : ∀ i ∈ isR, i ∉ isC)
    (hr : va_Run p l e R s m args below meth c H locs cells slots mc ms (F0 m pc ls st0) rest (va_Qv post (xB Z (va_A wc H.size)) (va_A wc H.size) a) (va_A wc H.size))
    (kk : ∀ (w1 : va_W) (H1 : Heap) (locs1 : List Loc), post w1 → va_P Z.1 vwCl (wr ++ w1) H1 → va_D A (wr ++ w1) → va_S A s.heap H1 locs1 → W p l e R s m args below meth c H1 locs1 (cells + mc) (slots + ms) Q (F0 m (pc + 3) ls rest)) : W p l e R s m args below meth c H locs cells slots Q (F0 m pc ls st0) := by
  have hf := va_free hD hS hC.2.2.1 isC hc
  refine va_callv hr hS (fun q _ h => hf q h) hf (fun u t H1 locs1 ht hvm hw hB hz1 hk1 hS1 => ?_)
  obtain ⟨hP1, hK1, hD1⟩ := hB
  rw [ht] at hP1
  obtain ⟨hP2, hD2⟩ := va_join hP hD isC isR hc hR hn hdis hk1 hf hP1 hD1
  exact kk u H1 locs1 hw hP2 hD2 hS1
theorem x_Vi {y : MethodName} {bytes : ByteArray} {maxL index n : Nat} {ret : Option FieldType} {wy wy' : List Cond} {rm : Room} {As : List Value} {wc wr : va_W} {st0 : List Value} {b ci : Nat} {fs : List Value} {C : String} {T : u_T} {N : Nat} {post : Int32 → va_W → Prop} (hC : xC p s m args c cc nL own Ts Z A) (hP : va_P Z.1 vwCl ws H) (hD : va_D A ws) (hS : va_S A s.heap H locs) (hM : xMi l Z y wy rm (.ref b :: As) wc post) (hG : GoodIn Ts (wsV own index C y wy)) (hw : wy = Cond.code y bytes maxL ret :: wy') (hd : y.cls = C ∧ y.cls ≠ "java/lang/invoke/MethodHandle" ∧ y.cls ≠ "java/lang/invoke/VarHandle" ∧ (parseMethodDescriptor y.desc).map (fun d => d.parameters.length) = some n) (hrc : wc[0]? = some (b, .inr (ci, fs))) (hci : vwCl[ci]? = some (C, T, N)) (hRm : (rm.frames + 1).ble R.frames = true ∧ (8 + (maxL + 11) + rm.locals).ble R.locals = true) (hg : As.length = n) (hsz : ls.size = nL) (hcat : ((rest.map fun v : Value => v.category).sum).ble 8 = true) (hf : cells + rm.cells ≤ R.cells ∧ slots + rm.slots ≤ R.slots) (isC isR : List Nat) (hc : isC.map (fun i => ws[i]?) = wc.map some) (hR : isR.map (fun i => ws[i]?) = wr.map some) (hnC : va_nd isC = true) (hnR : va_nd isR = true) (hdis : ∀ i ∈ isR, i ∉ isC) (hst0 : st0 = As.reverse ++ .ref b :: rest) (hdg : decode cc pc = .ok (.invokevirtual index, 3)) (kk : ∀ (r : Int32) (w1 : va_W) (H1 : Heap) (locs1 : List Loc), post r w1 → va_P Z.1 vwCl (wr ++ w1) H1 → va_D A (wr ++ w1) → va_S A s.heap H1 locs1 → W p l e R s m args below meth c H1 locs1 (cells + rm.cells) (slots + rm.slots) Q (F0 m (pc + 3) ls (.int r :: rest))) : W p l e R s m args below meth c H locs cells slots Q (F0 m pc ls st0) := by
  exact x_backi hC hP hD hS isC isR hc hR hnR hdis (va_runV hC.1 (hM H.size) (cwV n hC.1.2.2.2.2 hG hw rfl rfl hd ⟨Nat.le_of_ble_eq_true hRm.1, Nat.le_of_ble_eq_true hRm.2⟩) (x_preV hC hP hD hS isC hc hnC hrc hci) rfl hg hsz hst0 (lv_room (Nat.le_of_ble_eq_true hcat)) hdg hf) kk
theorem x_Vv {y : MethodName} {bytes : ByteArray} {maxL index n : Nat} {ret : Option FieldType} {wy wy' : List Cond} {rm : Room} {As : List Value} {wc wr : va_W} {st0 : List Value} {b ci : Nat} {fs : List Value} {C : String} {T : u_T} {N : Nat} {post : va_W → Prop} (hC : xC p s m args c cc nL own Ts Z A) (hP : va_P Z.1 vwCl ws H) (hD : va_D A ws) (hS : va_S A s.heap H locs) (hM : xMv l Z y wy rm (.ref b :: As) wc post) (hG : GoodIn Ts (wsV own index C y wy)) (hw : wy = Cond.code y bytes maxL ret :: wy') (hd : y.cls = C ∧ y.cls ≠ "java/lang/invoke/MethodHandle" ∧ y.cls ≠ "java/lang/invoke/VarHandle" ∧ (parseMethodDescriptor y.desc).map (fun d => d.parameters.length) = some n) (hrc : wc[0]? = some (b, .inr (ci, fs))) (hci : vwCl[ci]? = some (C, T, N)) (hRm : (rm.frames + 1).ble R.frames = true ∧ (8 + (maxL + 11) + rm.locals).ble R.locals = true) (hg : As.length = n) (hsz : ls.size = nL) (hcat : ((rest.map fun v : Value => v.category).sum).ble 8 = true) (hf : cells + rm.cells ≤ R.cells ∧ slots + rm.slots ≤ R.slots) (isC isR : List Nat) (hc : isC.map (fun i => ws[i]?) = wc.map some) (hR : isR.map (fun i => ws[i]?) = wr.map some) (hnC : va_nd isC = true) (hnR : va_nd isR = true) (hdis : ∀ i ∈ isR, i ∉ isC) (hst0 : st0 = As.reverse ++ .ref b :: rest) (hdg : decode cc pc = .ok (.invokevirtual index, 3)) (kk : ∀ (w1 : va_W) (H1 : Heap) (locs1 : List Loc), post w1 → va_P Z.1 vwCl (wr ++ w1) H1 → va_D A (wr ++ w1) → va_S A s.heap H1 locs1 → W p l e R s m args below meth c H1 locs1 (cells + rm.cells) (slots + rm.slots) Q (F0 m (pc + 3) ls rest)) : W p l e R s m args below meth c H locs cells slots Q (F0 m pc ls st0) := by
  exact x_backv hC hP hD hS isC isR hc hR hnR hdis (va_runV hC.1 (hM H.size) (cwV n hC.1.2.2.2.2 hG hw rfl rfl hd ⟨Nat.le_of_ble_eq_true hRm.1, Nat.le_of_ble_eq_true hRm.2⟩) (x_preV hC hP hD hS isC hc hnC hrc hci) rfl hg hsz hst0 (lv_room (Nat.le_of_ble_eq_true hcat)) hdg hf) kk
theorem x_Ri {y : MethodName} {bytes : ByteArray} {maxL index n : Nat} {ret : Option FieldType} {wy wy' : List Cond} {rm : Room} {As : List Value} {wc wr : va_W} {st0 : List Value} {b : Nat} {C : String} {post : Int32 → va_W → Prop} (hC : xC p s m args c cc nL own Ts Z A) (hP : va_P Z.1 vwCl ws H) (hD : va_D A ws) (hS : va_S A s.heap H locs) (hM : xMi l Z y wy rm (.ref b :: As) wc post) (hG : GoodIn Ts (wsV own index C y wy)) (hw : wy = Cond.code y bytes maxL ret :: wy') (hd : y.cls = C ∧ y.cls ≠ "java/lang/invoke/MethodHandle" ∧ y.cls ≠ "java/lang/invoke/VarHandle" ∧ (parseMethodDescriptor y.desc).map (fun d => d.parameters.length) = some n) (hrv : ∃ cellB : Cell, H[b]? = some cellB ∧ cellB.vm.isStatics = false ∧ s.vm.findClass C = some cellB.cls) (hRm : (rm.frames + 1).ble R.frames = true ∧ (8 + (maxL + 11) + rm.locals).ble R.locals = true) (hg : As.length = n) (hsz : ls.size = nL) (hcat : ((rest.map fun v : Value => v.category).sum).ble 8 = true) (hf : cells + rm.cells ≤ R.cells ∧ slots + rm.slots ≤ R.slots) (isC isR : List Nat) (hc : isC.map (fun i => ws[i]?) = wc.map some) (hR : isR.map (fun i => ws[i]?) = wr.map some) (hnC : va_nd isC = true) (hnR : va_nd isR = true) (hdis : ∀ i ∈ isR, i ∉ isC) (hst0 : st0 = As.reverse ++ .ref b :: rest) (hdg : decode cc pc = .ok (.invokevirtual index, 3)) (kk : ∀ (r : Int32) (w1 : va_W) (H1 : Heap) (locs1 : List Loc), post r w1 → va_P Z.1 vwCl (wr ++ w1) H1 → va_D A (wr ++ w1) → va_S A s.heap H1 locs1 → W p l e R s m args below meth c H1 locs1 (cells + rm.cells) (slots + rm.slots) Q (F0 m (pc + 3) ls (.int r :: rest))) : W p l e R s m args below meth c H locs cells slots Q (F0 m pc ls st0) := by
  exact x_backi hC hP hD hS isC isR hc hR hnR hdis (va_runV hC.1 (hM H.size) (cwV n hC.1.2.2.2.2 hG hw rfl rfl hd ⟨Nat.le_of_ble_eq_true hRm.1, Nat.le_of_ble_eq_true hRm.2⟩) ((have h9 := x_preS hC hP hD hS isC hc hnC; ⟨h9.1, hrv, h9.2⟩)) rfl hg hsz hst0 (lv_room (Nat.le_of_ble_eq_true hcat)) hdg hf) kk
theorem x_Rv {y : MethodName} {bytes : ByteArray} {maxL index n : Nat} {ret : Option FieldType} {wy wy' : List Cond} {rm : Room} {As : List Value} {wc wr : va_W} {st0 : List Value} {b : Nat} {C : String} {post : va_W → Prop} (hC : xC p s m args c cc nL own Ts Z A) (hP : va_P Z.1 vwCl ws H) (hD : va_D A ws) (hS : va_S A s.heap H locs) (hM : xMv l Z y wy rm (.ref b :: As) wc post) (hG : GoodIn Ts (wsV own index C y wy)) (hw : wy = Cond.code y bytes maxL ret :: wy') (hd : y.cls = C ∧ y.cls ≠ "java/lang/invoke/MethodHandle" ∧ y.cls ≠ "java/lang/invoke/VarHandle" ∧ (parseMethodDescriptor y.desc).map (fun d => d.parameters.length) = some n) (hrv : ∃ cellB : Cell, H[b]? = some cellB ∧ cellB.vm.isStatics = false ∧ s.vm.findClass C = some cellB.cls) (hRm : (rm.frames + 1).ble R.frames = true ∧ (8 + (maxL + 11) + rm.locals).ble R.locals = true) (hg : As.length = n) (hsz : ls.size = nL) (hcat : ((rest.map fun v : Value => v.category).sum).ble 8 = true) (hf : cells + rm.cells ≤ R.cells ∧ slots + rm.slots ≤ R.slots) (isC isR : List Nat) (hc : isC.map (fun i => ws[i]?) = wc.map some) (hR : isR.map (fun i => ws[i]?) = wr.map some) (hnC : va_nd isC = true) (hnR : va_nd isR = true) (hdis : ∀ i ∈ isR, i ∉ isC) (hst0 : st0 = As.reverse ++ .ref b :: rest) (hdg : decode cc pc = .ok (.invokevirtual index, 3)) (kk : ∀ (w1 : va_W) (H1 : Heap) (locs1 : List Loc), post w1 → va_P Z.1 vwCl (wr ++ w1) H1 → va_D A (wr ++ w1) → va_S A s.heap H1 locs1 → W p l e R s m args below meth c H1 locs1 (cells + rm.cells) (slots + rm.slots) Q (F0 m (pc + 3) ls rest)) : W p l e R s m args below meth c H locs cells slots Q (F0 m pc ls st0) := by
  exact x_backv hC hP hD hS isC isR hc hR hnR hdis (va_runV hC.1 (hM H.size) (cwV n hC.1.2.2.2.2 hG hw rfl rfl hd ⟨Nat.le_of_ble_eq_true hRm.1, Nat.le_of_ble_eq_true hRm.2⟩) ((have h9 := x_preS hC hP hD hS isC hc hnC; ⟨h9.1, hrv, h9.2⟩)) rfl hg hsz hst0 (lv_room (Nat.le_of_ble_eq_true hcat)) hdg hf) kk
theorem x_Si {y : MethodName} {bytes : ByteArray} {maxL index n : Nat} {ret : Option FieldType} {wy wy' : List Cond} {rm : Room} {As : List Value} {wc wr : va_W} {st0 : List Value} {post : Int32 → va_W → Prop} (hC : xC p s m args c cc nL own Ts Z A) (hP : va_P Z.1 vwCl ws H) (hD : va_D A ws) (hS : va_S A s.heap H locs) (hM : xMi l Z y wy rm As wc post) (hG : GoodIn Ts (va_wsS own index y wy)) (hw : wy = Cond.code y bytes maxL ret :: wy') (hd : y.cls ≠ "java/lang/invoke/MethodHandle" ∧ y.cls ≠ "java/lang/invoke/VarHandle" ∧ (parseMethodDescriptor y.desc).map (fun d => d.parameters.length) = some n) (hRm : (rm.frames + 1).ble R.frames = true ∧ (8 + (maxL + 11) + rm.locals).ble R.locals = true) (hg : As.length = n) (hsz : ls.size = nL) (hcat : ((rest.map fun v : Value => v.category).sum).ble 8 = true) (hf : cells + rm.cells ≤ R.cells ∧ slots + rm.slots ≤ R.slots) (isC isR : List Nat) (hc : isC.map (fun i => ws[i]?) = wc.map some) (hR : isR.map (fun i => ws[i]?) = wr.map some) (hnC : va_nd isC = true) (hnR : va_nd isR = true) (hdis : ∀ i ∈ isR, i ∉ isC) (hst0 : st0 = As.reverse ++ rest) (hdg : decode cc pc = .ok (.invokestatic index, 3)) (kk : ∀ (r : Int32) (w1 : va_W) (H1 : Heap) (locs1 : List Loc), post r w1 → va_P Z.1 vwCl (wr ++ w1) H1 → va_D A (wr ++ w1) → va_S A s.heap H1 locs1 → W p l e R s m args below meth c H1 locs1 (cells + rm.cells) (slots + rm.slots) Q (F0 m (pc + 3) ls (.int r :: rest))) : W p l e R s m args below meth c H locs cells slots Q (F0 m pc ls st0) := by
  exact x_backi hC hP hD hS isC isR hc hR hnR hdis (va_runS hC.1 (hM H.size) (va_cwS n hC.1.2.2.2.2 hG hw rfl rfl hd ⟨Nat.le_of_ble_eq_true hRm.1, Nat.le_of_ble_eq_true hRm.2⟩) (x_preS hC hP hD hS isC hc hnC) rfl hg hsz hst0 (lv_room (Nat.le_of_ble_eq_true hcat)) hdg hf) kk
theorem x_Sv {y : MethodName} {bytes : ByteArray} {maxL index n : Nat} {ret : Option FieldType} {wy wy' : List Cond} {rm : Room} {As : List Value} {wc wr : va_W} {st0 : List Value} {post : va_W → Prop} (hC : xC p s m args c cc nL own Ts Z A) (hP : va_P Z.1 vwCl ws H) (hD : va_D A ws) (hS : va_S A s.heap H locs) (hM : xMv l Z y wy rm As wc post) (hG : GoodIn Ts (va_wsS own index y wy)) (hw : wy = Cond.code y bytes maxL ret :: wy') (hd : y.cls ≠ "java/lang/invoke/MethodHandle" ∧ y.cls ≠ "java/lang/invoke/VarHandle" ∧ (parseMethodDescriptor y.desc).map (fun d => d.parameters.length) = some n) (hRm : (rm.frames + 1).ble R.frames = true ∧ (8 + (maxL + 11) + rm.locals).ble R.locals = true) (hg : As.length = n) (hsz : ls.size = nL) (hcat : ((rest.map fun v : Value => v.category).sum).ble 8 = true) (hf : cells + rm.cells ≤ R.cells ∧ slots + rm.slots ≤ R.slots) (isC isR : List Nat) (hc : isC.map (fun i => ws[i]?) = wc.map some) (hR : isR.map (fun i => ws[i]?) = wr.map some) (hnC : va_nd isC = true) (hnR : va_nd isR = true) (hdis : ∀ i ∈ isR, i ∉ isC) (hst0 : st0 = As.reverse ++ rest) (hdg : decode cc pc = .ok (.invokestatic index, 3)) (kk : ∀ (w1 : va_W) (H1 : Heap) (locs1 : List Loc), post w1 → va_P Z.1 vwCl (wr ++ w1) H1 → va_D A (wr ++ w1) → va_S A s.heap H1 locs1 → W p l e R s m args below meth c H1 locs1 (cells + rm.cells) (slots + rm.slots) Q (F0 m (pc + 3) ls rest)) : W p l e R s m args below meth c H locs cells slots Q (F0 m pc ls st0) := by
  exact x_backv hC hP hD hS isC isR hc hR hnR hdis (va_runS hC.1 (hM H.size) (va_cwS n hC.1.2.2.2.2 hG hw rfl rfl hd ⟨Nat.le_of_ble_eq_true hRm.1, Nat.le_of_ble_eq_true hRm.2⟩) (x_preS hC hP hD hS isC hc hnC) rfl hg hsz hst0 (lv_room (Nat.le_of_ble_eq_true hcat)) hdg hf) kk
theorem x_SNi {y : MethodName} {bytes : ByteArray} {maxL index n : Nat} {ret : Option FieldType} {wy wy' : List Cond} {rm : Room} {As : List Value} {wc wr : va_W} {st0 : List Value} {host : String} {post : Int32 → va_W → Prop} (hC : xC p s m args c cc nL own Ts Z A) (hP : va_P Z.1 vwCl ws H) (hD : va_D A ws) (hS : va_S A s.heap H locs) (hM : xMi l Z y wy rm As wc post) (hG : GoodIn Ts wy) (hl : va_Nw (.methodLinkNest own index y host) s) (hini : (Cond.initialized y.cls).before args s = true) (hst : (Cond.static y).before args s = true) (hw : wy = Cond.code y bytes maxL ret :: wy') (hd : y.cls ≠ "java/lang/invoke/MethodHandle" ∧ y.cls ≠ "java/lang/invoke/VarHandle" ∧ (parseMethodDescriptor y.desc).map (fun d => d.parameters.length) = some n) (hRm : (rm.frames + 1).ble R.frames = true ∧ (8 + (maxL + 11) + rm.locals).ble R.locals = true) (hg : As.length = n) (hsz : ls.size = nL) (hcat : ((rest.map fun v : Value => v.category).sum).ble 8 = true) (hf : cells + rm.cells ≤ R.cells ∧ slots + rm.slots ≤ R.slots) (isC isR : List Nat) (hc : isC.map (fun i => ws[i]?) = wc.map some) (hR : isR.map (fun i => ws[i]?) = wr.map some) (hnC : va_nd isC = true) (hnR : va_nd isR = true) (hdis : ∀ i ∈ isR, i ∉ isC) (hst0 : st0 = As.reverse ++ rest) (hdg : decode cc pc = .ok (.invokestatic index, 3)) (kk : ∀ (r : Int32) (w1 : va_W) (H1 : Heap) (locs1 : List Loc), post r w1 → va_P Z.1 vwCl (wr ++ w1) H1 → va_D A (wr ++ w1) → va_S A s.heap H1 locs1 → W p l e R s m args below meth c H1 locs1 (cells + rm.cells) (slots + rm.slots) Q (F0 m (pc + 3) ls (.int r :: rest))) : W p l e R s m args below meth c H locs cells slots Q (F0 m pc ls st0) := by
  exact x_backi hC hP hD hS isC isR hc hR hnR hdis (va_runSN hC.1 (hM H.size) (⟨va_cnB n hC.1.2.2.2.2 hG hw rfl rfl hl hini hd ⟨Nat.le_of_ble_eq_true hRm.1, Nat.le_of_ble_eq_true hRm.2⟩, hst, trivial⟩) (x_preS hC hP hD hS isC hc hnC) rfl hg hsz hst0 (lv_room (Nat.le_of_ble_eq_true hcat)) hdg hf) kk
theorem x_SNv {y : MethodName} {bytes : ByteArray} {maxL index n : Nat} {ret : Option FieldType} {wy wy' : List Cond} {rm : Room} {As : List Value} {wc wr : va_W} {st0 : List Value} {host : String} {post : va_W → Prop} (hC : xC p s m args c cc nL own Ts Z A) (hP : va_P Z.1 vwCl ws H) (hD : va_D A ws) (hS : va_S A s.heap H locs) (hM : xMv l Z y wy rm As wc post) (hG : GoodIn Ts wy) (hl : va_Nw (.methodLinkNest own index y host) s) (hini : (Cond.initialized y.cls).before args s = true) (hst : (Cond.static y).before args s = true) (hw : wy = Cond.code y bytes maxL ret :: wy') (hd : y.cls ≠ "java/lang/invoke/MethodHandle" ∧ y.cls ≠ "java/lang/invoke/VarHandle" ∧ (parseMethodDescriptor y.desc).map (fun d => d.parameters.length) = some n) (hRm : (rm.frames + 1).ble R.frames = true ∧ (8 + (maxL + 11) + rm.locals).ble R.locals = true) (hg : As.length = n) (hsz : ls.size = nL) (hcat : ((rest.map fun v : Value => v.category).sum).ble 8 = true) (hf : cells + rm.cells ≤ R.cells ∧ slots + rm.slots ≤ R.slots) (isC isR : List Nat) (hc : isC.map (fun i => ws[i]?) = wc.map some) (hR : isR.map (fun i => ws[i]?) = wr.map some) (hnC : va_nd isC = true) (hnR : va_nd isR = true) (hdis : ∀ i ∈ isR, i ∉ isC) (hst0 : st0 = As.reverse ++ rest) (hdg : decode cc pc = .ok (.invokestatic index, 3)) (kk : ∀ (w1 : va_W) (H1 : Heap) (locs1 : List Loc), post w1 → va_P Z.1 vwCl (wr ++ w1) H1 → va_D A (wr ++ w1) → va_S A s.heap H1 locs1 → W p l e R s m args below meth c H1 locs1 (cells + rm.cells) (slots + rm.slots) Q (F0 m (pc + 3) ls rest)) : W p l e R s m args below meth c H locs cells slots Q (F0 m pc ls st0) := by
  exact x_backv hC hP hD hS isC isR hc hR hnR hdis (va_runSN hC.1 (hM H.size) (⟨va_cnB n hC.1.2.2.2.2 hG hw rfl rfl hl hini hd ⟨Nat.le_of_ble_eq_true hRm.1, Nat.le_of_ble_eq_true hRm.2⟩, hst, trivial⟩) (x_preS hC hP hD hS isC hc hnC) rfl hg hsz hst0 (lv_room (Nat.le_of_ble_eq_true hcat)) hdg hf) kk
theorem x_Iv {y : MethodName} {bytes : ByteArray} {maxL index n : Nat} {ret : Option FieldType} {wy wy' : List Cond} {rm : Room} {As : List Value} {wc wr : va_W} {st0 : List Value} {b : Nat} {post : va_W → Prop} (hC : xC p s m args c cc nL own Ts Z A) (hP : va_P Z.1 vwCl ws H) (hD : va_D A ws) (hS : va_S A s.heap H locs) (hM : xMv l Z y wy rm (.ref b :: As) wc post) (hG : GoodIn Ts wy) (hini : (Cond.initialized y.cls).before args s = true) (hl : (Cond.methodLink own index y).before args s = true) (hin : (Cond.instanceMethod y).before args s = true) (hy1 : y.name = "<init>") (hw : wy = Cond.code y bytes maxL none :: wy') (hd : y.cls ≠ "java/lang/invoke/MethodHandle" ∧ y.cls ≠ "java/lang/invoke/VarHandle" ∧ (parseMethodDescriptor y.desc).map (fun d => d.parameters.length) = some n) (hRm : (rm.frames + 1).ble R.frames = true ∧ (8 + (maxL + 11) + rm.locals).ble R.locals = true) (hg : As.length = n) (hsz : ls.size = nL) (hcat : ((rest.map fun v : Value => v.category).sum).ble 8 = true) (hf : cells + rm.cells ≤ R.cells ∧ slots + rm.slots ≤ R.slots) (isC isR : List Nat) (hc : isC.map (fun i => ws[i]?) = wc.map some) (hR : isR.map (fun i => ws[i]?) = wr.map some) (hnC : va_nd isC = true) (hnR : va_nd isR = true) (hdis : ∀ i ∈ isR, i ∉ isC) (hst0 : st0 = As.reverse ++ .ref b :: rest) (hdg : decode cc pc = .ok (.invokespecial index, 3)) (kk : ∀ (w1 : va_W) (H1 : Heap) (locs1 : List Loc), post w1 → va_P Z.1 vwCl (wr ++ w1) H1 → va_D A (wr ++ w1) → va_S A s.heap H1 locs1 → W p l e R s m args below meth c H1 locs1 (cells + rm.cells) (slots + rm.slots) Q (F0 m (pc + 3) ls rest)) : W p l e R s m args below meth c H locs cells slots Q (F0 m pc ls st0) := by
  exact x_backv hC hP hD hS isC isR hc hR hnR hdis (va_runI hC.1 (hM H.size) (cwI n hC.1.2.2.2.2 hG hw rfl rfl hini hl hin hy1 hd ⟨Nat.le_of_ble_eq_true hRm.1, Nat.le_of_ble_eq_true hRm.2⟩) (x_preS hC hP hD hS isC hc hnC) rfl hg hsz hst0 (lv_room (Nat.le_of_ble_eq_true hcat)) hdg hf) kk
theorem x_INv {y : MethodName} {bytes : ByteArray} {maxL index n : Nat} {ret : Option FieldType} {wy wy' : List Cond} {rm : Room} {As : List Value} {wc wr : va_W} {st0 : List Value} {b : Nat} {host : String} {post : va_W → Prop} (hC : xC p s m args c cc nL own Ts Z A) (hP : va_P Z.1 vwCl ws H) (hD : va_D A ws) (hS : va_S A s.heap H locs) (hM : xMv l Z y wy rm (.ref b :: As) wc post) (hG : GoodIn Ts wy) (hl : va_Nw (.methodLinkNest own index y host) s) (hini : (Cond.initialized y.cls).before args s = true) (hin : (Cond.instanceMethod y).before args s = true) (hy1 : y.name = "<init>") (hw : wy = Cond.code y bytes maxL none :: wy') (hd : y.cls ≠ "java/lang/invoke/MethodHandle" ∧ y.cls ≠ "java/lang/invoke/VarHandle" ∧ (parseMethodDescriptor y.desc).map (fun d => d.parameters.length) = some n) (hRm : (rm.frames + 1).ble R.frames = true ∧ (8 + (maxL + 11) + rm.locals).ble R.locals = true) (hg : As.length = n) (hsz : ls.size = nL) (hcat : ((rest.map fun v : Value => v.category).sum).ble 8 = true) (hf : cells + rm.cells ≤ R.cells ∧ slots + rm.slots ≤ R.slots) (isC isR : List Nat) (hc : isC.map (fun i => ws[i]?) = wc.map some) (hR : isR.map (fun i => ws[i]?) = wr.map some) (hnC : va_nd isC = true) (hnR : va_nd isR = true) (hdis : ∀ i ∈ isR, i ∉ isC) (hst0 : st0 = As.reverse ++ .ref b :: rest) (hdg : decode cc pc = .ok (.invokespecial index, 3)) (kk : ∀ (w1 : va_W) (H1 : Heap) (locs1 : List Loc), post w1 → va_P Z.1 vwCl (wr ++ w1) H1 → va_D A (wr ++ w1) → va_S A s.heap H1 locs1 → W p l e R s m args below meth c H1 locs1 (cells + rm.cells) (slots + rm.slots) Q (F0 m (pc + 3) ls rest)) : W p l e R s m args below meth c H locs cells slots Q (F0 m pc ls st0) := by
  exact x_backv hC hP hD hS isC isR hc hR hnR hdis (va_runIN hC.1 (hM H.size) (⟨va_cnB n hC.1.2.2.2.2 hG hw rfl rfl hl hini hd ⟨Nat.le_of_ble_eq_true hRm.1, Nat.le_of_ble_eq_true hRm.2⟩, hy1, hin⟩) (x_preS hC hP hD hS isC hc hnC) rfl hg hsz hst0 (lv_room (Nat.le_of_ble_eq_true hcat)) hdg hf) kk
theorem ln_iald (hx : p.tables.exec = Jvm.exec) (hb : c.code = cc) (hK : va_K Z.1 vwCl (xty Z) s) (hP : va_P Z.1 vwCl ws H) (q0 : Nat) {a n j : Nat} {g : Nat → Nat} (ha : ws[q0]? = some (a, xI Z n g)) (h : j < n) (hn : n < 2147483648) (hdg : decode cc pc = .ok (.iaload, 1)) (kk : W p l e R s m args below meth c H locs cells slots Q (F0 m (pc + 1) ls (.int (nI (g j)) :: rest))) : W p l e R s m args below meth c H locs cells slots Q (F0 m pc ls (.int (nI j) :: .ref a :: rest)) := va_iald hx hb hK hP q0 0 ha rfl (vp_in_nI h hn) hdg (by rw [nI_clamp (Nat.lt_trans h hn)]; exact kk)
theorem ln_jald (hx : p.tables.exec = Jvm.exec) (hb : c.code = cc) (hK : va_K Z.1 vwCl (xty Z) s) (hP : va_P Z.1 vwCl ws H) (q0 : Nat) {a n j : Nat} {g : Nat → Int32} (ha : ws[q0]? = some (a, xJ Z n g)) (h : j < n) (hn : n < 2147483648) (hdg : decode cc pc = .ok (.iaload, 1)) (kk : W p l e R s m args below meth c H locs cells slots Q (F0 m (pc + 1) ls (.int (g j) :: rest))) : W p l e R s m args below meth c H locs cells slots Q (F0 m pc ls (.int (nI j) :: .ref a :: rest)) := va_iald hx hb hK hP q0 0 ha rfl (vp_in_nI h hn) hdg (by rw [nI_clamp (Nat.lt_trans h hn)]; exact kk)
theorem ln_zald (hx : p.tables.exec = Jvm.exec) (hb : c.code = cc) (hK : va_K Z.1 vwCl (xty Z) s) (hP : va_P Z.1 vwCl ws H) (q0 : Nat) {a n j : Nat} {g : Nat → Nat} (ha : ws[q0]? = some (a, xO Z n g)) (h : j < n) (hn : n < 2147483648) (hdg : decode cc pc = .ok (.baload, 1)) (kk : W p l e R s m args below meth c H locs cells slots Q (F0 m (pc + 1) ls (.int (nI (g j)) :: rest))) : W p l e R s m args below meth c H locs cells slots Q (F0 m pc ls (.int (nI j) :: .ref a :: rest)) := va_zald hx hb hK hP q0 1 ha rfl (vp_in_nI h hn) hdg (by rw [nI_clamp (Nat.lt_trans h hn)]; exact kk)
theorem ln_iast (hx : p.tables.exec = Jvm.exec) (hb : c.code = cc) (hK : va_K Z.1 vwCl (xty Z) s) (hP : va_P Z.1 vwCl ws H) (hD : va_D A ws) (hS : va_S A s.heap H locs) (q0 : Nat) {a n j : Nat} {x : Nat} {g : Nat → Nat} (ha : ws[q0]? = some (a, xI Z n g)) (h : j < n) (hn : n < 2147483648) (hdg : decode cc pc = .ok (.iastore, 1)) (kk : ∀ (H1 : Heap) (locs1 : List Loc), va_P Z.1 vwCl (ws.set q0 (a, xI Z n (va_up g j x))) H1 → va_D A (ws.set q0 (a, xI Z n (va_up g j x))) → va_S A s.heap H1 locs1 → W p l e R s m args below meth c H1 locs1 cells slots Q (F0 m (pc + 1) ls rest)) : W p l e R s m args below meth c H locs cells slots Q (F0 m pc ls (.int (nI x) :: .int (nI j) :: .ref a :: rest)) := va_iast hx hb hK hP hD hS q0 0 ha rfl (vp_in_nI h hn) hdg (fun H1 locs1 hP1 hD1 hS1 => kk H1 locs1 (by rw [nI_clamp (Nat.lt_trans h hn), upd_nI] at hP1; exact hP1) (by rw [nI_clamp (Nat.lt_trans h hn), upd_nI] at hD1; exact hD1) hS1)
theorem ln_jast (hx : p.tables.exec = Jvm.exec) (hb : c.code = cc) (hK : va_K Z.1 vwCl (xty Z) s) (hP : va_P Z.1 vwCl ws H) (hD : va_D A ws) (hS : va_S A s.heap H locs) (q0 : Nat) {a n j : Nat} {x : Int32} {g : Nat → Int32} (ha : ws[q0]? = some (a, xJ Z n g)) (h : j < n) (hn : n < 2147483648) (hdg : decode cc pc = .ok (.iastore, 1)) (kk : ∀ (H1 : Heap) (locs1 : List Loc), va_P Z.1 vwCl (ws.set q0 (a, xJ Z n (upd g j x))) H1 → va_D A (ws.set q0 (a, xJ Z n (upd g j x))) → va_S A s.heap H1 locs1 → W p l e R s m args below meth c H1 locs1 cells slots Q (F0 m (pc + 1) ls rest)) : W p l e R s m args below meth c H locs cells slots Q (F0 m pc ls (.int (x) :: .int (nI j) :: .ref a :: rest)) := va_iast hx hb hK hP hD hS q0 0 ha rfl (vp_in_nI h hn) hdg (fun H1 locs1 hP1 hD1 hS1 => kk H1 locs1 (by rw [nI_clamp (Nat.lt_trans h hn)] at hP1; exact hP1) (by rw [nI_clamp (Nat.lt_trans h hn)] at hD1; exact hD1) hS1)
theorem nar_bool {x : Nat} (h : x < 2) : vp_nar .boolean (nI x) = nI x := by
  rcases (show x = 0 ∨ x = 1 by omega) with rfl | rfl <;> rfl
theorem ln_zast (hx : p.tables.exec = Jvm.exec) (hb : c.code = cc) (hK : va_K Z.1 vwCl (xty Z) s) (hP : va_P Z.1 vwCl ws H) (hD : va_D A ws) (hS : va_S A s.heap H locs) (q0 : Nat) {a n j : Nat} {x : Nat} {g : Nat → Nat} (ha : ws[q0]? = some (a, xO Z n g)) (h : j < n) (hn : n < 2147483648) (hx2 : x < 2) (hdg : decode cc pc = .ok (.bastore, 1)) (kk : ∀ (H1 : Heap) (locs1 : List Loc), va_P Z.1 vwCl (ws.set q0 (a, xO Z n (va_up g j x))) H1 → va_D A (ws.set q0 (a, xO Z n (va_up g j x))) → va_S A s.heap H1 locs1 → W p l e R s m args below meth c H1 locs1 cells slots Q (F0 m (pc + 1) ls rest)) : W p l e R s m args below meth c H locs cells slots Q (F0 m pc ls (.int (nI x) :: .int (nI j) :: .ref a :: rest)) := va_zast hx hb hK hP hD hS q0 1 ha rfl (vp_in_nI h hn) hdg (fun H1 locs1 hP1 hD1 hS1 => kk H1 locs1 (by rw [nI_clamp (Nat.lt_trans h hn), nar_bool hx2, upd_nI] at hP1; exact hP1) (by rw [nI_clamp (Nat.lt_trans h hn), nar_bool hx2, upd_nI] at hD1; exact hD1) hS1)
end XC
end
section
/-! what is computed, plainly: runs of steps, rings, productions, steps of the word and of the bits -/
def xrun {σ : Type} (f : σ → Option σ) : Nat → σ → Nat × σ
  | 0, s => (0, s)
  | n + 1, s => match f s with
    | none => (0, s)
    | some s' => ((xrun f n s').1 + 1, (xrun f n s').2)
/-- k steps of the run of n steps from s0 are done, s is reached -/
def XR {σ : Type} (f : σ → Option σ) (n : Nat) (s0 : σ) (k : Nat) (s : σ) : Prop := k ≤ n ∧ xrun f n s0 = (k + (xrun f (n - k) s).1, (xrun f (n - k) s).2)
theorem XR.beg {σ : Type} (f : σ → Option σ) (n : Nat) (s0 : σ) : XR f n s0 0 s0 := ⟨Nat.zero_le _, by simp⟩
theorem XR.step {σ : Type} {f : σ → Option σ} {n k : Nat} {s0 s s' : σ} (h : XR f n s0 k s) (hk : k < n) (hf : f s = some s') : XR f n s0 (k + 1) s' := by
  refine ⟨hk, ?_⟩
  rw [h.2]
  obtain ⟨d, hd⟩ : ∃ d, n - k = d + 1 := ⟨n - k - 1, by omega⟩
  rw [hd, show n - (k + 1) = d by omega]
  simp only [xrun, hf]
  congr 1
  omega
theorem XR.stop {σ : Type} {f : σ → Option σ} {n k : Nat} {s0 s : σ} (h : XR f n s0 k s) (hf : f s = none) : xrun f n s0 = (k, s) := by
  rw [h.2]
  cases hd : n - k with
  | zero => simp [xrun]
  | succ d => simp [xrun, hf]
theorem XR.full {σ : Type} {f : σ → Option σ} {n k : Nat} {s0 s : σ} (h : XR f n s0 k s) (hk : n ≤ k) : xrun f n s0 = (k, s) := by
  rw [h.2, show n - k = 0 by omega]
  simp [xrun]
theorem xrun_le {σ : Type} (f : σ → Option σ) : ∀ (n : Nat) (s : σ), (xrun f n s).1 ≤ n
  | 0, s => Nat.le_refl 0
  | n + 1, s => by
    simp only [xrun]
    cases f s with
    | none => exact Nat.zero_le _
    | some s' => exact Nat.succ_le_succ (xrun_le f n s')
/-- what steps keep, runs keep -/
theorem xrun_inv {σ : Type} {f : σ → Option σ} {P : σ → Prop} (hf : ∀ s s', P s → f s = some s' → P s') : ∀ (n : Nat) (s : σ), P s → P (xrun f n s).2
  | 0, s, h => h
  | n + 1, s, h => by
    simp only [xrun]
    cases e : f s with
    | none => exact h
    | some s' => exact xrun_inv hf n s' (hf s s' h e)
/-- k steps at once -/
def xit {σ : Type} (f : σ → Option σ) : Nat → σ → Option σ
  | 0, s => some s
  | n + 1, s => match f s with
    | none => none
    | some s' => xit f n s'
theorem XR.steps {σ : Type} {f : σ → Option σ} {n : Nat} {s0 : σ} : ∀ (j k : Nat) {s s' : σ}, XR f n s0 k s → k + j ≤ n → xit f j s = some s' → XR f n s0 (k + j) s'
  | 0, k, s, s', h, _, e => by simp only [xit, Option.some.injEq] at e; subst e; exact h
  | j + 1, k, s, s', h, hk, e => by
    simp only [xit] at e
    cases e1 : f s with
    | none => rw [e1] at e; cases e
    | some s1 =>
      rw [e1] at e
      have := XR.steps j (k + 1) (h.step (by omega) e1) (by omega) e
      rw [show k + (j + 1) = k + 1 + j by omega]
      exact this
/-! rings -/
def xwr (N q : Nat) : Nat := if q < N then q else q - N
theorem xwr_mod {N q : Nat} (h : q < 2 * N) : xwr N q = q % N := by
  unfold xwr
  split
  · rw [Nat.mod_eq_of_lt (by assumption)]
  · rw [Nat.mod_eq_sub_mod (by omega), Nat.mod_eq_of_lt (by omega)]
theorem xwr_lt {N q : Nat} (h : q < 2 * N) : xwr N q < N := by
  unfold xwr
  split <;> omega
def RR (N hd : Nat) (g : Nat → Nat) (w : List Nat) : Prop := hd < N ∧ w.length ≤ N ∧ ∀ i, i < w.length → g ((hd + i) % N) = w.getD i 0
theorem mod_inj {N a i j : Nat} (hi : i < N) (hj : j < N) (h : (a + i) % N = (a + j) % N) : i = j := by
  have h1 := Nat.mod_lt a (show 0 < N by omega)
  rw [Nat.add_mod a i, Nat.add_mod a j, Nat.mod_eq_of_lt hi, Nat.mod_eq_of_lt hj] at h
  have e : ∀ q, q < N → (a % N + q) % N = if a % N + q < N then a % N + q else a % N + q - N := by
    intro q hq
    split
    · exact Nat.mod_eq_of_lt (by assumption)
    · rw [Nat.mod_eq_sub_mod (by omega), Nat.mod_eq_of_lt (by omega)]
  rw [e i hi, e j hj] at h
  split at h <;> split at h <;> omega
theorem RR.nil {N hd : Nat} {g : Nat → Nat} (h : hd < N) : RR N hd g [] := ⟨h, Nat.zero_le _, fun i hi => absurd hi (Nat.not_lt_zero _)⟩
theorem RR.push {N hd x : Nat} {g : Nat → Nat} {w : List Nat} (h : RR N hd g w) (hw : w.length < N) : RR N hd (va_up g ((hd + w.length) % N) x) (w ++ [x]) := by
  refine ⟨h.1, by simp; omega, fun i hi => ?_⟩
  simp only [List.length_append, List.length_cons, List.length_nil] at hi
  by_cases e : i = w.length
  · subst e
    simp [va_up]
  · have hi2 : i < w.length := by omega
    have hne : ¬ (hd + i) % N = (hd + w.length) % N := fun q => e (mod_inj (by omega) hw q)
    simp only [va_up, if_neg hne]
    rw [h.2.2 i hi2]
    simp only [List.getD_eq_getElem?_getD]
    rw [List.getElem?_append_left hi2]
theorem RR.drop {N hd k : Nat} {g : Nat → Nat} {w : List Nat} (h : RR N hd g w) (hk : k ≤ w.length) : RR N ((hd + k) % N) g (w.drop k) := by
  have hN : 0 < N := by have := h.1; omega
  refine ⟨Nat.mod_lt _ hN, by simp; have := h.2.1; omega, fun i hi => ?_⟩
  simp only [List.length_drop] at hi
  rw [Nat.mod_add_mod, Nat.add_assoc, h.2.2 (k + i) (by omega)]
  simp only [List.getD_eq_getElem?_getD, List.getElem?_drop]
theorem RR.at0 {N hd i : Nat} {g : Nat → Nat} {w : List Nat} (h : RR N hd g w) (hi : i < w.length) : g (xwr N (hd + i)) = w.getD i 0 := by
  rw [xwr_mod (by have := h.1; have := h.2.1; omega)]
  exact h.2.2 i hi
/-! the productions -/
abbrev xRl : Type := Nat → Option (Nat × Nat × Nat)
def xof (q k : Nat) : Nat := 20 * q + 1 + k
def xpr (q k w y t : Nat) : List Nat :=
  if k = 0 then (if y = 1 then (if w = 1 then [xof q 8, 0, xof q 9, 0] else [xof q 8, 0]) else [xof q 2, 0])
  else if k = 1 then (if y = 1 then [xof q 9, 0, xof q 9, 0] else [xof q 3, 0])
  else if k = 2 then (if y = 1 then [] else [xof q 14])
  else if k = 3 then (if y = 1 then [] else [xof q 15])
  else if k = 4 then (if y = 1 then [xof q 14] else (if w = 1 then [xof q 8, 0, xof q 9, 0] else [xof q 8, 0]))
  else if k = 5 then (if y = 1 then [xof q 15] else [xof q 9, 0, xof q 9, 0])
  else if k = 8 then [xof q 10, xof q 11]
  else if k = 9 then [xof q 12, xof q 13]
  else if k = 14 then [xof q 16, xof q 17]
  else if k = 15 then [xof q 18, xof q 19]
  else if k = 10 then [xof (2 * t + 1) (if y = 1 then 0 else 6), 0]
  else if k = 11 then [0, xof (2 * t) (if y = 1 then 0 else 6), 0]
  else if k = 12 then [xof (2 * t + 1) (if y = 1 then 1 else 7), 0]
  else if k = 13 then [xof (2 * t) (if y = 1 then 1 else 7), 0]
  else if k = 16 then [xof (2 * t + 1) (if y = 1 then 4 else 0), 0]
  else if k = 17 then [xof (2 * t) (if y = 1 then 4 else 0), 0]
  else if k = 18 then [xof (2 * t + 1) (if y = 1 then 5 else 1), 0]
  else [xof (2 * t) (if y = 1 then 5 else 1), 0]
def xprod (R : xRl) (c : Nat) : List Nat :=
  if c = 0 then [] else if (c - 1) % 20 = 6 then [xof ((c - 1) / 20) 4, 0] else if (c - 1) % 20 = 7 then [xof ((c - 1) / 20) 5, 0]
  else match R ((c - 1) / 20) with
    | none => []
    | some q => xpr ((c - 1) / 20) ((c - 1) % 20) q.1 q.2.1 q.2.2
/-- rules as they can be -/
def RV (R : xRl) : Prop := ∀ q z, R q = some z → z.1 < 2 ∧ z.2.1 < 2 ∧ z.2.2 < 3
theorem xpr_chk : ((List.range 6).all fun q => (List.range 20).all fun k => (List.range 2).all fun w => (List.range 2).all fun y => (List.range 3).all fun t => decide ((xpr q k w y t).length ≤ 4) && (xpr q k w y t).all (fun z => decide (z < 121))) = true := by decide +kernel
theorem xpr_ok (q : Nat) (hq : q < 6) (k : Nat) (hk : k < 20) (w : Nat) (hw : w < 2) (y : Nat) (hy : y < 2) (t : Nat) (ht : t < 3) : (xpr q k w y t).length ≤ 4 ∧ ∀ z ∈ xpr q k w y t, z < 121 := by
  have h := List.all_eq_true.mp (List.all_eq_true.mp (List.all_eq_true.mp (List.all_eq_true.mp (List.all_eq_true.mp xpr_chk q (List.mem_range.mpr hq)) k (List.mem_range.mpr hk)) w (List.mem_range.mpr hw)) y (List.mem_range.mpr hy)) t (List.mem_range.mpr ht)
  simp only [Bool.and_eq_true, decide_eq_true_eq, List.all_eq_true] at h
  exact h
theorem xprod_ok {R : xRl} (hR : RV R) {c : Nat} (hc : c < 121) : (xprod R c).length ≤ 4 ∧ ∀ z ∈ xprod R c, z < 121 := by
  unfold xprod
  split
  · simp
  · split
    · simp [xof]; omega
    · split
      · simp [xof]; omega
      · split
        · simp
        · next q hq =>
          obtain ⟨h1, h2, h3⟩ := hR _ _ hq
          exact xpr_ok _ (by omega) _ (by omega) _ h1 _ h2 _ h3
theorem xprod_none : ∀ c, c < 121 → (xprod (fun _ => none) c).length ≤ 4 ∧ ∀ z ∈ xprod (fun _ => none) c, z < 121 := fun c hc => xprod_ok (fun q z h => by cases h) hc
/-! steps -/
/-- the counters: (values, line) -/
def cstep (nl : Nat) (op wk on iz : Nat → Nat) (s : (Nat → Nat) × Nat) : Option ((Nat → Nat) × Nat) :=
  if s.2 < nl then
    (if op s.2 = 0 then (if s.1 (wk s.2) < 1000 then some (va_up s.1 (wk s.2) (s.1 (wk s.2) + 1), on s.2) else none)
    else if op s.2 = 1 then (if s.1 (wk s.2) = 0 then some (s.1, iz s.2) else some (va_up s.1 (wk s.2) (s.1 (wk s.2) - 1), on s.2))
    else none)
  else none
/-- the machine: (state, sign, left, right) -/
def mstep (R : xRl) (s : Nat × Nat × Nat × Nat) : Option (Nat × Nat × Nat × Nat) :=
  match R (2 * s.1 + s.2.1) with
  | none => none
  | some z =>
    if z.2.1 = 1 then (if 2 * s.2.2.1 + z.1 ≤ 100000 then some (z.2.2, s.2.2.2 % 2, 2 * s.2.2.1 + z.1, s.2.2.2 / 2) else none)
    else (if 2 * s.2.2.2 + z.1 ≤ 100000 then some (z.2.2, s.2.2.1 % 2, s.2.2.1 / 2, 2 * s.2.2.2 + z.1) else none)
def tstep (R : xRl) (w : List Nat) : Option (List Nat) :=
  if w.length < 2 then none else if (xprod R (w.getD 0 0)).length = 0 then none
  else if 600 < w.length - 2 + (xprod R (w.getD 0 0)).length then none else some (w.drop 2 ++ xprod R (w.getD 0 0))
/-- a word whose letters are letters, short enough -/
def WV (w : List Nat) : Prop := w.length ≤ 600 ∧ ∀ z ∈ w, z < 121
theorem getD_mem {w : List Nat} {i : Nat} (h : i < w.length) : w.getD i 0 ∈ w := by
  rw [List.getD_eq_getElem?_getD, List.getElem?_eq_getElem h]
  exact List.getElem_mem h
theorem WV.at0 {w : List Nat} (h : WV w) {i : Nat} (hi : i < w.length) : w.getD i 0 < 121 := h.2 _ (getD_mem hi)
theorem tstep_ok {R : xRl} (hR : RV R) {w w' : List Nat} (h : WV w) (e : tstep R w = some w') : WV w' := by
  unfold tstep at e
  split at e
  · cases e
  · split at e
    · cases e
    · split at e
      · cases e
      · next h1 h2 h3 =>
        cases e
        refine ⟨by simp only [List.length_append, List.length_drop]; omega, fun z hz => ?_⟩
        rcases List.mem_append.mp hz with q | q
        · exact h.2 z (List.mem_of_mem_drop q)
        · exact (xprod_ok hR (h.at0 (by omega))).2 z q
/-- the bits, told by letters and the turn -/
def bpass (s : List Nat × Nat) : List Nat × Nat := (if (s.2 + 1) % 121 = 0 then s.1.drop 1 else s.1, if s.2 + 1 = 242 then 0 else s.2 + 1)
def bapp (R : xRl) (t : Nat) : List Nat := if t < 121 then xprod R t else []
def bstill (R : xRl) (s : List Nat × Nat) : Prop := s.2 = 0 ∧ (s.1.length < 2 ∨ (xprod R (s.1.getD 0 0)).length = 0)
theorem bstill_or (R : xRl) (s : List Nat × Nat) : bstill R s ∨ ¬ bstill R s := Classical.em _
def bstep (R : xRl) (s : List Nat × Nat) : Option (List Nat × Nat) :=
  if s.2 = 0 ∧ (s.1.length < 2 ∨ (xprod R (s.1.getD 0 0)).length = 0) then none
  else if s.1.getD 0 0 = s.2 % 121 then
    (if 80000 < 121 * s.1.length - s.2 % 121 - 1 + 121 * (bapp R s.2).length then none else some (bpass (s.1 ++ bapp R s.2, s.2)))
  else some (bpass s)
def bmany (s : List Nat × Nat) : Nat := 121 * s.1.length - s.2 % 121
def bitf (L : List Nat) (i : Nat) : Nat := if L.getD (i / 121) 0 = i % 121 then 1 else 0
def BV (s : List Nat × Nat) : Prop := s.2 < 242 ∧ (∀ z ∈ s.1, z < 121) ∧ bmany s ≤ 80000 ∧ (s.2 ≠ 0 → 1 ≤ s.1.length) ∧ (s.2 ≠ 0 → s.2 < 121 → 2 ≤ s.1.length)
theorem BV.len {s : List Nat × Nat} (h : BV s) : s.1.length ≤ 661 ∨ (s.2 % 121 ≠ 0 ∧ s.1.length ≤ 662) := by
  have := h.2.2.1
  unfold bmany at this
  have h2 := Nat.mod_lt s.2 (show 0 < 121 by decide)
  omega
theorem bpass_ok {L : List Nat} {t : Nat} (ht : t < 242) (hL : ∀ z ∈ L, z < 121) (h1 : 1 ≤ L.length) (h2 : t < 121 → 2 ≤ L.length) (hm : 121 * L.length - t % 121 ≤ 80001) : BV (bpass (L, t)) := by
  unfold bpass BV bmany
  dsimp only
  refine ⟨by split <;> omega, ?_, ?_, ?_, ?_⟩
  · intro z hz
    split at hz
    · exact hL z (List.mem_of_mem_drop hz)
    · exact hL z hz
  · split <;> split <;> (try simp only [List.length_drop]) <;> omega
  · intro h
    split at h
    · exact absurd rfl h
    · split
      · simp only [List.length_drop]; omega
      · omega
  · intro h h3
    split at h
    · exact absurd rfl h
    · next h4 =>
      rw [if_neg h4] at h3
      rw [if_neg (by omega)]
      exact h2 (by omega)
theorem bstep_ok {R : xRl} (hR : RV R) {s s' : List Nat × Nat} (h : BV s) (e : bstep R s = some s') : BV s' := by
  obtain ⟨L, t⟩ := s
  obtain ⟨h1, h2, h3, h4, h5⟩ := h
  unfold bmany at h3
  dsimp only at h1 h2 h3 h4 h5
  unfold bstep at e
  dsimp only at e
  split at e
  · cases e
  · next hs =>
    have hl1 : 1 ≤ L.length := by
      by_cases ht : t = 0
      · have : ¬ (L.length < 2 ∨ (xprod R (L.getD 0 0)).length = 0) := fun q => hs ⟨ht, q⟩
        omega
      · exact h4 ht
    have hl2 : t < 121 → 2 ≤ L.length := by
      intro q
      by_cases ht : t = 0
      · have : ¬ (L.length < 2 ∨ (xprod R (L.getD 0 0)).length = 0) := fun q => hs ⟨ht, q⟩
        omega
      · exact h5 ht q
    split at e
    · split at e
      · cases e
      · next hq =>
        cases e
        refine bpass_ok h1 ?_ ?_ ?_ ?_
        · intro z hz
          rcases List.mem_append.mp hz with q | q
          · exact h2 z q
          · unfold bapp at q
            split at q
            · exact (xprod_ok hR (by assumption)).2 z q
            · cases q
        · simp only [List.length_append]; omega
        · intro q; have := hl2 q; simp only [List.length_append]; omega
        · simp only [List.length_append]; omega
    · cases e
      exact bpass_ok h1 h2 hl1 hl2 (by omega)
end
section
theorem dX0_init_0 : decode cX0_init 0 = .ok (.aload_n 0, 1) := by decide +kernel
theorem dX0_init_1 : decode cX0_init 1 = .ok (.invokespecial 3, 3) := by decide +kernel
theorem dX0_init_4 : decode cX0_init 4 = .ok (.aload_n 0, 1) := by decide +kernel
theorem dX0_init_5 : decode cX0_init 5 = .ok (.new 9, 3) := by decide +kernel
theorem dX0_init_8 : decode cX0_init 8 = .ok (.dup, 1) := by decide +kernel
theorem dX0_init_9 : decode cX0_init 9 = .ok (.sipush 662, 3) := by decide +kernel
theorem dX0_init_12 : decode cX0_init 12 = .ok (.invokespecial 11, 3) := by decide +kernel
theorem dX0_init_15 : decode cX0_init 15 = .ok (.putfield 14, 3) := by decide +kernel
theorem dX0_init_18 : decode cX0_init 18 = .ok (.return_, 1) := by decide +kernel
theorem dX0_layWord_0 : decode cX0_layWord 0 = .ok (.aload_n 1, 1) := by decide +kernel
theorem dX0_layWord_1 : decode cX0_layWord 1 = .ok (.getfield 20, 3) := by decide +kernel
theorem dX0_layWord_4 : decode cX0_layWord 4 = .ok (.bipush 121, 2) := by decide +kernel
theorem dX0_layWord_6 : decode cX0_layWord 6 = .ok (.imul, 1) := by decide +kernel
theorem dX0_layWord_7 : decode cX0_layWord 7 = .ok (.istore_n 2, 1) := by decide +kernel
theorem dX0_layWord_8 : decode cX0_layWord 8 = .ok (.iload_n 2, 1) := by decide +kernel
theorem dX0_layWord_9 : decode cX0_layWord 9 = .ok (.ldc 24, 2) := by decide +kernel
theorem dX0_layWord_11 : decode cX0_layWord 11 = .ok (.if_icmp .le 6, 3) := by decide +kernel
theorem dX0_layWord_14 : decode cX0_layWord 14 = .ok (.bipush (-3), 2) := by decide +kernel
theorem dX0_layWord_16 : decode cX0_layWord 16 = .ok (.ireturn, 1) := by decide +kernel
theorem dX0_layWord_17 : decode cX0_layWord 17 = .ok (.aload_n 0, 1) := by decide +kernel
theorem dX0_layWord_18 : decode cX0_layWord 18 = .ok (.getfield 14, 3) := by decide +kernel
theorem dX0_layWord_21 : decode cX0_layWord 21 = .ok (.aload_n 1, 1) := by decide +kernel
theorem dX0_layWord_22 : decode cX0_layWord 22 = .ok (.invokevirtual 25, 3) := by decide +kernel
theorem dX0_layWord_25 : decode cX0_layWord 25 = .ok (.aload_n 0, 1) := by decide +kernel
theorem dX0_layWord_26 : decode cX0_layWord 26 = .ok (.iconst 0, 1) := by decide +kernel
theorem dX0_layWord_27 : decode cX0_layWord 27 = .ok (.putfield 29, 3) := by decide +kernel
theorem dX0_layWord_30 : decode cX0_layWord 30 = .ok (.iload_n 2, 1) := by decide +kernel
theorem dX0_layWord_31 : decode cX0_layWord 31 = .ok (.ireturn, 1) := by decide +kernel
theorem dX0_size_0 : decode cX0_size 0 = .ok (.aload_n 0, 1) := by decide +kernel
theorem dX0_size_1 : decode cX0_size 1 = .ok (.getfield 14, 3) := by decide +kernel
theorem dX0_size_4 : decode cX0_size 4 = .ok (.getfield 20, 3) := by decide +kernel
theorem dX0_size_7 : decode cX0_size 7 = .ok (.bipush 121, 2) := by decide +kernel
theorem dX0_size_9 : decode cX0_size 9 = .ok (.imul, 1) := by decide +kernel
theorem dX0_size_10 : decode cX0_size 10 = .ok (.aload_n 0, 1) := by decide +kernel
theorem dX0_size_11 : decode cX0_size 11 = .ok (.invokevirtual 32, 3) := by decide +kernel
theorem dX0_size_14 : decode cX0_size 14 = .ok (.isub, 1) := by decide +kernel
theorem dX0_size_15 : decode cX0_size 15 = .ok (.ireturn, 1) := by decide +kernel
theorem dX0_gone_0 : decode cX0_gone 0 = .ok (.aload_n 0, 1) := by decide +kernel
theorem dX0_gone_1 : decode cX0_gone 1 = .ok (.getfield 29, 3) := by decide +kernel
theorem dX0_gone_4 : decode cX0_gone 4 = .ok (.bipush 121, 2) := by decide +kernel
theorem dX0_gone_6 : decode cX0_gone 6 = .ok (.irem, 1) := by decide +kernel
theorem dX0_gone_7 : decode cX0_gone 7 = .ok (.ireturn, 1) := by decide +kernel
theorem dX0_get_0 : decode cX0_get 0 = .ok (.iload_n 1, 1) := by decide +kernel
theorem dX0_get_1 : decode cX0_get 1 = .ok (.iconst 0, 1) := by decide +kernel
theorem dX0_get_2 : decode cX0_get 2 = .ok (.aload_n 0, 1) := by decide +kernel
theorem dX0_get_3 : decode cX0_get 3 = .ok (.invokevirtual 36, 3) := by decide +kernel
theorem dX0_get_6 : decode cX0_get 6 = .ok (.iconst 1, 1) := by decide +kernel
theorem dX0_get_7 : decode cX0_get 7 = .ok (.isub, 1) := by decide +kernel
theorem dX0_get_8 : decode cX0_get 8 = .ok (.invokestatic 38, 3) := by decide +kernel
theorem dX0_get_11 : decode cX0_get 11 = .ok (.ifCond .eq 6, 3) := by decide +kernel
theorem dX0_get_14 : decode cX0_get 14 = .ok (.bipush (-9), 2) := by decide +kernel
theorem dX0_get_16 : decode cX0_get 16 = .ok (.ireturn, 1) := by decide +kernel
theorem dX0_get_17 : decode cX0_get 17 = .ok (.iload_n 1, 1) := by decide +kernel
theorem dX0_get_18 : decode cX0_get 18 = .ok (.aload_n 0, 1) := by decide +kernel
theorem dX0_get_19 : decode cX0_get 19 = .ok (.invokevirtual 32, 3) := by decide +kernel
theorem dX0_get_22 : decode cX0_get 22 = .ok (.iadd, 1) := by decide +kernel
theorem dX0_get_23 : decode cX0_get 23 = .ok (.istore_n 2, 1) := by decide +kernel
theorem dX0_get_24 : decode cX0_get 24 = .ok (.aload_n 0, 1) := by decide +kernel
theorem dX0_get_25 : decode cX0_get 25 = .ok (.getfield 14, 3) := by decide +kernel
theorem dX0_get_28 : decode cX0_get 28 = .ok (.iload_n 2, 1) := by decide +kernel
theorem dX0_get_29 : decode cX0_get 29 = .ok (.bipush 121, 2) := by decide +kernel
theorem dX0_get_31 : decode cX0_get 31 = .ok (.idiv, 1) := by decide +kernel
theorem dX0_get_32 : decode cX0_get 32 = .ok (.invokevirtual 42, 3) := by decide +kernel
theorem dX0_get_35 : decode cX0_get 35 = .ok (.iload_n 2, 1) := by decide +kernel
theorem dX0_get_36 : decode cX0_get 36 = .ok (.bipush 121, 2) := by decide +kernel
theorem dX0_get_38 : decode cX0_get 38 = .ok (.irem, 1) := by decide +kernel
theorem dX0_get_39 : decode cX0_get 39 = .ok (.if_icmp .ne 7, 3) := by decide +kernel
theorem dX0_get_42 : decode cX0_get 42 = .ok (.iconst 1, 1) := by decide +kernel
theorem dX0_get_43 : decode cX0_get 43 = .ok (.goto 4, 3) := by decide +kernel
theorem dX0_get_46 : decode cX0_get 46 = .ok (.iconst 0, 1) := by decide +kernel
theorem dX0_get_47 : decode cX0_get 47 = .ok (.invokestatic 46, 3) := by decide +kernel
theorem dX0_get_50 : decode cX0_get 50 = .ok (.ireturn, 1) := by decide +kernel
theorem dX0_ones_0 : decode cX0_ones 0 = .ok (.aload_n 0, 1) := by decide +kernel
theorem dX0_ones_1 : decode cX0_ones 1 = .ok (.getfield 14, 3) := by decide +kernel
theorem dX0_ones_4 : decode cX0_ones 4 = .ok (.getfield 20, 3) := by decide +kernel
theorem dX0_ones_7 : decode cX0_ones 7 = .ok (.ifCond .le 22, 3) := by decide +kernel
theorem dX0_ones_10 : decode cX0_ones 10 = .ok (.aload_n 0, 1) := by decide +kernel
theorem dX0_ones_11 : decode cX0_ones 11 = .ok (.getfield 14, 3) := by decide +kernel
theorem dX0_ones_14 : decode cX0_ones 14 = .ok (.iconst 0, 1) := by decide +kernel
theorem dX0_ones_15 : decode cX0_ones 15 = .ok (.invokevirtual 42, 3) := by decide +kernel
theorem dX0_ones_18 : decode cX0_ones 18 = .ok (.aload_n 0, 1) := by decide +kernel
theorem dX0_ones_19 : decode cX0_ones 19 = .ok (.invokevirtual 32, 3) := by decide +kernel
theorem dX0_ones_22 : decode cX0_ones 22 = .ok (.if_icmp .ge 7, 3) := by decide +kernel
theorem dX0_ones_25 : decode cX0_ones 25 = .ok (.iconst 1, 1) := by decide +kernel
theorem dX0_ones_26 : decode cX0_ones 26 = .ok (.goto 4, 3) := by decide +kernel
theorem dX0_ones_29 : decode cX0_ones 29 = .ok (.iconst 0, 1) := by decide +kernel
theorem dX0_ones_30 : decode cX0_ones 30 = .ok (.istore_n 1, 1) := by decide +kernel
theorem dX0_ones_31 : decode cX0_ones 31 = .ok (.iload_n 1, 1) := by decide +kernel
theorem dX0_ones_32 : decode cX0_ones 32 = .ok (.ifCond .eq 15, 3) := by decide +kernel
theorem dX0_ones_35 : decode cX0_ones 35 = .ok (.aload_n 0, 1) := by decide +kernel
theorem dX0_ones_36 : decode cX0_ones 36 = .ok (.getfield 14, 3) := by decide +kernel
theorem dX0_ones_39 : decode cX0_ones 39 = .ok (.getfield 20, 3) := by decide +kernel
theorem dX0_ones_42 : decode cX0_ones 42 = .ok (.iconst 1, 1) := by decide +kernel
theorem dX0_ones_43 : decode cX0_ones 43 = .ok (.isub, 1) := by decide +kernel
theorem dX0_ones_44 : decode cX0_ones 44 = .ok (.goto 10, 3) := by decide +kernel
theorem dX0_ones_47 : decode cX0_ones 47 = .ok (.aload_n 0, 1) := by decide +kernel
theorem dX0_ones_48 : decode cX0_ones 48 = .ok (.getfield 14, 3) := by decide +kernel
theorem dX0_ones_51 : decode cX0_ones 51 = .ok (.getfield 20, 3) := by decide +kernel
theorem dX0_ones_54 : decode cX0_ones 54 = .ok (.ireturn, 1) := by decide +kernel
theorem dX0_isStill_0 : decode cX0_isStill 0 = .ok (.aload_n 0, 1) := by decide +kernel
theorem dX0_isStill_1 : decode cX0_isStill 1 = .ok (.getfield 29, 3) := by decide +kernel
theorem dX0_isStill_4 : decode cX0_isStill 4 = .ok (.ifCond .ne 33, 3) := by decide +kernel
theorem dX0_isStill_7 : decode cX0_isStill 7 = .ok (.aload_n 0, 1) := by decide +kernel
theorem dX0_isStill_8 : decode cX0_isStill 8 = .ok (.getfield 14, 3) := by decide +kernel
theorem dX0_isStill_11 : decode cX0_isStill 11 = .ok (.getfield 20, 3) := by decide +kernel
theorem dX0_isStill_14 : decode cX0_isStill 14 = .ok (.iconst 2, 1) := by decide +kernel
theorem dX0_isStill_15 : decode cX0_isStill 15 = .ok (.if_icmp .lt 18, 3) := by decide +kernel
theorem dX0_isStill_18 : decode cX0_isStill 18 = .ok (.aload_n 1, 1) := by decide +kernel
theorem dX0_isStill_19 : decode cX0_isStill 19 = .ok (.aload_n 0, 1) := by decide +kernel
theorem dX0_isStill_20 : decode cX0_isStill 20 = .ok (.getfield 14, 3) := by decide +kernel
theorem dX0_isStill_23 : decode cX0_isStill 23 = .ok (.iconst 0, 1) := by decide +kernel
theorem dX0_isStill_24 : decode cX0_isStill 24 = .ok (.invokevirtual 42, 3) := by decide +kernel
theorem dX0_isStill_27 : decode cX0_isStill 27 = .ok (.invokevirtual 50, 3) := by decide +kernel
theorem dX0_isStill_30 : decode cX0_isStill 30 = .ok (.ifCond .ne 7, 3) := by decide +kernel
theorem dX0_isStill_33 : decode cX0_isStill 33 = .ok (.iconst 1, 1) := by decide +kernel
theorem dX0_isStill_34 : decode cX0_isStill 34 = .ok (.goto 4, 3) := by decide +kernel
theorem dX0_isStill_37 : decode cX0_isStill 37 = .ok (.iconst 0, 1) := by decide +kernel
theorem dX0_isStill_38 : decode cX0_isStill 38 = .ok (.ireturn, 1) := by decide +kernel
theorem dX0_doSteps_0 : decode cX0_doSteps 0 = .ok (.iconst 0, 1) := by decide +kernel
theorem dX0_doSteps_1 : decode cX0_doSteps 1 = .ok (.istore_n 3, 1) := by decide +kernel
theorem dX0_doSteps_2 : decode cX0_doSteps 2 = .ok (.iload_n 3, 1) := by decide +kernel
theorem dX0_doSteps_3 : decode cX0_doSteps 3 = .ok (.iload_n 1, 1) := by decide +kernel
theorem dX0_doSteps_4 : decode cX0_doSteps 4 = .ok (.if_icmp .ge 28, 3) := by decide +kernel
theorem dX0_doSteps_7 : decode cX0_doSteps 7 = .ok (.aload_n 0, 1) := by decide +kernel
theorem dX0_doSteps_8 : decode cX0_doSteps 8 = .ok (.iload_n 1, 1) := by decide +kernel
theorem dX0_doSteps_9 : decode cX0_doSteps 9 = .ok (.iload_n 3, 1) := by decide +kernel
theorem dX0_doSteps_10 : decode cX0_doSteps 10 = .ok (.isub, 1) := by decide +kernel
theorem dX0_doSteps_11 : decode cX0_doSteps 11 = .ok (.aload_n 2, 1) := by decide +kernel
theorem dX0_doSteps_12 : decode cX0_doSteps 12 = .ok (.invokevirtual 55, 3) := by decide +kernel
theorem dX0_doSteps_15 : decode cX0_doSteps 15 = .ok (.istore 4, 2) := by decide +kernel
theorem dX0_doSteps_17 : decode cX0_doSteps 17 = .ok (.iload 4, 2) := by decide +kernel
theorem dX0_doSteps_19 : decode cX0_doSteps 19 = .ok (.ifCond .gt 5, 3) := by decide +kernel
theorem dX0_doSteps_22 : decode cX0_doSteps 22 = .ok (.iload_n 3, 1) := by decide +kernel
theorem dX0_doSteps_23 : decode cX0_doSteps 23 = .ok (.ireturn, 1) := by decide +kernel
theorem dX0_doSteps_24 : decode cX0_doSteps 24 = .ok (.iload_n 3, 1) := by decide +kernel
theorem dX0_doSteps_25 : decode cX0_doSteps 25 = .ok (.iload 4, 2) := by decide +kernel
theorem dX0_doSteps_27 : decode cX0_doSteps 27 = .ok (.iadd, 1) := by decide +kernel
theorem dX0_doSteps_28 : decode cX0_doSteps 28 = .ok (.istore_n 3, 1) := by decide +kernel
theorem dX0_doSteps_29 : decode cX0_doSteps 29 = .ok (.goto (-27), 3) := by decide +kernel
theorem dX0_doSteps_32 : decode cX0_doSteps 32 = .ok (.iload_n 3, 1) := by decide +kernel
theorem dX0_doSteps_33 : decode cX0_doSteps 33 = .ok (.ireturn, 1) := by decide +kernel
theorem dX0_take_0 : decode cX0_take 0 = .ok (.aload_n 0, 1) := by decide +kernel
theorem dX0_take_1 : decode cX0_take 1 = .ok (.aload_n 2, 1) := by decide +kernel
theorem dX0_take_2 : decode cX0_take 2 = .ok (.invokevirtual 59, 3) := by decide +kernel
theorem dX0_take_5 : decode cX0_take 5 = .ok (.ifCond .eq 5, 3) := by decide +kernel
theorem dX0_take_8 : decode cX0_take 8 = .ok (.iconst 0, 1) := by decide +kernel
theorem dX0_take_9 : decode cX0_take 9 = .ok (.ireturn, 1) := by decide +kernel
theorem dX0_take_10 : decode cX0_take 10 = .ok (.aload_n 0, 1) := by decide +kernel
theorem dX0_take_11 : decode cX0_take 11 = .ok (.invokevirtual 32, 3) := by decide +kernel
theorem dX0_take_14 : decode cX0_take 14 = .ok (.istore_n 3, 1) := by decide +kernel
theorem dX0_take_15 : decode cX0_take 15 = .ok (.aload_n 0, 1) := by decide +kernel
theorem dX0_take_16 : decode cX0_take 16 = .ok (.getfield 14, 3) := by decide +kernel
theorem dX0_take_19 : decode cX0_take 19 = .ok (.iconst 0, 1) := by decide +kernel
theorem dX0_take_20 : decode cX0_take 20 = .ok (.invokevirtual 42, 3) := by decide +kernel
theorem dX0_take_23 : decode cX0_take 23 = .ok (.istore 4, 2) := by decide +kernel
theorem dX0_take_25 : decode cX0_take 25 = .ok (.iload_n 3, 1) := by decide +kernel
theorem dX0_take_26 : decode cX0_take 26 = .ok (.iload 4, 2) := by decide +kernel
theorem dX0_take_28 : decode cX0_take 28 = .ok (.if_icmp .ne 9, 3) := by decide +kernel
theorem dX0_take_31 : decode cX0_take 31 = .ok (.aload_n 0, 1) := by decide +kernel
theorem dX0_take_32 : decode cX0_take 32 = .ok (.aload_n 2, 1) := by decide +kernel
theorem dX0_take_33 : decode cX0_take 33 = .ok (.invokevirtual 63, 3) := by decide +kernel
theorem dX0_take_36 : decode cX0_take 36 = .ok (.ireturn, 1) := by decide +kernel
theorem dX0_take_37 : decode cX0_take 37 = .ok (.iload_n 3, 1) := by decide +kernel
theorem dX0_take_38 : decode cX0_take 38 = .ok (.iload 4, 2) := by decide +kernel
theorem dX0_take_40 : decode cX0_take 40 = .ok (.if_icmp .ge 10, 3) := by decide +kernel
theorem dX0_take_43 : decode cX0_take 43 = .ok (.iload 4, 2) := by decide +kernel
theorem dX0_take_45 : decode cX0_take 45 = .ok (.iload_n 3, 1) := by decide +kernel
theorem dX0_take_46 : decode cX0_take 46 = .ok (.isub, 1) := by decide +kernel
theorem dX0_take_47 : decode cX0_take 47 = .ok (.goto 7, 3) := by decide +kernel
theorem dX0_take_50 : decode cX0_take 50 = .ok (.bipush 121, 2) := by decide +kernel
theorem dX0_take_52 : decode cX0_take 52 = .ok (.iload_n 3, 1) := by decide +kernel
theorem dX0_take_53 : decode cX0_take 53 = .ok (.isub, 1) := by decide +kernel
theorem dX0_take_54 : decode cX0_take 54 = .ok (.istore 5, 2) := by decide +kernel
theorem dX0_take_56 : decode cX0_take 56 = .ok (.iload 5, 2) := by decide +kernel
theorem dX0_take_58 : decode cX0_take 58 = .ok (.iload_n 1, 1) := by decide +kernel
theorem dX0_take_59 : decode cX0_take 59 = .ok (.invokestatic 67, 3) := by decide +kernel
theorem dX0_take_62 : decode cX0_take 62 = .ok (.istore 6, 2) := by decide +kernel
theorem dX0_take_64 : decode cX0_take 64 = .ok (.aload_n 0, 1) := by decide +kernel
theorem dX0_take_65 : decode cX0_take 65 = .ok (.iload 6, 2) := by decide +kernel
theorem dX0_take_67 : decode cX0_take 67 = .ok (.invokevirtual 73, 3) := by decide +kernel
theorem dX0_take_70 : decode cX0_take 70 = .ok (.iload 6, 2) := by decide +kernel
theorem dX0_take_72 : decode cX0_take 72 = .ok (.ireturn, 1) := by decide +kernel
theorem dX0_takeOne_0 : decode cX0_takeOne 0 = .ok (.aload_n 0, 1) := by decide +kernel
theorem dX0_takeOne_1 : decode cX0_takeOne 1 = .ok (.invokevirtual 36, 3) := by decide +kernel
theorem dX0_takeOne_4 : decode cX0_takeOne 4 = .ok (.iconst 1, 1) := by decide +kernel
theorem dX0_takeOne_5 : decode cX0_takeOne 5 = .ok (.isub, 1) := by decide +kernel
theorem dX0_takeOne_6 : decode cX0_takeOne 6 = .ok (.aload_n 1, 1) := by decide +kernel
theorem dX0_takeOne_7 : decode cX0_takeOne 7 = .ok (.aload_n 0, 1) := by decide +kernel
theorem dX0_takeOne_8 : decode cX0_takeOne 8 = .ok (.getfield 29, 3) := by decide +kernel
theorem dX0_takeOne_11 : decode cX0_takeOne 11 = .ok (.invokevirtual 50, 3) := by decide +kernel
theorem dX0_takeOne_14 : decode cX0_takeOne 14 = .ok (.bipush 121, 2) := by decide +kernel
theorem dX0_takeOne_16 : decode cX0_takeOne 16 = .ok (.imul, 1) := by decide +kernel
theorem dX0_takeOne_17 : decode cX0_takeOne 17 = .ok (.iadd, 1) := by decide +kernel
theorem dX0_takeOne_18 : decode cX0_takeOne 18 = .ok (.ldc 24, 2) := by decide +kernel
theorem dX0_takeOne_20 : decode cX0_takeOne 20 = .ok (.if_icmp .le 5, 3) := by decide +kernel
theorem dX0_takeOne_23 : decode cX0_takeOne 23 = .ok (.iconst 0, 1) := by decide +kernel
theorem dX0_takeOne_24 : decode cX0_takeOne 24 = .ok (.ireturn, 1) := by decide +kernel
theorem dX0_takeOne_25 : decode cX0_takeOne 25 = .ok (.aload_n 1, 1) := by decide +kernel
theorem dX0_takeOne_26 : decode cX0_takeOne 26 = .ok (.aload_n 0, 1) := by decide +kernel
theorem dX0_takeOne_27 : decode cX0_takeOne 27 = .ok (.getfield 14, 3) := by decide +kernel
theorem dX0_takeOne_30 : decode cX0_takeOne 30 = .ok (.aload_n 0, 1) := by decide +kernel
theorem dX0_takeOne_31 : decode cX0_takeOne 31 = .ok (.getfield 29, 3) := by decide +kernel
theorem dX0_takeOne_34 : decode cX0_takeOne 34 = .ok (.invokevirtual 76, 3) := by decide +kernel
theorem dX0_takeOne_37 : decode cX0_takeOne 37 = .ok (.aload_n 0, 1) := by decide +kernel
theorem dX0_takeOne_38 : decode cX0_takeOne 38 = .ok (.iconst 1, 1) := by decide +kernel
theorem dX0_takeOne_39 : decode cX0_takeOne 39 = .ok (.invokevirtual 73, 3) := by decide +kernel
theorem dX0_takeOne_42 : decode cX0_takeOne 42 = .ok (.iconst 1, 1) := by decide +kernel
theorem dX0_takeOne_43 : decode cX0_takeOne 43 = .ok (.ireturn, 1) := by decide +kernel
theorem dX0_pass_0 : decode cX0_pass 0 = .ok (.aload_n 0, 1) := by decide +kernel
theorem dX0_pass_1 : decode cX0_pass 1 = .ok (.dup, 1) := by decide +kernel
theorem dX0_pass_2 : decode cX0_pass 2 = .ok (.getfield 29, 3) := by decide +kernel
theorem dX0_pass_5 : decode cX0_pass 5 = .ok (.iload_n 1, 1) := by decide +kernel
theorem dX0_pass_6 : decode cX0_pass 6 = .ok (.iadd, 1) := by decide +kernel
theorem dX0_pass_7 : decode cX0_pass 7 = .ok (.putfield 29, 3) := by decide +kernel
theorem dX0_pass_10 : decode cX0_pass 10 = .ok (.aload_n 0, 1) := by decide +kernel
theorem dX0_pass_11 : decode cX0_pass 11 = .ok (.invokevirtual 32, 3) := by decide +kernel
theorem dX0_pass_14 : decode cX0_pass 14 = .ok (.ifCond .ne 11, 3) := by decide +kernel
theorem dX0_pass_17 : decode cX0_pass 17 = .ok (.aload_n 0, 1) := by decide +kernel
theorem dX0_pass_18 : decode cX0_pass 18 = .ok (.getfield 14, 3) := by decide +kernel
theorem dX0_pass_21 : decode cX0_pass 21 = .ok (.iconst 1, 1) := by decide +kernel
theorem dX0_pass_22 : decode cX0_pass 22 = .ok (.invokevirtual 80, 3) := by decide +kernel
theorem dX0_pass_25 : decode cX0_pass 25 = .ok (.aload_n 0, 1) := by decide +kernel
theorem dX0_pass_26 : decode cX0_pass 26 = .ok (.getfield 29, 3) := by decide +kernel
theorem dX0_pass_29 : decode cX0_pass 29 = .ok (.sipush 242, 3) := by decide +kernel
theorem dX0_pass_32 : decode cX0_pass 32 = .ok (.if_icmp .lt 8, 3) := by decide +kernel
theorem dX0_pass_35 : decode cX0_pass 35 = .ok (.aload_n 0, 1) := by decide +kernel
theorem dX0_pass_36 : decode cX0_pass 36 = .ok (.iconst 0, 1) := by decide +kernel
theorem dX0_pass_37 : decode cX0_pass 37 = .ok (.putfield 29, 3) := by decide +kernel
theorem dX0_pass_40 : decode cX0_pass 40 = .ok (.return_, 1) := by decide +kernel
theorem dX1_init_0 : decode cX1_init 0 = .ok (.aload_n 0, 1) := by decide +kernel
theorem dX1_init_1 : decode cX1_init 1 = .ok (.invokespecial 3, 3) := by decide +kernel
theorem dX1_init_4 : decode cX1_init 4 = .ok (.aload_n 0, 1) := by decide +kernel
theorem dX1_init_5 : decode cX1_init 5 = .ok (.iconst 4, 1) := by decide +kernel
theorem dX1_init_6 : decode cX1_init 6 = .ok (.newarray .int, 2) := by decide +kernel
theorem dX1_init_8 : decode cX1_init 8 = .ok (.putfield 9, 3) := by decide +kernel
theorem dX1_init_11 : decode cX1_init 11 = .ok (.aload_n 0, 1) := by decide +kernel
theorem dX1_init_12 : decode cX1_init 12 = .ok (.bipush 24, 2) := by decide +kernel
theorem dX1_init_14 : decode cX1_init 14 = .ok (.newarray .int, 2) := by decide +kernel
theorem dX1_init_16 : decode cX1_init 16 = .ok (.putfield 15, 3) := by decide +kernel
theorem dX1_init_19 : decode cX1_init 19 = .ok (.aload_n 0, 1) := by decide +kernel
theorem dX1_init_20 : decode cX1_init 20 = .ok (.bipush 24, 2) := by decide +kernel
theorem dX1_init_22 : decode cX1_init 22 = .ok (.newarray .int, 2) := by decide +kernel
theorem dX1_init_24 : decode cX1_init 24 = .ok (.putfield 18, 3) := by decide +kernel
theorem dX1_init_27 : decode cX1_init 27 = .ok (.aload_n 0, 1) := by decide +kernel
theorem dX1_init_28 : decode cX1_init 28 = .ok (.bipush 24, 2) := by decide +kernel
theorem dX1_init_30 : decode cX1_init 30 = .ok (.newarray .int, 2) := by decide +kernel
theorem dX1_init_32 : decode cX1_init 32 = .ok (.putfield 21, 3) := by decide +kernel
theorem dX1_init_35 : decode cX1_init 35 = .ok (.aload_n 0, 1) := by decide +kernel
theorem dX1_init_36 : decode cX1_init 36 = .ok (.bipush 24, 2) := by decide +kernel
theorem dX1_init_38 : decode cX1_init 38 = .ok (.newarray .int, 2) := by decide +kernel
theorem dX1_init_40 : decode cX1_init 40 = .ok (.putfield 24, 3) := by decide +kernel
theorem dX1_init_43 : decode cX1_init 43 = .ok (.return_, 1) := by decide +kernel
theorem dX1_addLine_0 : decode cX1_addLine 0 = .ok (.aload_n 0, 1) := by decide +kernel
theorem dX1_addLine_1 : decode cX1_addLine 1 = .ok (.getfield 27, 3) := by decide +kernel
theorem dX1_addLine_4 : decode cX1_addLine 4 = .ok (.bipush 24, 2) := by decide +kernel
theorem dX1_addLine_6 : decode cX1_addLine 6 = .ok (.if_icmp .lt 6, 3) := by decide +kernel
theorem dX1_addLine_9 : decode cX1_addLine 9 = .ok (.bipush (-3), 2) := by decide +kernel
theorem dX1_addLine_11 : decode cX1_addLine 11 = .ok (.ireturn, 1) := by decide +kernel
theorem dX1_addLine_12 : decode cX1_addLine 12 = .ok (.aload_n 0, 1) := by decide +kernel
theorem dX1_addLine_13 : decode cX1_addLine 13 = .ok (.getfield 15, 3) := by decide +kernel
theorem dX1_addLine_16 : decode cX1_addLine 16 = .ok (.aload_n 0, 1) := by decide +kernel
theorem dX1_addLine_17 : decode cX1_addLine 17 = .ok (.getfield 27, 3) := by decide +kernel
theorem dX1_addLine_20 : decode cX1_addLine 20 = .ok (.iload_n 1, 1) := by decide +kernel
theorem dX1_addLine_21 : decode cX1_addLine 21 = .ok (.iastore, 1) := by decide +kernel
theorem dX1_addLine_22 : decode cX1_addLine 22 = .ok (.aload_n 0, 1) := by decide +kernel
theorem dX1_addLine_23 : decode cX1_addLine 23 = .ok (.getfield 18, 3) := by decide +kernel
theorem dX1_addLine_26 : decode cX1_addLine 26 = .ok (.aload_n 0, 1) := by decide +kernel
theorem dX1_addLine_27 : decode cX1_addLine 27 = .ok (.getfield 27, 3) := by decide +kernel
theorem dX1_addLine_30 : decode cX1_addLine 30 = .ok (.iload_n 2, 1) := by decide +kernel
theorem dX1_addLine_31 : decode cX1_addLine 31 = .ok (.iastore, 1) := by decide +kernel
theorem dX1_addLine_32 : decode cX1_addLine 32 = .ok (.aload_n 0, 1) := by decide +kernel
theorem dX1_addLine_33 : decode cX1_addLine 33 = .ok (.getfield 21, 3) := by decide +kernel
theorem dX1_addLine_36 : decode cX1_addLine 36 = .ok (.aload_n 0, 1) := by decide +kernel
theorem dX1_addLine_37 : decode cX1_addLine 37 = .ok (.getfield 27, 3) := by decide +kernel
theorem dX1_addLine_40 : decode cX1_addLine 40 = .ok (.iload_n 3, 1) := by decide +kernel
theorem dX1_addLine_41 : decode cX1_addLine 41 = .ok (.iastore, 1) := by decide +kernel
theorem dX1_addLine_42 : decode cX1_addLine 42 = .ok (.aload_n 0, 1) := by decide +kernel
theorem dX1_addLine_43 : decode cX1_addLine 43 = .ok (.getfield 24, 3) := by decide +kernel
theorem dX1_addLine_46 : decode cX1_addLine 46 = .ok (.aload_n 0, 1) := by decide +kernel
theorem dX1_addLine_47 : decode cX1_addLine 47 = .ok (.getfield 27, 3) := by decide +kernel
theorem dX1_addLine_50 : decode cX1_addLine 50 = .ok (.iload 4, 2) := by decide +kernel
theorem dX1_addLine_52 : decode cX1_addLine 52 = .ok (.iastore, 1) := by decide +kernel
theorem dX1_addLine_53 : decode cX1_addLine 53 = .ok (.aload_n 0, 1) := by decide +kernel
theorem dX1_addLine_54 : decode cX1_addLine 54 = .ok (.dup, 1) := by decide +kernel
theorem dX1_addLine_55 : decode cX1_addLine 55 = .ok (.getfield 27, 3) := by decide +kernel
theorem dX1_addLine_58 : decode cX1_addLine 58 = .ok (.iconst 1, 1) := by decide +kernel
theorem dX1_addLine_59 : decode cX1_addLine 59 = .ok (.iadd, 1) := by decide +kernel
theorem dX1_addLine_60 : decode cX1_addLine 60 = .ok (.putfield 27, 3) := by decide +kernel
theorem dX1_addLine_63 : decode cX1_addLine 63 = .ok (.aload_n 0, 1) := by decide +kernel
theorem dX1_addLine_64 : decode cX1_addLine 64 = .ok (.getfield 27, 3) := by decide +kernel
theorem dX1_addLine_67 : decode cX1_addLine 67 = .ok (.ireturn, 1) := by decide +kernel
theorem dX1_forgetLines_0 : decode cX1_forgetLines 0 = .ok (.aload_n 0, 1) := by decide +kernel
theorem dX1_forgetLines_1 : decode cX1_forgetLines 1 = .ok (.getfield 27, 3) := by decide +kernel
theorem dX1_forgetLines_4 : decode cX1_forgetLines 4 = .ok (.istore_n 1, 1) := by decide +kernel
theorem dX1_forgetLines_5 : decode cX1_forgetLines 5 = .ok (.aload_n 0, 1) := by decide +kernel
theorem dX1_forgetLines_6 : decode cX1_forgetLines 6 = .ok (.iconst 0, 1) := by decide +kernel
theorem dX1_forgetLines_7 : decode cX1_forgetLines 7 = .ok (.putfield 27, 3) := by decide +kernel
theorem dX1_forgetLines_10 : decode cX1_forgetLines 10 = .ok (.aload_n 0, 1) := by decide +kernel
theorem dX1_forgetLines_11 : decode cX1_forgetLines 11 = .ok (.iconst 0, 1) := by decide +kernel
theorem dX1_forgetLines_12 : decode cX1_forgetLines 12 = .ok (.putfield 31, 3) := by decide +kernel
theorem dX1_forgetLines_15 : decode cX1_forgetLines 15 = .ok (.iload_n 1, 1) := by decide +kernel
theorem dX1_forgetLines_16 : decode cX1_forgetLines 16 = .ok (.ireturn, 1) := by decide +kernel
theorem dX1_value_0 : decode cX1_value 0 = .ok (.aload_n 0, 1) := by decide +kernel
theorem dX1_value_1 : decode cX1_value 1 = .ok (.getfield 9, 3) := by decide +kernel
theorem dX1_value_4 : decode cX1_value 4 = .ok (.iload_n 1, 1) := by decide +kernel
theorem dX1_value_5 : decode cX1_value 5 = .ok (.iaload, 1) := by decide +kernel
theorem dX1_value_6 : decode cX1_value 6 = .ok (.ireturn, 1) := by decide +kernel
theorem dX1_putValue_0 : decode cX1_putValue 0 = .ok (.aload_n 0, 1) := by decide +kernel
theorem dX1_putValue_1 : decode cX1_putValue 1 = .ok (.getfield 9, 3) := by decide +kernel
theorem dX1_putValue_4 : decode cX1_putValue 4 = .ok (.iload_n 1, 1) := by decide +kernel
theorem dX1_putValue_5 : decode cX1_putValue 5 = .ok (.iaload, 1) := by decide +kernel
theorem dX1_putValue_6 : decode cX1_putValue 6 = .ok (.istore_n 3, 1) := by decide +kernel
theorem dX1_putValue_7 : decode cX1_putValue 7 = .ok (.aload_n 0, 1) := by decide +kernel
theorem dX1_putValue_8 : decode cX1_putValue 8 = .ok (.getfield 9, 3) := by decide +kernel
theorem dX1_putValue_11 : decode cX1_putValue 11 = .ok (.iload_n 1, 1) := by decide +kernel
theorem dX1_putValue_12 : decode cX1_putValue 12 = .ok (.iload_n 2, 1) := by decide +kernel
theorem dX1_putValue_13 : decode cX1_putValue 13 = .ok (.iastore, 1) := by decide +kernel
theorem dX1_putValue_14 : decode cX1_putValue 14 = .ok (.iload_n 3, 1) := by decide +kernel
theorem dX1_putValue_15 : decode cX1_putValue 15 = .ok (.ireturn, 1) := by decide +kernel
theorem dX1_lineNow_0 : decode cX1_lineNow 0 = .ok (.aload_n 0, 1) := by decide +kernel
theorem dX1_lineNow_1 : decode cX1_lineNow 1 = .ok (.getfield 31, 3) := by decide +kernel
theorem dX1_lineNow_4 : decode cX1_lineNow 4 = .ok (.ireturn, 1) := by decide +kernel
theorem dX1_jump_0 : decode cX1_jump 0 = .ok (.aload_n 0, 1) := by decide +kernel
theorem dX1_jump_1 : decode cX1_jump 1 = .ok (.getfield 31, 3) := by decide +kernel
theorem dX1_jump_4 : decode cX1_jump 4 = .ok (.istore_n 2, 1) := by decide +kernel
theorem dX1_jump_5 : decode cX1_jump 5 = .ok (.aload_n 0, 1) := by decide +kernel
theorem dX1_jump_6 : decode cX1_jump 6 = .ok (.iload_n 1, 1) := by decide +kernel
theorem dX1_jump_7 : decode cX1_jump 7 = .ok (.putfield 31, 3) := by decide +kernel
theorem dX1_jump_10 : decode cX1_jump 10 = .ok (.iload_n 2, 1) := by decide +kernel
theorem dX1_jump_11 : decode cX1_jump 11 = .ok (.ireturn, 1) := by decide +kernel
theorem dX1_doLines_0 : decode cX1_doLines 0 = .ok (.iconst 0, 1) := by decide +kernel
theorem dX1_doLines_1 : decode cX1_doLines 1 = .ok (.istore_n 2, 1) := by decide +kernel
theorem dX1_doLines_2 : decode cX1_doLines 2 = .ok (.iload_n 2, 1) := by decide +kernel
theorem dX1_doLines_3 : decode cX1_doLines 3 = .ok (.iload_n 1, 1) := by decide +kernel
theorem dX1_doLines_4 : decode cX1_doLines 4 = .ok (.if_icmp .ge 16, 3) := by decide +kernel
theorem dX1_doLines_7 : decode cX1_doLines 7 = .ok (.aload_n 0, 1) := by decide +kernel
theorem dX1_doLines_8 : decode cX1_doLines 8 = .ok (.invokevirtual 34, 3) := by decide +kernel
theorem dX1_doLines_11 : decode cX1_doLines 11 = .ok (.ifCond .eq 9, 3) := by decide +kernel
theorem dX1_doLines_14 : decode cX1_doLines 14 = .ok (.iinc 2 1, 3) := by decide +kernel
theorem dX1_doLines_17 : decode cX1_doLines 17 = .ok (.goto (-15), 3) := by decide +kernel
theorem dX1_doLines_20 : decode cX1_doLines 20 = .ok (.iload_n 2, 1) := by decide +kernel
theorem dX1_doLines_21 : decode cX1_doLines 21 = .ok (.ireturn, 1) := by decide +kernel
theorem dX1_doLine_0 : decode cX1_doLine 0 = .ok (.aload_n 0, 1) := by decide +kernel
theorem dX1_doLine_1 : decode cX1_doLine 1 = .ok (.getfield 31, 3) := by decide +kernel
theorem dX1_doLine_4 : decode cX1_doLine 4 = .ok (.iconst 0, 1) := by decide +kernel
theorem dX1_doLine_5 : decode cX1_doLine 5 = .ok (.aload_n 0, 1) := by decide +kernel
theorem dX1_doLine_6 : decode cX1_doLine 6 = .ok (.getfield 27, 3) := by decide +kernel
theorem dX1_doLine_9 : decode cX1_doLine 9 = .ok (.iconst 1, 1) := by decide +kernel
theorem dX1_doLine_10 : decode cX1_doLine 10 = .ok (.isub, 1) := by decide +kernel
theorem dX1_doLine_11 : decode cX1_doLine 11 = .ok (.invokestatic 38, 3) := by decide +kernel
theorem dX1_doLine_14 : decode cX1_doLine 14 = .ok (.ifCond .eq 5, 3) := by decide +kernel
theorem dX1_doLine_17 : decode cX1_doLine 17 = .ok (.iconst 0, 1) := by decide +kernel
theorem dX1_doLine_18 : decode cX1_doLine 18 = .ok (.ireturn, 1) := by decide +kernel
theorem dX1_doLine_19 : decode cX1_doLine 19 = .ok (.aload_n 0, 1) := by decide +kernel
theorem dX1_doLine_20 : decode cX1_doLine 20 = .ok (.getfield 15, 3) := by decide +kernel
theorem dX1_doLine_23 : decode cX1_doLine 23 = .ok (.aload_n 0, 1) := by decide +kernel
theorem dX1_doLine_24 : decode cX1_doLine 24 = .ok (.getfield 31, 3) := by decide +kernel
theorem dX1_doLine_27 : decode cX1_doLine 27 = .ok (.iaload, 1) := by decide +kernel
theorem dX1_doLine_28 : decode cX1_doLine 28 = .ok (.lookupswitch 56 #[(0, 28), (1, 42)], 28) := by decide +kernel
theorem dX1_doLine_56 : decode cX1_doLine 56 = .ok (.aload_n 0, 1) := by decide +kernel
theorem dX1_doLine_57 : decode cX1_doLine 57 = .ok (.aload_n 0, 1) := by decide +kernel
theorem dX1_doLine_58 : decode cX1_doLine 58 = .ok (.getfield 18, 3) := by decide +kernel
theorem dX1_doLine_61 : decode cX1_doLine 61 = .ok (.aload_n 0, 1) := by decide +kernel
theorem dX1_doLine_62 : decode cX1_doLine 62 = .ok (.getfield 31, 3) := by decide +kernel
theorem dX1_doLine_65 : decode cX1_doLine 65 = .ok (.iaload, 1) := by decide +kernel
theorem dX1_doLine_66 : decode cX1_doLine 66 = .ok (.invokevirtual 42, 3) := by decide +kernel
theorem dX1_doLine_69 : decode cX1_doLine 69 = .ok (.ireturn, 1) := by decide +kernel
theorem dX1_doLine_70 : decode cX1_doLine 70 = .ok (.aload_n 0, 1) := by decide +kernel
theorem dX1_doLine_71 : decode cX1_doLine 71 = .ok (.aload_n 0, 1) := by decide +kernel
theorem dX1_doLine_72 : decode cX1_doLine 72 = .ok (.getfield 18, 3) := by decide +kernel
theorem dX1_doLine_75 : decode cX1_doLine 75 = .ok (.aload_n 0, 1) := by decide +kernel
theorem dX1_doLine_76 : decode cX1_doLine 76 = .ok (.getfield 31, 3) := by decide +kernel
theorem dX1_doLine_79 : decode cX1_doLine 79 = .ok (.iaload, 1) := by decide +kernel
theorem dX1_doLine_80 : decode cX1_doLine 80 = .ok (.invokevirtual 46, 3) := by decide +kernel
theorem dX1_doLine_83 : decode cX1_doLine 83 = .ok (.ireturn, 1) := by decide +kernel
theorem dX1_doLine_84 : decode cX1_doLine 84 = .ok (.iconst 0, 1) := by decide +kernel
theorem dX1_doLine_85 : decode cX1_doLine 85 = .ok (.ireturn, 1) := by decide +kernel
theorem dX1_countUp_0 : decode cX1_countUp 0 = .ok (.aload_n 0, 1) := by decide +kernel
theorem dX1_countUp_1 : decode cX1_countUp 1 = .ok (.getfield 9, 3) := by decide +kernel
theorem dX1_countUp_4 : decode cX1_countUp 4 = .ok (.iload_n 1, 1) := by decide +kernel
theorem dX1_countUp_5 : decode cX1_countUp 5 = .ok (.iaload, 1) := by decide +kernel
theorem dX1_countUp_6 : decode cX1_countUp 6 = .ok (.sipush 1000, 3) := by decide +kernel
theorem dX1_countUp_9 : decode cX1_countUp 9 = .ok (.if_icmp .lt 5, 3) := by decide +kernel
theorem dX1_countUp_12 : decode cX1_countUp 12 = .ok (.iconst 0, 1) := by decide +kernel
theorem dX1_countUp_13 : decode cX1_countUp 13 = .ok (.ireturn, 1) := by decide +kernel
theorem dX1_countUp_14 : decode cX1_countUp 14 = .ok (.aload_n 0, 1) := by decide +kernel
theorem dX1_countUp_15 : decode cX1_countUp 15 = .ok (.getfield 9, 3) := by decide +kernel
theorem dX1_countUp_18 : decode cX1_countUp 18 = .ok (.iload_n 1, 1) := by decide +kernel
theorem dX1_countUp_19 : decode cX1_countUp 19 = .ok (.dup2, 1) := by decide +kernel
theorem dX1_countUp_20 : decode cX1_countUp 20 = .ok (.iaload, 1) := by decide +kernel
theorem dX1_countUp_21 : decode cX1_countUp 21 = .ok (.iconst 1, 1) := by decide +kernel
theorem dX1_countUp_22 : decode cX1_countUp 22 = .ok (.iadd, 1) := by decide +kernel
theorem dX1_countUp_23 : decode cX1_countUp 23 = .ok (.iastore, 1) := by decide +kernel
theorem dX1_countUp_24 : decode cX1_countUp 24 = .ok (.aload_n 0, 1) := by decide +kernel
theorem dX1_countUp_25 : decode cX1_countUp 25 = .ok (.aload_n 0, 1) := by decide +kernel
theorem dX1_countUp_26 : decode cX1_countUp 26 = .ok (.getfield 21, 3) := by decide +kernel
theorem dX1_countUp_29 : decode cX1_countUp 29 = .ok (.aload_n 0, 1) := by decide +kernel
theorem dX1_countUp_30 : decode cX1_countUp 30 = .ok (.getfield 31, 3) := by decide +kernel
theorem dX1_countUp_33 : decode cX1_countUp 33 = .ok (.iaload, 1) := by decide +kernel
theorem dX1_countUp_34 : decode cX1_countUp 34 = .ok (.putfield 31, 3) := by decide +kernel
theorem dX1_countUp_37 : decode cX1_countUp 37 = .ok (.iconst 1, 1) := by decide +kernel
theorem dX1_countUp_38 : decode cX1_countUp 38 = .ok (.ireturn, 1) := by decide +kernel
theorem dX1_countDown_0 : decode cX1_countDown 0 = .ok (.aload_n 0, 1) := by decide +kernel
theorem dX1_countDown_1 : decode cX1_countDown 1 = .ok (.getfield 9, 3) := by decide +kernel
theorem dX1_countDown_4 : decode cX1_countDown 4 = .ok (.iload_n 1, 1) := by decide +kernel
theorem dX1_countDown_5 : decode cX1_countDown 5 = .ok (.iaload, 1) := by decide +kernel
theorem dX1_countDown_6 : decode cX1_countDown 6 = .ok (.ifCond .ne 19, 3) := by decide +kernel
theorem dX1_countDown_9 : decode cX1_countDown 9 = .ok (.aload_n 0, 1) := by decide +kernel
theorem dX1_countDown_10 : decode cX1_countDown 10 = .ok (.aload_n 0, 1) := by decide +kernel
theorem dX1_countDown_11 : decode cX1_countDown 11 = .ok (.getfield 24, 3) := by decide +kernel
theorem dX1_countDown_14 : decode cX1_countDown 14 = .ok (.aload_n 0, 1) := by decide +kernel
theorem dX1_countDown_15 : decode cX1_countDown 15 = .ok (.getfield 31, 3) := by decide +kernel
theorem dX1_countDown_18 : decode cX1_countDown 18 = .ok (.iaload, 1) := by decide +kernel
theorem dX1_countDown_19 : decode cX1_countDown 19 = .ok (.putfield 31, 3) := by decide +kernel
theorem dX1_countDown_22 : decode cX1_countDown 22 = .ok (.goto 26, 3) := by decide +kernel
theorem dX1_countDown_25 : decode cX1_countDown 25 = .ok (.aload_n 0, 1) := by decide +kernel
theorem dX1_countDown_26 : decode cX1_countDown 26 = .ok (.getfield 9, 3) := by decide +kernel
theorem dX1_countDown_29 : decode cX1_countDown 29 = .ok (.iload_n 1, 1) := by decide +kernel
theorem dX1_countDown_30 : decode cX1_countDown 30 = .ok (.dup2, 1) := by decide +kernel
theorem dX1_countDown_31 : decode cX1_countDown 31 = .ok (.iaload, 1) := by decide +kernel
theorem dX1_countDown_32 : decode cX1_countDown 32 = .ok (.iconst 1, 1) := by decide +kernel
theorem dX1_countDown_33 : decode cX1_countDown 33 = .ok (.isub, 1) := by decide +kernel
theorem dX1_countDown_34 : decode cX1_countDown 34 = .ok (.iastore, 1) := by decide +kernel
theorem dX1_countDown_35 : decode cX1_countDown 35 = .ok (.aload_n 0, 1) := by decide +kernel
theorem dX1_countDown_36 : decode cX1_countDown 36 = .ok (.aload_n 0, 1) := by decide +kernel
theorem dX1_countDown_37 : decode cX1_countDown 37 = .ok (.getfield 21, 3) := by decide +kernel
theorem dX1_countDown_40 : decode cX1_countDown 40 = .ok (.aload_n 0, 1) := by decide +kernel
theorem dX1_countDown_41 : decode cX1_countDown 41 = .ok (.getfield 31, 3) := by decide +kernel
theorem dX1_countDown_44 : decode cX1_countDown 44 = .ok (.iaload, 1) := by decide +kernel
theorem dX1_countDown_45 : decode cX1_countDown 45 = .ok (.putfield 31, 3) := by decide +kernel
theorem dX1_countDown_48 : decode cX1_countDown 48 = .ok (.iconst 1, 1) := by decide +kernel
theorem dX1_countDown_49 : decode cX1_countDown 49 = .ok (.ireturn, 1) := by decide +kernel
theorem dX2_init_0 : decode cX2_init 0 = .ok (.aload_n 0, 1) := by decide +kernel
theorem dX2_init_1 : decode cX2_init 1 = .ok (.invokespecial 3, 3) := by decide +kernel
theorem dX2_init_4 : decode cX2_init 4 = .ok (.aload_n 0, 1) := by decide +kernel
theorem dX2_init_5 : decode cX2_init 5 = .ok (.iload_n 1, 1) := by decide +kernel
theorem dX2_init_6 : decode cX2_init 6 = .ok (.iconst 0, 1) := by decide +kernel
theorem dX2_init_7 : decode cX2_init 7 = .ok (.invokestatic 9, 3) := by decide +kernel
theorem dX2_init_10 : decode cX2_init 10 = .ok (.newarray .int, 2) := by decide +kernel
theorem dX2_init_12 : decode cX2_init 12 = .ok (.putfield 15, 3) := by decide +kernel
theorem dX2_init_15 : decode cX2_init 15 = .ok (.return_, 1) := by decide +kernel
theorem dX2_empty_0 : decode cX2_empty 0 = .ok (.aload_n 0, 1) := by decide +kernel
theorem dX2_empty_1 : decode cX2_empty 1 = .ok (.iconst 0, 1) := by decide +kernel
theorem dX2_empty_2 : decode cX2_empty 2 = .ok (.putfield 21, 3) := by decide +kernel
theorem dX2_empty_5 : decode cX2_empty 5 = .ok (.aload_n 0, 1) := by decide +kernel
theorem dX2_empty_6 : decode cX2_empty 6 = .ok (.iconst 0, 1) := by decide +kernel
theorem dX2_empty_7 : decode cX2_empty 7 = .ok (.putfield 25, 3) := by decide +kernel
theorem dX2_empty_10 : decode cX2_empty 10 = .ok (.return_, 1) := by decide +kernel
theorem dX2_get_0 : decode cX2_get 0 = .ok (.iload_n 1, 1) := by decide +kernel
theorem dX2_get_1 : decode cX2_get 1 = .ok (.iconst 0, 1) := by decide +kernel
theorem dX2_get_2 : decode cX2_get 2 = .ok (.aload_n 0, 1) := by decide +kernel
theorem dX2_get_3 : decode cX2_get 3 = .ok (.getfield 25, 3) := by decide +kernel
theorem dX2_get_6 : decode cX2_get 6 = .ok (.iconst 1, 1) := by decide +kernel
theorem dX2_get_7 : decode cX2_get 7 = .ok (.isub, 1) := by decide +kernel
theorem dX2_get_8 : decode cX2_get 8 = .ok (.invokestatic 28, 3) := by decide +kernel
theorem dX2_get_11 : decode cX2_get 11 = .ok (.ifCond .eq 8, 3) := by decide +kernel
theorem dX2_get_14 : decode cX2_get 14 = .ok (.bipush (-9), 2) := by decide +kernel
theorem dX2_get_16 : decode cX2_get 16 = .ok (.goto 18, 3) := by decide +kernel
theorem dX2_get_19 : decode cX2_get 19 = .ok (.aload_n 0, 1) := by decide +kernel
theorem dX2_get_20 : decode cX2_get 20 = .ok (.getfield 15, 3) := by decide +kernel
theorem dX2_get_23 : decode cX2_get 23 = .ok (.aload_n 0, 1) := by decide +kernel
theorem dX2_get_24 : decode cX2_get 24 = .ok (.aload_n 0, 1) := by decide +kernel
theorem dX2_get_25 : decode cX2_get 25 = .ok (.getfield 21, 3) := by decide +kernel
theorem dX2_get_28 : decode cX2_get 28 = .ok (.iload_n 1, 1) := by decide +kernel
theorem dX2_get_29 : decode cX2_get 29 = .ok (.iadd, 1) := by decide +kernel
theorem dX2_get_30 : decode cX2_get 30 = .ok (.invokevirtual 32, 3) := by decide +kernel
theorem dX2_get_33 : decode cX2_get 33 = .ok (.iaload, 1) := by decide +kernel
theorem dX2_get_34 : decode cX2_get 34 = .ok (.ireturn, 1) := by decide +kernel
theorem dX2_append_0 : decode cX2_append 0 = .ok (.aload_n 0, 1) := by decide +kernel
theorem dX2_append_1 : decode cX2_append 1 = .ok (.getfield 25, 3) := by decide +kernel
theorem dX2_append_4 : decode cX2_append 4 = .ok (.aload_n 0, 1) := by decide +kernel
theorem dX2_append_5 : decode cX2_append 5 = .ok (.getfield 15, 3) := by decide +kernel
theorem dX2_append_8 : decode cX2_append 8 = .ok (.arraylength, 1) := by decide +kernel
theorem dX2_append_9 : decode cX2_append 9 = .ok (.if_icmp .ge 32, 3) := by decide +kernel
theorem dX2_append_12 : decode cX2_append 12 = .ok (.aload_n 0, 1) := by decide +kernel
theorem dX2_append_13 : decode cX2_append 13 = .ok (.getfield 15, 3) := by decide +kernel
theorem dX2_append_16 : decode cX2_append 16 = .ok (.aload_n 0, 1) := by decide +kernel
theorem dX2_append_17 : decode cX2_append 17 = .ok (.aload_n 0, 1) := by decide +kernel
theorem dX2_append_18 : decode cX2_append 18 = .ok (.getfield 21, 3) := by decide +kernel
theorem dX2_append_21 : decode cX2_append 21 = .ok (.aload_n 0, 1) := by decide +kernel
theorem dX2_append_22 : decode cX2_append 22 = .ok (.getfield 25, 3) := by decide +kernel
theorem dX2_append_25 : decode cX2_append 25 = .ok (.iadd, 1) := by decide +kernel
theorem dX2_append_26 : decode cX2_append 26 = .ok (.invokevirtual 32, 3) := by decide +kernel
theorem dX2_append_29 : decode cX2_append 29 = .ok (.iload_n 1, 1) := by decide +kernel
theorem dX2_append_30 : decode cX2_append 30 = .ok (.iastore, 1) := by decide +kernel
theorem dX2_append_31 : decode cX2_append 31 = .ok (.aload_n 0, 1) := by decide +kernel
theorem dX2_append_32 : decode cX2_append 32 = .ok (.dup, 1) := by decide +kernel
theorem dX2_append_33 : decode cX2_append 33 = .ok (.getfield 25, 3) := by decide +kernel
theorem dX2_append_36 : decode cX2_append 36 = .ok (.iconst 1, 1) := by decide +kernel
theorem dX2_append_37 : decode cX2_append 37 = .ok (.iadd, 1) := by decide +kernel
theorem dX2_append_38 : decode cX2_append 38 = .ok (.putfield 25, 3) := by decide +kernel
theorem dX2_append_41 : decode cX2_append 41 = .ok (.return_, 1) := by decide +kernel
theorem dX2_drop_0 : decode cX2_drop 0 = .ok (.iload_n 1, 1) := by decide +kernel
theorem dX2_drop_1 : decode cX2_drop 1 = .ok (.aload_n 0, 1) := by decide +kernel
theorem dX2_drop_2 : decode cX2_drop 2 = .ok (.getfield 25, 3) := by decide +kernel
theorem dX2_drop_5 : decode cX2_drop 5 = .ok (.invokestatic 36, 3) := by decide +kernel
theorem dX2_drop_8 : decode cX2_drop 8 = .ok (.istore_n 2, 1) := by decide +kernel
theorem dX2_drop_9 : decode cX2_drop 9 = .ok (.aload_n 0, 1) := by decide +kernel
theorem dX2_drop_10 : decode cX2_drop 10 = .ok (.aload_n 0, 1) := by decide +kernel
theorem dX2_drop_11 : decode cX2_drop 11 = .ok (.aload_n 0, 1) := by decide +kernel
theorem dX2_drop_12 : decode cX2_drop 12 = .ok (.getfield 21, 3) := by decide +kernel
theorem dX2_drop_15 : decode cX2_drop 15 = .ok (.iload_n 2, 1) := by decide +kernel
theorem dX2_drop_16 : decode cX2_drop 16 = .ok (.iadd, 1) := by decide +kernel
theorem dX2_drop_17 : decode cX2_drop 17 = .ok (.invokevirtual 32, 3) := by decide +kernel
theorem dX2_drop_20 : decode cX2_drop 20 = .ok (.putfield 21, 3) := by decide +kernel
theorem dX2_drop_23 : decode cX2_drop 23 = .ok (.aload_n 0, 1) := by decide +kernel
theorem dX2_drop_24 : decode cX2_drop 24 = .ok (.dup, 1) := by decide +kernel
theorem dX2_drop_25 : decode cX2_drop 25 = .ok (.getfield 25, 3) := by decide +kernel
theorem dX2_drop_28 : decode cX2_drop 28 = .ok (.iload_n 2, 1) := by decide +kernel
theorem dX2_drop_29 : decode cX2_drop 29 = .ok (.isub, 1) := by decide +kernel
theorem dX2_drop_30 : decode cX2_drop 30 = .ok (.putfield 25, 3) := by decide +kernel
theorem dX2_drop_33 : decode cX2_drop 33 = .ok (.return_, 1) := by decide +kernel
theorem dX2_become_0 : decode cX2_become 0 = .ok (.aload_n 0, 1) := by decide +kernel
theorem dX2_become_1 : decode cX2_become 1 = .ok (.invokevirtual 39, 3) := by decide +kernel
theorem dX2_become_4 : decode cX2_become 4 = .ok (.iconst 0, 1) := by decide +kernel
theorem dX2_become_5 : decode cX2_become 5 = .ok (.istore_n 2, 1) := by decide +kernel
theorem dX2_become_6 : decode cX2_become 6 = .ok (.iload_n 2, 1) := by decide +kernel
theorem dX2_become_7 : decode cX2_become 7 = .ok (.aload_n 1, 1) := by decide +kernel
theorem dX2_become_8 : decode cX2_become 8 = .ok (.getfield 25, 3) := by decide +kernel
theorem dX2_become_11 : decode cX2_become 11 = .ok (.if_icmp .ge 18, 3) := by decide +kernel
theorem dX2_become_14 : decode cX2_become 14 = .ok (.aload_n 0, 1) := by decide +kernel
theorem dX2_become_15 : decode cX2_become 15 = .ok (.aload_n 1, 1) := by decide +kernel
theorem dX2_become_16 : decode cX2_become 16 = .ok (.iload_n 2, 1) := by decide +kernel
theorem dX2_become_17 : decode cX2_become 17 = .ok (.invokevirtual 42, 3) := by decide +kernel
theorem dX2_become_20 : decode cX2_become 20 = .ok (.invokevirtual 45, 3) := by decide +kernel
theorem dX2_become_23 : decode cX2_become 23 = .ok (.iinc 2 1, 3) := by decide +kernel
theorem dX2_become_26 : decode cX2_become 26 = .ok (.goto (-20), 3) := by decide +kernel
theorem dX2_become_29 : decode cX2_become 29 = .ok (.return_, 1) := by decide +kernel
theorem dX2_wrapped_0 : decode cX2_wrapped 0 = .ok (.iload_n 1, 1) := by decide +kernel
theorem dX2_wrapped_1 : decode cX2_wrapped 1 = .ok (.aload_n 0, 1) := by decide +kernel
theorem dX2_wrapped_2 : decode cX2_wrapped 2 = .ok (.getfield 15, 3) := by decide +kernel
theorem dX2_wrapped_5 : decode cX2_wrapped 5 = .ok (.arraylength, 1) := by decide +kernel
theorem dX2_wrapped_6 : decode cX2_wrapped 6 = .ok (.if_icmp .ge 7, 3) := by decide +kernel
theorem dX2_wrapped_9 : decode cX2_wrapped 9 = .ok (.iload_n 1, 1) := by decide +kernel
theorem dX2_wrapped_10 : decode cX2_wrapped 10 = .ok (.goto 10, 3) := by decide +kernel
theorem dX2_wrapped_13 : decode cX2_wrapped 13 = .ok (.iload_n 1, 1) := by decide +kernel
theorem dX2_wrapped_14 : decode cX2_wrapped 14 = .ok (.aload_n 0, 1) := by decide +kernel
theorem dX2_wrapped_15 : decode cX2_wrapped 15 = .ok (.getfield 15, 3) := by decide +kernel
theorem dX2_wrapped_18 : decode cX2_wrapped 18 = .ok (.arraylength, 1) := by decide +kernel
theorem dX2_wrapped_19 : decode cX2_wrapped 19 = .ok (.isub, 1) := by decide +kernel
theorem dX2_wrapped_20 : decode cX2_wrapped 20 = .ok (.ireturn, 1) := by decide +kernel
theorem dX3_init_0 : decode cX3_init 0 = .ok (.aload_n 0, 1) := by decide +kernel
theorem dX3_init_1 : decode cX3_init 1 = .ok (.invokespecial 3, 3) := by decide +kernel
theorem dX3_init_4 : decode cX3_init 4 = .ok (.aload_n 0, 1) := by decide +kernel
theorem dX3_init_5 : decode cX3_init 5 = .ok (.bipush 6, 2) := by decide +kernel
theorem dX3_init_7 : decode cX3_init 7 = .ok (.newarray .boolean, 2) := by decide +kernel
theorem dX3_init_9 : decode cX3_init 9 = .ok (.putfield 9, 3) := by decide +kernel
theorem dX3_init_12 : decode cX3_init 12 = .ok (.aload_n 0, 1) := by decide +kernel
theorem dX3_init_13 : decode cX3_init 13 = .ok (.bipush 6, 2) := by decide +kernel
theorem dX3_init_15 : decode cX3_init 15 = .ok (.newarray .int, 2) := by decide +kernel
theorem dX3_init_17 : decode cX3_init 17 = .ok (.putfield 15, 3) := by decide +kernel
theorem dX3_init_20 : decode cX3_init 20 = .ok (.aload_n 0, 1) := by decide +kernel
theorem dX3_init_21 : decode cX3_init 21 = .ok (.bipush 6, 2) := by decide +kernel
theorem dX3_init_23 : decode cX3_init 23 = .ok (.newarray .int, 2) := by decide +kernel
theorem dX3_init_25 : decode cX3_init 25 = .ok (.putfield 19, 3) := by decide +kernel
theorem dX3_init_28 : decode cX3_init 28 = .ok (.aload_n 0, 1) := by decide +kernel
theorem dX3_init_29 : decode cX3_init 29 = .ok (.bipush 6, 2) := by decide +kernel
theorem dX3_init_31 : decode cX3_init 31 = .ok (.newarray .int, 2) := by decide +kernel
theorem dX3_init_33 : decode cX3_init 33 = .ok (.putfield 22, 3) := by decide +kernel
theorem dX3_init_36 : decode cX3_init 36 = .ok (.return_, 1) := by decide +kernel
theorem dX3_putRule_0 : decode cX3_putRule 0 = .ok (.aload_n 0, 1) := by decide +kernel
theorem dX3_putRule_1 : decode cX3_putRule 1 = .ok (.getfield 9, 3) := by decide +kernel
theorem dX3_putRule_4 : decode cX3_putRule 4 = .ok (.iload_n 1, 1) := by decide +kernel
theorem dX3_putRule_5 : decode cX3_putRule 5 = .ok (.baload, 1) := by decide +kernel
theorem dX3_putRule_6 : decode cX3_putRule 6 = .ok (.ifCond .ne 20, 3) := by decide +kernel
theorem dX3_putRule_9 : decode cX3_putRule 9 = .ok (.aload_n 0, 1) := by decide +kernel
theorem dX3_putRule_10 : decode cX3_putRule 10 = .ok (.getfield 9, 3) := by decide +kernel
theorem dX3_putRule_13 : decode cX3_putRule 13 = .ok (.iload_n 1, 1) := by decide +kernel
theorem dX3_putRule_14 : decode cX3_putRule 14 = .ok (.iconst 1, 1) := by decide +kernel
theorem dX3_putRule_15 : decode cX3_putRule 15 = .ok (.bastore, 1) := by decide +kernel
theorem dX3_putRule_16 : decode cX3_putRule 16 = .ok (.aload_n 0, 1) := by decide +kernel
theorem dX3_putRule_17 : decode cX3_putRule 17 = .ok (.dup, 1) := by decide +kernel
theorem dX3_putRule_18 : decode cX3_putRule 18 = .ok (.getfield 25, 3) := by decide +kernel
theorem dX3_putRule_21 : decode cX3_putRule 21 = .ok (.iconst 1, 1) := by decide +kernel
theorem dX3_putRule_22 : decode cX3_putRule 22 = .ok (.iadd, 1) := by decide +kernel
theorem dX3_putRule_23 : decode cX3_putRule 23 = .ok (.putfield 25, 3) := by decide +kernel
theorem dX3_putRule_26 : decode cX3_putRule 26 = .ok (.aload_n 0, 1) := by decide +kernel
theorem dX3_putRule_27 : decode cX3_putRule 27 = .ok (.getfield 15, 3) := by decide +kernel
theorem dX3_putRule_30 : decode cX3_putRule 30 = .ok (.iload_n 1, 1) := by decide +kernel
theorem dX3_putRule_31 : decode cX3_putRule 31 = .ok (.iload_n 2, 1) := by decide +kernel
theorem dX3_putRule_32 : decode cX3_putRule 32 = .ok (.iastore, 1) := by decide +kernel
theorem dX3_putRule_33 : decode cX3_putRule 33 = .ok (.aload_n 0, 1) := by decide +kernel
theorem dX3_putRule_34 : decode cX3_putRule 34 = .ok (.getfield 19, 3) := by decide +kernel
theorem dX3_putRule_37 : decode cX3_putRule 37 = .ok (.iload_n 1, 1) := by decide +kernel
theorem dX3_putRule_38 : decode cX3_putRule 38 = .ok (.iload_n 3, 1) := by decide +kernel
theorem dX3_putRule_39 : decode cX3_putRule 39 = .ok (.iastore, 1) := by decide +kernel
theorem dX3_putRule_40 : decode cX3_putRule 40 = .ok (.aload_n 0, 1) := by decide +kernel
theorem dX3_putRule_41 : decode cX3_putRule 41 = .ok (.getfield 22, 3) := by decide +kernel
theorem dX3_putRule_44 : decode cX3_putRule 44 = .ok (.iload_n 1, 1) := by decide +kernel
theorem dX3_putRule_45 : decode cX3_putRule 45 = .ok (.iload 4, 2) := by decide +kernel
theorem dX3_putRule_47 : decode cX3_putRule 47 = .ok (.iastore, 1) := by decide +kernel
theorem dX3_putRule_48 : decode cX3_putRule 48 = .ok (.aload_n 0, 1) := by decide +kernel
theorem dX3_putRule_49 : decode cX3_putRule 49 = .ok (.getfield 25, 3) := by decide +kernel
theorem dX3_putRule_52 : decode cX3_putRule 52 = .ok (.ireturn, 1) := by decide +kernel
theorem dX3_dropRule_0 : decode cX3_dropRule 0 = .ok (.aload_n 0, 1) := by decide +kernel
theorem dX3_dropRule_1 : decode cX3_dropRule 1 = .ok (.getfield 9, 3) := by decide +kernel
theorem dX3_dropRule_4 : decode cX3_dropRule 4 = .ok (.iload_n 1, 1) := by decide +kernel
theorem dX3_dropRule_5 : decode cX3_dropRule 5 = .ok (.baload, 1) := by decide +kernel
theorem dX3_dropRule_6 : decode cX3_dropRule 6 = .ok (.ifCond .ne 5, 3) := by decide +kernel
theorem dX3_dropRule_9 : decode cX3_dropRule 9 = .ok (.iconst 0, 1) := by decide +kernel
theorem dX3_dropRule_10 : decode cX3_dropRule 10 = .ok (.ireturn, 1) := by decide +kernel
theorem dX3_dropRule_11 : decode cX3_dropRule 11 = .ok (.aload_n 0, 1) := by decide +kernel
theorem dX3_dropRule_12 : decode cX3_dropRule 12 = .ok (.getfield 9, 3) := by decide +kernel
theorem dX3_dropRule_15 : decode cX3_dropRule 15 = .ok (.iload_n 1, 1) := by decide +kernel
theorem dX3_dropRule_16 : decode cX3_dropRule 16 = .ok (.iconst 0, 1) := by decide +kernel
theorem dX3_dropRule_17 : decode cX3_dropRule 17 = .ok (.bastore, 1) := by decide +kernel
theorem dX3_dropRule_18 : decode cX3_dropRule 18 = .ok (.aload_n 0, 1) := by decide +kernel
theorem dX3_dropRule_19 : decode cX3_dropRule 19 = .ok (.dup, 1) := by decide +kernel
theorem dX3_dropRule_20 : decode cX3_dropRule 20 = .ok (.getfield 25, 3) := by decide +kernel
theorem dX3_dropRule_23 : decode cX3_dropRule 23 = .ok (.iconst 1, 1) := by decide +kernel
theorem dX3_dropRule_24 : decode cX3_dropRule 24 = .ok (.isub, 1) := by decide +kernel
theorem dX3_dropRule_25 : decode cX3_dropRule 25 = .ok (.putfield 25, 3) := by decide +kernel
theorem dX3_dropRule_28 : decode cX3_dropRule 28 = .ok (.iconst 1, 1) := by decide +kernel
theorem dX3_dropRule_29 : decode cX3_dropRule 29 = .ok (.ireturn, 1) := by decide +kernel
theorem dX3_putPlace_0 : decode cX3_putPlace 0 = .ok (.aload_n 0, 1) := by decide +kernel
theorem dX3_putPlace_1 : decode cX3_putPlace 1 = .ok (.iload_n 1, 1) := by decide +kernel
theorem dX3_putPlace_2 : decode cX3_putPlace 2 = .ok (.putfield 29, 3) := by decide +kernel
theorem dX3_putPlace_5 : decode cX3_putPlace 5 = .ok (.aload_n 0, 1) := by decide +kernel
theorem dX3_putPlace_6 : decode cX3_putPlace 6 = .ok (.iload_n 2, 1) := by decide +kernel
theorem dX3_putPlace_7 : decode cX3_putPlace 7 = .ok (.putfield 32, 3) := by decide +kernel
theorem dX3_putPlace_10 : decode cX3_putPlace 10 = .ok (.aload_n 0, 1) := by decide +kernel
theorem dX3_putPlace_11 : decode cX3_putPlace 11 = .ok (.iload_n 3, 1) := by decide +kernel
theorem dX3_putPlace_12 : decode cX3_putPlace 12 = .ok (.putfield 35, 3) := by decide +kernel
theorem dX3_putPlace_15 : decode cX3_putPlace 15 = .ok (.aload_n 0, 1) := by decide +kernel
theorem dX3_putPlace_16 : decode cX3_putPlace 16 = .ok (.iload 4, 2) := by decide +kernel
theorem dX3_putPlace_18 : decode cX3_putPlace 18 = .ok (.putfield 38, 3) := by decide +kernel
theorem dX3_putPlace_21 : decode cX3_putPlace 21 = .ok (.return_, 1) := by decide +kernel
theorem dX3_isStill_0 : decode cX3_isStill 0 = .ok (.aload_n 0, 1) := by decide +kernel
theorem dX3_isStill_1 : decode cX3_isStill 1 = .ok (.getfield 9, 3) := by decide +kernel
theorem dX3_isStill_4 : decode cX3_isStill 4 = .ok (.aload_n 0, 1) := by decide +kernel
theorem dX3_isStill_5 : decode cX3_isStill 5 = .ok (.getfield 29, 3) := by decide +kernel
theorem dX3_isStill_8 : decode cX3_isStill 8 = .ok (.aload_n 0, 1) := by decide +kernel
theorem dX3_isStill_9 : decode cX3_isStill 9 = .ok (.getfield 32, 3) := by decide +kernel
theorem dX3_isStill_12 : decode cX3_isStill 12 = .ok (.invokestatic 41, 3) := by decide +kernel
theorem dX3_isStill_15 : decode cX3_isStill 15 = .ok (.baload, 1) := by decide +kernel
theorem dX3_isStill_16 : decode cX3_isStill 16 = .ok (.ifCond .ne 7, 3) := by decide +kernel
theorem dX3_isStill_19 : decode cX3_isStill 19 = .ok (.iconst 1, 1) := by decide +kernel
theorem dX3_isStill_20 : decode cX3_isStill 20 = .ok (.goto 4, 3) := by decide +kernel
theorem dX3_isStill_23 : decode cX3_isStill 23 = .ok (.iconst 0, 1) := by decide +kernel
theorem dX3_isStill_24 : decode cX3_isStill 24 = .ok (.ireturn, 1) := by decide +kernel
theorem dX3_doSteps_0 : decode cX3_doSteps 0 = .ok (.iconst 0, 1) := by decide +kernel
theorem dX3_doSteps_1 : decode cX3_doSteps 1 = .ok (.istore_n 2, 1) := by decide +kernel
theorem dX3_doSteps_2 : decode cX3_doSteps 2 = .ok (.iload_n 2, 1) := by decide +kernel
theorem dX3_doSteps_3 : decode cX3_doSteps 3 = .ok (.iload_n 1, 1) := by decide +kernel
theorem dX3_doSteps_4 : decode cX3_doSteps 4 = .ok (.if_icmp .ge 16, 3) := by decide +kernel
theorem dX3_doSteps_7 : decode cX3_doSteps 7 = .ok (.aload_n 0, 1) := by decide +kernel
theorem dX3_doSteps_8 : decode cX3_doSteps 8 = .ok (.invokevirtual 45, 3) := by decide +kernel
theorem dX3_doSteps_11 : decode cX3_doSteps 11 = .ok (.ifCond .eq 9, 3) := by decide +kernel
theorem dX3_doSteps_14 : decode cX3_doSteps 14 = .ok (.iinc 2 1, 3) := by decide +kernel
theorem dX3_doSteps_17 : decode cX3_doSteps 17 = .ok (.goto (-15), 3) := by decide +kernel
theorem dX3_doSteps_20 : decode cX3_doSteps 20 = .ok (.iload_n 2, 1) := by decide +kernel
theorem dX3_doSteps_21 : decode cX3_doSteps 21 = .ok (.ireturn, 1) := by decide +kernel
theorem dX3_doStep_0 : decode cX3_doStep 0 = .ok (.aload_n 0, 1) := by decide +kernel
theorem dX3_doStep_1 : decode cX3_doStep 1 = .ok (.invokevirtual 49, 3) := by decide +kernel
theorem dX3_doStep_4 : decode cX3_doStep 4 = .ok (.ifCond .eq 5, 3) := by decide +kernel
theorem dX3_doStep_7 : decode cX3_doStep 7 = .ok (.iconst 0, 1) := by decide +kernel
theorem dX3_doStep_8 : decode cX3_doStep 8 = .ok (.ireturn, 1) := by decide +kernel
theorem dX3_doStep_9 : decode cX3_doStep 9 = .ok (.aload_n 0, 1) := by decide +kernel
theorem dX3_doStep_10 : decode cX3_doStep 10 = .ok (.getfield 29, 3) := by decide +kernel
theorem dX3_doStep_13 : decode cX3_doStep 13 = .ok (.aload_n 0, 1) := by decide +kernel
theorem dX3_doStep_14 : decode cX3_doStep 14 = .ok (.getfield 32, 3) := by decide +kernel
theorem dX3_doStep_17 : decode cX3_doStep 17 = .ok (.invokestatic 41, 3) := by decide +kernel
theorem dX3_doStep_20 : decode cX3_doStep 20 = .ok (.istore_n 1, 1) := by decide +kernel
theorem dX3_doStep_21 : decode cX3_doStep 21 = .ok (.aload_n 0, 1) := by decide +kernel
theorem dX3_doStep_22 : decode cX3_doStep 22 = .ok (.getfield 19, 3) := by decide +kernel
theorem dX3_doStep_25 : decode cX3_doStep 25 = .ok (.iload_n 1, 1) := by decide +kernel
theorem dX3_doStep_26 : decode cX3_doStep 26 = .ok (.iaload, 1) := by decide +kernel
theorem dX3_doStep_27 : decode cX3_doStep 27 = .ok (.iconst 1, 1) := by decide +kernel
theorem dX3_doStep_28 : decode cX3_doStep 28 = .ok (.if_icmp .ne 7, 3) := by decide +kernel
theorem dX3_doStep_31 : decode cX3_doStep 31 = .ok (.iconst 1, 1) := by decide +kernel
theorem dX3_doStep_32 : decode cX3_doStep 32 = .ok (.goto 4, 3) := by decide +kernel
theorem dX3_doStep_35 : decode cX3_doStep 35 = .ok (.iconst 0, 1) := by decide +kernel
theorem dX3_doStep_36 : decode cX3_doStep 36 = .ok (.istore_n 2, 1) := by decide +kernel
theorem dX3_doStep_37 : decode cX3_doStep 37 = .ok (.iconst 2, 1) := by decide +kernel
theorem dX3_doStep_38 : decode cX3_doStep 38 = .ok (.iload_n 2, 1) := by decide +kernel
theorem dX3_doStep_39 : decode cX3_doStep 39 = .ok (.ifCond .eq 10, 3) := by decide +kernel
theorem dX3_doStep_42 : decode cX3_doStep 42 = .ok (.aload_n 0, 1) := by decide +kernel
theorem dX3_doStep_43 : decode cX3_doStep 43 = .ok (.getfield 35, 3) := by decide +kernel
theorem dX3_doStep_46 : decode cX3_doStep 46 = .ok (.goto 7, 3) := by decide +kernel
theorem dX3_doStep_49 : decode cX3_doStep 49 = .ok (.aload_n 0, 1) := by decide +kernel
theorem dX3_doStep_50 : decode cX3_doStep 50 = .ok (.getfield 38, 3) := by decide +kernel
theorem dX3_doStep_53 : decode cX3_doStep 53 = .ok (.imul, 1) := by decide +kernel
theorem dX3_doStep_54 : decode cX3_doStep 54 = .ok (.aload_n 0, 1) := by decide +kernel
theorem dX3_doStep_55 : decode cX3_doStep 55 = .ok (.getfield 15, 3) := by decide +kernel
theorem dX3_doStep_58 : decode cX3_doStep 58 = .ok (.iload_n 1, 1) := by decide +kernel
theorem dX3_doStep_59 : decode cX3_doStep 59 = .ok (.iaload, 1) := by decide +kernel
theorem dX3_doStep_60 : decode cX3_doStep 60 = .ok (.iadd, 1) := by decide +kernel
theorem dX3_doStep_61 : decode cX3_doStep 61 = .ok (.istore_n 3, 1) := by decide +kernel
theorem dX3_doStep_62 : decode cX3_doStep 62 = .ok (.iload_n 2, 1) := by decide +kernel
theorem dX3_doStep_63 : decode cX3_doStep 63 = .ok (.ifCond .eq 10, 3) := by decide +kernel
theorem dX3_doStep_66 : decode cX3_doStep 66 = .ok (.aload_n 0, 1) := by decide +kernel
theorem dX3_doStep_67 : decode cX3_doStep 67 = .ok (.getfield 38, 3) := by decide +kernel
theorem dX3_doStep_70 : decode cX3_doStep 70 = .ok (.goto 7, 3) := by decide +kernel
theorem dX3_doStep_73 : decode cX3_doStep 73 = .ok (.aload_n 0, 1) := by decide +kernel
theorem dX3_doStep_74 : decode cX3_doStep 74 = .ok (.getfield 35, 3) := by decide +kernel
theorem dX3_doStep_77 : decode cX3_doStep 77 = .ok (.istore 4, 2) := by decide +kernel
theorem dX3_doStep_79 : decode cX3_doStep 79 = .ok (.iload_n 3, 1) := by decide +kernel
theorem dX3_doStep_80 : decode cX3_doStep 80 = .ok (.ldc 52, 2) := by decide +kernel
theorem dX3_doStep_82 : decode cX3_doStep 82 = .ok (.if_icmp .le 5, 3) := by decide +kernel
theorem dX3_doStep_85 : decode cX3_doStep 85 = .ok (.iconst 0, 1) := by decide +kernel
theorem dX3_doStep_86 : decode cX3_doStep 86 = .ok (.ireturn, 1) := by decide +kernel
theorem dX3_doStep_87 : decode cX3_doStep 87 = .ok (.aload_n 0, 1) := by decide +kernel
theorem dX3_doStep_88 : decode cX3_doStep 88 = .ok (.iload_n 2, 1) := by decide +kernel
theorem dX3_doStep_89 : decode cX3_doStep 89 = .ok (.ifCond .eq 7, 3) := by decide +kernel
theorem dX3_doStep_92 : decode cX3_doStep 92 = .ok (.iload_n 3, 1) := by decide +kernel
theorem dX3_doStep_93 : decode cX3_doStep 93 = .ok (.goto 7, 3) := by decide +kernel
theorem dX3_doStep_96 : decode cX3_doStep 96 = .ok (.iload 4, 2) := by decide +kernel
theorem dX3_doStep_98 : decode cX3_doStep 98 = .ok (.iconst 2, 1) := by decide +kernel
theorem dX3_doStep_99 : decode cX3_doStep 99 = .ok (.idiv, 1) := by decide +kernel
theorem dX3_doStep_100 : decode cX3_doStep 100 = .ok (.putfield 35, 3) := by decide +kernel
theorem dX3_doStep_103 : decode cX3_doStep 103 = .ok (.aload_n 0, 1) := by decide +kernel
theorem dX3_doStep_104 : decode cX3_doStep 104 = .ok (.iload_n 2, 1) := by decide +kernel
theorem dX3_doStep_105 : decode cX3_doStep 105 = .ok (.ifCond .eq 10, 3) := by decide +kernel
theorem dX3_doStep_108 : decode cX3_doStep 108 = .ok (.iload 4, 2) := by decide +kernel
theorem dX3_doStep_110 : decode cX3_doStep 110 = .ok (.iconst 2, 1) := by decide +kernel
theorem dX3_doStep_111 : decode cX3_doStep 111 = .ok (.idiv, 1) := by decide +kernel
theorem dX3_doStep_112 : decode cX3_doStep 112 = .ok (.goto 4, 3) := by decide +kernel
theorem dX3_doStep_115 : decode cX3_doStep 115 = .ok (.iload_n 3, 1) := by decide +kernel
theorem dX3_doStep_116 : decode cX3_doStep 116 = .ok (.putfield 38, 3) := by decide +kernel
theorem dX3_doStep_119 : decode cX3_doStep 119 = .ok (.aload_n 0, 1) := by decide +kernel
theorem dX3_doStep_120 : decode cX3_doStep 120 = .ok (.iload 4, 2) := by decide +kernel
theorem dX3_doStep_122 : decode cX3_doStep 122 = .ok (.iconst 2, 1) := by decide +kernel
theorem dX3_doStep_123 : decode cX3_doStep 123 = .ok (.irem, 1) := by decide +kernel
theorem dX3_doStep_124 : decode cX3_doStep 124 = .ok (.putfield 32, 3) := by decide +kernel
theorem dX3_doStep_127 : decode cX3_doStep 127 = .ok (.aload_n 0, 1) := by decide +kernel
theorem dX3_doStep_128 : decode cX3_doStep 128 = .ok (.aload_n 0, 1) := by decide +kernel
theorem dX3_doStep_129 : decode cX3_doStep 129 = .ok (.getfield 22, 3) := by decide +kernel
theorem dX3_doStep_132 : decode cX3_doStep 132 = .ok (.iload_n 1, 1) := by decide +kernel
theorem dX3_doStep_133 : decode cX3_doStep 133 = .ok (.iaload, 1) := by decide +kernel
theorem dX3_doStep_134 : decode cX3_doStep 134 = .ok (.putfield 29, 3) := by decide +kernel
theorem dX3_doStep_137 : decode cX3_doStep 137 = .ok (.iconst 1, 1) := by decide +kernel
theorem dX3_doStep_138 : decode cX3_doStep 138 = .ok (.ireturn, 1) := by decide +kernel
theorem dX4_init_0 : decode cX4_init 0 = .ok (.aload_n 0, 1) := by decide +kernel
theorem dX4_init_1 : decode cX4_init 1 = .ok (.invokespecial 3, 3) := by decide +kernel
theorem dX4_init_4 : decode cX4_init 4 = .ok (.aload_n 0, 1) := by decide +kernel
theorem dX4_init_5 : decode cX4_init 5 = .ok (.bipush 121, 2) := by decide +kernel
theorem dX4_init_7 : decode cX4_init 7 = .ok (.newarray .int, 2) := by decide +kernel
theorem dX4_init_9 : decode cX4_init 9 = .ok (.putfield 9, 3) := by decide +kernel
theorem dX4_init_12 : decode cX4_init 12 = .ok (.aload_n 0, 1) := by decide +kernel
theorem dX4_init_13 : decode cX4_init 13 = .ok (.sipush 484, 3) := by decide +kernel
theorem dX4_init_16 : decode cX4_init 16 = .ok (.newarray .int, 2) := by decide +kernel
theorem dX4_init_18 : decode cX4_init 18 = .ok (.putfield 15, 3) := by decide +kernel
theorem dX4_init_21 : decode cX4_init 21 = .ok (.iconst 0, 1) := by decide +kernel
theorem dX4_init_22 : decode cX4_init 22 = .ok (.istore_n 1, 1) := by decide +kernel
theorem dX4_init_23 : decode cX4_init 23 = .ok (.iload_n 1, 1) := by decide +kernel
theorem dX4_init_24 : decode cX4_init 24 = .ok (.bipush 6, 2) := by decide +kernel
theorem dX4_init_26 : decode cX4_init 26 = .ok (.if_icmp .ge 14, 3) := by decide +kernel
theorem dX4_init_29 : decode cX4_init 29 = .ok (.aload_n 0, 1) := by decide +kernel
theorem dX4_init_30 : decode cX4_init 30 = .ok (.iload_n 1, 1) := by decide +kernel
theorem dX4_init_31 : decode cX4_init 31 = .ok (.invokevirtual 18, 3) := by decide +kernel
theorem dX4_init_34 : decode cX4_init 34 = .ok (.iinc 1 1, 3) := by decide +kernel
theorem dX4_init_37 : decode cX4_init 37 = .ok (.goto (-14), 3) := by decide +kernel
theorem dX4_init_40 : decode cX4_init 40 = .ok (.return_, 1) := by decide +kernel
theorem dX4_followNone_0 : decode cX4_followNone 0 = .ok (.iconst 1, 1) := by decide +kernel
theorem dX4_followNone_1 : decode cX4_followNone 1 = .ok (.istore_n 2, 1) := by decide +kernel
theorem dX4_followNone_2 : decode cX4_followNone 2 = .ok (.iload_n 2, 1) := by decide +kernel
theorem dX4_followNone_3 : decode cX4_followNone 3 = .ok (.bipush 20, 2) := by decide +kernel
theorem dX4_followNone_5 : decode cX4_followNone 5 = .ok (.if_icmp .gt 21, 3) := by decide +kernel
theorem dX4_followNone_8 : decode cX4_followNone 8 = .ok (.aload_n 0, 1) := by decide +kernel
theorem dX4_followNone_9 : decode cX4_followNone 9 = .ok (.getfield 9, 3) := by decide +kernel
theorem dX4_followNone_12 : decode cX4_followNone 12 = .ok (.iload_n 1, 1) := by decide +kernel
theorem dX4_followNone_13 : decode cX4_followNone 13 = .ok (.bipush 20, 2) := by decide +kernel
theorem dX4_followNone_15 : decode cX4_followNone 15 = .ok (.imul, 1) := by decide +kernel
theorem dX4_followNone_16 : decode cX4_followNone 16 = .ok (.iload_n 2, 1) := by decide +kernel
theorem dX4_followNone_17 : decode cX4_followNone 17 = .ok (.iadd, 1) := by decide +kernel
theorem dX4_followNone_18 : decode cX4_followNone 18 = .ok (.iconst 0, 1) := by decide +kernel
theorem dX4_followNone_19 : decode cX4_followNone 19 = .ok (.iastore, 1) := by decide +kernel
theorem dX4_followNone_20 : decode cX4_followNone 20 = .ok (.iinc 2 1, 3) := by decide +kernel
theorem dX4_followNone_23 : decode cX4_followNone 23 = .ok (.goto (-21), 3) := by decide +kernel
theorem dX4_followNone_26 : decode cX4_followNone 26 = .ok (.aload_n 0, 1) := by decide +kernel
theorem dX4_followNone_27 : decode cX4_followNone 27 = .ok (.ldc 22, 2) := by decide +kernel
theorem dX4_followNone_29 : decode cX4_followNone 29 = .ok (.iload_n 1, 1) := by decide +kernel
theorem dX4_followNone_30 : decode cX4_followNone 30 = .ok (.iconst 0, 1) := by decide +kernel
theorem dX4_followNone_31 : decode cX4_followNone 31 = .ok (.invokevirtual 24, 3) := by decide +kernel
theorem dX4_followNone_34 : decode cX4_followNone 34 = .ok (.return_, 1) := by decide +kernel
theorem dX4_follow_0 : decode cX4_follow 0 = .ok (.iload_n 3, 1) := by decide +kernel
theorem dX4_follow_1 : decode cX4_follow 1 = .ok (.iconst 1, 1) := by decide +kernel
theorem dX4_follow_2 : decode cX4_follow 2 = .ok (.if_icmp .ne 7, 3) := by decide +kernel
theorem dX4_follow_5 : decode cX4_follow 5 = .ok (.iconst 1, 1) := by decide +kernel
theorem dX4_follow_6 : decode cX4_follow 6 = .ok (.goto 4, 3) := by decide +kernel
theorem dX4_follow_9 : decode cX4_follow 9 = .ok (.iconst 0, 1) := by decide +kernel
theorem dX4_follow_10 : decode cX4_follow 10 = .ok (.istore 5, 2) := by decide +kernel
theorem dX4_follow_12 : decode cX4_follow 12 = .ok (.aload_n 0, 1) := by decide +kernel
theorem dX4_follow_13 : decode cX4_follow 13 = .ok (.iload_n 1, 1) := by decide +kernel
theorem dX4_follow_14 : decode cX4_follow 14 = .ok (.invokevirtual 18, 3) := by decide +kernel
theorem dX4_follow_17 : decode cX4_follow 17 = .ok (.aload_n 0, 1) := by decide +kernel
theorem dX4_follow_18 : decode cX4_follow 18 = .ok (.ldc 30, 2) := by decide +kernel
theorem dX4_follow_20 : decode cX4_follow 20 = .ok (.iload_n 1, 1) := by decide +kernel
theorem dX4_follow_21 : decode cX4_follow 21 = .ok (.iload 4, 2) := by decide +kernel
theorem dX4_follow_23 : decode cX4_follow 23 = .ok (.invokevirtual 24, 3) := by decide +kernel
theorem dX4_follow_26 : decode cX4_follow 26 = .ok (.aload_n 0, 1) := by decide +kernel
theorem dX4_follow_27 : decode cX4_follow 27 = .ok (.iload 5, 2) := by decide +kernel
theorem dX4_follow_29 : decode cX4_follow 29 = .ok (.ifCond .eq 8, 3) := by decide +kernel
theorem dX4_follow_32 : decode cX4_follow 32 = .ok (.ldc 32, 2) := by decide +kernel
theorem dX4_follow_34 : decode cX4_follow 34 = .ok (.goto 5, 3) := by decide +kernel
theorem dX4_follow_37 : decode cX4_follow 37 = .ok (.ldc 34, 2) := by decide +kernel
theorem dX4_follow_39 : decode cX4_follow 39 = .ok (.iload_n 1, 1) := by decide +kernel
theorem dX4_follow_40 : decode cX4_follow 40 = .ok (.iload 4, 2) := by decide +kernel
theorem dX4_follow_42 : decode cX4_follow 42 = .ok (.invokevirtual 24, 3) := by decide +kernel
theorem dX4_follow_45 : decode cX4_follow 45 = .ok (.iload_n 2, 1) := by decide +kernel
theorem dX4_follow_46 : decode cX4_follow 46 = .ok (.iconst 1, 1) := by decide +kernel
theorem dX4_follow_47 : decode cX4_follow 47 = .ok (.if_icmp .ne 22, 3) := by decide +kernel
theorem dX4_follow_50 : decode cX4_follow 50 = .ok (.aload_n 0, 1) := by decide +kernel
theorem dX4_follow_51 : decode cX4_follow 51 = .ok (.iload 5, 2) := by decide +kernel
theorem dX4_follow_53 : decode cX4_follow 53 = .ok (.ifCond .eq 8, 3) := by decide +kernel
theorem dX4_follow_56 : decode cX4_follow 56 = .ok (.ldc 36, 2) := by decide +kernel
theorem dX4_follow_58 : decode cX4_follow 58 = .ok (.goto 5, 3) := by decide +kernel
theorem dX4_follow_61 : decode cX4_follow 61 = .ok (.ldc 38, 2) := by decide +kernel
theorem dX4_follow_63 : decode cX4_follow 63 = .ok (.iload_n 1, 1) := by decide +kernel
theorem dX4_follow_64 : decode cX4_follow 64 = .ok (.iload 4, 2) := by decide +kernel
theorem dX4_follow_66 : decode cX4_follow 66 = .ok (.invokevirtual 24, 3) := by decide +kernel
theorem dX4_follow_69 : decode cX4_follow 69 = .ok (.return_, 1) := by decide +kernel
theorem dX4_write_0 : decode cX4_write 0 = .ok (.iconst 0, 1) := by decide +kernel
theorem dX4_write_1 : decode cX4_write 1 = .ok (.istore 4, 2) := by decide +kernel
theorem dX4_write_3 : decode cX4_write 3 = .ok (.iconst 0, 1) := by decide +kernel
theorem dX4_write_4 : decode cX4_write 4 = .ok (.istore 5, 2) := by decide +kernel
theorem dX4_write_6 : decode cX4_write 6 = .ok (.iload 5, 2) := by decide +kernel
theorem dX4_write_8 : decode cX4_write 8 = .ok (.aload_n 1, 1) := by decide +kernel
theorem dX4_write_9 : decode cX4_write 9 = .ok (.invokevirtual 40, 3) := by decide +kernel
theorem dX4_write_12 : decode cX4_write 12 = .ok (.if_icmp .ge 89, 3) := by decide +kernel
theorem dX4_write_15 : decode cX4_write 15 = .ok (.iload 5, 2) := by decide +kernel
theorem dX4_write_17 : decode cX4_write 17 = .ok (.iconst 1, 1) := by decide +kernel
theorem dX4_write_18 : decode cX4_write 18 = .ok (.iadd, 1) := by decide +kernel
theorem dX4_write_19 : decode cX4_write 19 = .ok (.aload_n 1, 1) := by decide +kernel
theorem dX4_write_20 : decode cX4_write 20 = .ok (.invokevirtual 40, 3) := by decide +kernel
theorem dX4_write_23 : decode cX4_write 23 = .ok (.if_icmp .ge 14, 3) := by decide +kernel
theorem dX4_write_26 : decode cX4_write 26 = .ok (.aload_n 1, 1) := by decide +kernel
theorem dX4_write_27 : decode cX4_write 27 = .ok (.iload 5, 2) := by decide +kernel
theorem dX4_write_29 : decode cX4_write 29 = .ok (.iconst 1, 1) := by decide +kernel
theorem dX4_write_30 : decode cX4_write 30 = .ok (.iadd, 1) := by decide +kernel
theorem dX4_write_31 : decode cX4_write 31 = .ok (.invokevirtual 46, 3) := by decide +kernel
theorem dX4_write_34 : decode cX4_write 34 = .ok (.goto 5, 3) := by decide +kernel
theorem dX4_write_37 : decode cX4_write 37 = .ok (.bipush 32, 2) := by decide +kernel
theorem dX4_write_39 : decode cX4_write 39 = .ok (.istore 6, 2) := by decide +kernel
theorem dX4_write_41 : decode cX4_write 41 = .ok (.ldc 50, 2) := by decide +kernel
theorem dX4_write_43 : decode cX4_write 43 = .ok (.aload_n 1, 1) := by decide +kernel
theorem dX4_write_44 : decode cX4_write 44 = .ok (.iload 5, 2) := by decide +kernel
theorem dX4_write_46 : decode cX4_write 46 = .ok (.invokevirtual 46, 3) := by decide +kernel
theorem dX4_write_49 : decode cX4_write 49 = .ok (.invokevirtual 52, 3) := by decide +kernel
theorem dX4_write_52 : decode cX4_write 52 = .ok (.istore 7, 2) := by decide +kernel
theorem dX4_write_54 : decode cX4_write 54 = .ok (.iload 6, 2) := by decide +kernel
theorem dX4_write_56 : decode cX4_write 56 = .ok (.bipush 58, 2) := by decide +kernel
theorem dX4_write_58 : decode cX4_write 58 = .ok (.if_icmp .ne 14, 3) := by decide +kernel
theorem dX4_write_61 : decode cX4_write 61 = .ok (.iload 7, 2) := by decide +kernel
theorem dX4_write_63 : decode cX4_write 63 = .ok (.iload_n 2, 1) := by decide +kernel
theorem dX4_write_64 : decode cX4_write 64 = .ok (.invokestatic 56, 3) := by decide +kernel
theorem dX4_write_67 : decode cX4_write 67 = .ok (.istore 4, 2) := by decide +kernel
theorem dX4_write_69 : decode cX4_write 69 = .ok (.goto 26, 3) := by decide +kernel
theorem dX4_write_72 : decode cX4_write 72 = .ok (.iload 7, 2) := by decide +kernel
theorem dX4_write_74 : decode cX4_write 74 = .ok (.ifCond .lt 21, 3) := by decide +kernel
theorem dX4_write_77 : decode cX4_write 77 = .ok (.aload_n 0, 1) := by decide +kernel
theorem dX4_write_78 : decode cX4_write 78 = .ok (.iload 4, 2) := by decide +kernel
theorem dX4_write_80 : decode cX4_write 80 = .ok (.iload 7, 2) := by decide +kernel
theorem dX4_write_82 : decode cX4_write 82 = .ok (.iload 6, 2) := by decide +kernel
theorem dX4_write_84 : decode cX4_write 84 = .ok (.iload_n 2, 1) := by decide +kernel
theorem dX4_write_85 : decode cX4_write 85 = .ok (.iload_n 3, 1) := by decide +kernel
theorem dX4_write_86 : decode cX4_write 86 = .ok (.invokestatic 60, 3) := by decide +kernel
theorem dX4_write_89 : decode cX4_write 89 = .ok (.invokestatic 56, 3) := by decide +kernel
theorem dX4_write_92 : decode cX4_write 92 = .ok (.invokevirtual 64, 3) := by decide +kernel
theorem dX4_write_95 : decode cX4_write 95 = .ok (.iinc 5 1, 3) := by decide +kernel
theorem dX4_write_98 : decode cX4_write 98 = .ok (.goto (-92), 3) := by decide +kernel
theorem dX4_write_101 : decode cX4_write 101 = .ok (.return_, 1) := by decide +kernel
theorem dX4_pairMarked_0 : decode cX4_pairMarked 0 = .ok (.iload_n 0, 1) := by decide +kernel
theorem dX4_pairMarked_1 : decode cX4_pairMarked 1 = .ok (.bipush 48, 2) := by decide +kernel
theorem dX4_pairMarked_3 : decode cX4_pairMarked 3 = .ok (.if_icmp .ne 9, 3) := by decide +kernel
theorem dX4_pairMarked_6 : decode cX4_pairMarked 6 = .ok (.iload_n 2, 1) := by decide +kernel
theorem dX4_pairMarked_7 : decode cX4_pairMarked 7 = .ok (.iconst 0, 1) := by decide +kernel
theorem dX4_pairMarked_8 : decode cX4_pairMarked 8 = .ok (.invokestatic 68, 3) := by decide +kernel
theorem dX4_pairMarked_11 : decode cX4_pairMarked 11 = .ok (.ireturn, 1) := by decide +kernel
theorem dX4_pairMarked_12 : decode cX4_pairMarked 12 = .ok (.iload_n 0, 1) := by decide +kernel
theorem dX4_pairMarked_13 : decode cX4_pairMarked 13 = .ok (.bipush 49, 2) := by decide +kernel
theorem dX4_pairMarked_15 : decode cX4_pairMarked 15 = .ok (.if_icmp .ne 11, 3) := by decide +kernel
theorem dX4_pairMarked_18 : decode cX4_pairMarked 18 = .ok (.iload_n 2, 1) := by decide +kernel
theorem dX4_pairMarked_19 : decode cX4_pairMarked 19 = .ok (.iconst 1, 1) := by decide +kernel
theorem dX4_pairMarked_20 : decode cX4_pairMarked 20 = .ok (.invokestatic 68, 3) := by decide +kernel
theorem dX4_pairMarked_23 : decode cX4_pairMarked 23 = .ok (.goto 4, 3) := by decide +kernel
theorem dX4_pairMarked_26 : decode cX4_pairMarked 26 = .ok (.iload_n 1, 1) := by decide +kernel
theorem dX4_pairMarked_27 : decode cX4_pairMarked 27 = .ok (.ireturn, 1) := by decide +kernel
theorem dX4_number_0 : decode cX4_number 0 = .ok (.iload_n 0, 1) := by decide +kernel
theorem dX4_number_1 : decode cX4_number 1 = .ok (.ifCond .gt 7, 3) := by decide +kernel
theorem dX4_number_4 : decode cX4_number 4 = .ok (.iconst 0, 1) := by decide +kernel
theorem dX4_number_5 : decode cX4_number 5 = .ok (.goto 9, 3) := by decide +kernel
theorem dX4_number_8 : decode cX4_number 8 = .ok (.iload_n 1, 1) := by decide +kernel
theorem dX4_number_9 : decode cX4_number 9 = .ok (.bipush 20, 2) := by decide +kernel
theorem dX4_number_11 : decode cX4_number 11 = .ok (.imul, 1) := by decide +kernel
theorem dX4_number_12 : decode cX4_number 12 = .ok (.iload_n 0, 1) := by decide +kernel
theorem dX4_number_13 : decode cX4_number 13 = .ok (.iadd, 1) := by decide +kernel
theorem dX4_number_14 : decode cX4_number 14 = .ok (.ireturn, 1) := by decide +kernel
theorem dX4_append_0 : decode cX4_append 0 = .ok (.aload_n 0, 1) := by decide +kernel
theorem dX4_append_1 : decode cX4_append 1 = .ok (.getfield 9, 3) := by decide +kernel
theorem dX4_append_4 : decode cX4_append 4 = .ok (.iload_n 1, 1) := by decide +kernel
theorem dX4_append_5 : decode cX4_append 5 = .ok (.iaload, 1) := by decide +kernel
theorem dX4_append_6 : decode cX4_append 6 = .ok (.iconst 4, 1) := by decide +kernel
theorem dX4_append_7 : decode cX4_append 7 = .ok (.if_icmp .ge 29, 3) := by decide +kernel
theorem dX4_append_10 : decode cX4_append 10 = .ok (.aload_n 0, 1) := by decide +kernel
theorem dX4_append_11 : decode cX4_append 11 = .ok (.getfield 15, 3) := by decide +kernel
theorem dX4_append_14 : decode cX4_append 14 = .ok (.iload_n 1, 1) := by decide +kernel
theorem dX4_append_15 : decode cX4_append 15 = .ok (.iconst 4, 1) := by decide +kernel
theorem dX4_append_16 : decode cX4_append 16 = .ok (.imul, 1) := by decide +kernel
theorem dX4_append_17 : decode cX4_append 17 = .ok (.aload_n 0, 1) := by decide +kernel
theorem dX4_append_18 : decode cX4_append 18 = .ok (.getfield 9, 3) := by decide +kernel
theorem dX4_append_21 : decode cX4_append 21 = .ok (.iload_n 1, 1) := by decide +kernel
theorem dX4_append_22 : decode cX4_append 22 = .ok (.iaload, 1) := by decide +kernel
theorem dX4_append_23 : decode cX4_append 23 = .ok (.iadd, 1) := by decide +kernel
theorem dX4_append_24 : decode cX4_append 24 = .ok (.iload_n 2, 1) := by decide +kernel
theorem dX4_append_25 : decode cX4_append 25 = .ok (.iastore, 1) := by decide +kernel
theorem dX4_append_26 : decode cX4_append 26 = .ok (.aload_n 0, 1) := by decide +kernel
theorem dX4_append_27 : decode cX4_append 27 = .ok (.getfield 9, 3) := by decide +kernel
theorem dX4_append_30 : decode cX4_append 30 = .ok (.iload_n 1, 1) := by decide +kernel
theorem dX4_append_31 : decode cX4_append 31 = .ok (.dup2, 1) := by decide +kernel
theorem dX4_append_32 : decode cX4_append 32 = .ok (.iaload, 1) := by decide +kernel
theorem dX4_append_33 : decode cX4_append 33 = .ok (.iconst 1, 1) := by decide +kernel
theorem dX4_append_34 : decode cX4_append 34 = .ok (.iadd, 1) := by decide +kernel
theorem dX4_append_35 : decode cX4_append 35 = .ok (.iastore, 1) := by decide +kernel
theorem dX4_append_36 : decode cX4_append 36 = .ok (.return_, 1) := by decide +kernel
theorem dX4_sizeOf_0 : decode cX4_sizeOf 0 = .ok (.iload_n 1, 1) := by decide +kernel
theorem dX4_sizeOf_1 : decode cX4_sizeOf 1 = .ok (.iconst 0, 1) := by decide +kernel
theorem dX4_sizeOf_2 : decode cX4_sizeOf 2 = .ok (.bipush 120, 2) := by decide +kernel
theorem dX4_sizeOf_4 : decode cX4_sizeOf 4 = .ok (.invokestatic 71, 3) := by decide +kernel
theorem dX4_sizeOf_7 : decode cX4_sizeOf 7 = .ok (.ifCond .eq 7, 3) := by decide +kernel
theorem dX4_sizeOf_10 : decode cX4_sizeOf 10 = .ok (.iconst 0, 1) := by decide +kernel
theorem dX4_sizeOf_11 : decode cX4_sizeOf 11 = .ok (.goto 9, 3) := by decide +kernel
theorem dX4_sizeOf_14 : decode cX4_sizeOf 14 = .ok (.aload_n 0, 1) := by decide +kernel
theorem dX4_sizeOf_15 : decode cX4_sizeOf 15 = .ok (.getfield 9, 3) := by decide +kernel
theorem dX4_sizeOf_18 : decode cX4_sizeOf 18 = .ok (.iload_n 1, 1) := by decide +kernel
theorem dX4_sizeOf_19 : decode cX4_sizeOf 19 = .ok (.iaload, 1) := by decide +kernel
theorem dX4_sizeOf_20 : decode cX4_sizeOf 20 = .ok (.ireturn, 1) := by decide +kernel
theorem dX4_letterAt_0 : decode cX4_letterAt 0 = .ok (.iload_n 2, 1) := by decide +kernel
theorem dX4_letterAt_1 : decode cX4_letterAt 1 = .ok (.iconst 0, 1) := by decide +kernel
theorem dX4_letterAt_2 : decode cX4_letterAt 2 = .ok (.aload_n 0, 1) := by decide +kernel
theorem dX4_letterAt_3 : decode cX4_letterAt 3 = .ok (.iload_n 1, 1) := by decide +kernel
theorem dX4_letterAt_4 : decode cX4_letterAt 4 = .ok (.invokevirtual 75, 3) := by decide +kernel
theorem dX4_letterAt_7 : decode cX4_letterAt 7 = .ok (.iconst 1, 1) := by decide +kernel
theorem dX4_letterAt_8 : decode cX4_letterAt 8 = .ok (.isub, 1) := by decide +kernel
theorem dX4_letterAt_9 : decode cX4_letterAt 9 = .ok (.invokestatic 71, 3) := by decide +kernel
theorem dX4_letterAt_12 : decode cX4_letterAt 12 = .ok (.ifCond .eq 8, 3) := by decide +kernel
theorem dX4_letterAt_15 : decode cX4_letterAt 15 = .ok (.bipush (-9), 2) := by decide +kernel
theorem dX4_letterAt_17 : decode cX4_letterAt 17 = .ok (.goto 13, 3) := by decide +kernel
theorem dX4_letterAt_20 : decode cX4_letterAt 20 = .ok (.aload_n 0, 1) := by decide +kernel
theorem dX4_letterAt_21 : decode cX4_letterAt 21 = .ok (.getfield 15, 3) := by decide +kernel
theorem dX4_letterAt_24 : decode cX4_letterAt 24 = .ok (.iload_n 1, 1) := by decide +kernel
theorem dX4_letterAt_25 : decode cX4_letterAt 25 = .ok (.iconst 4, 1) := by decide +kernel
theorem dX4_letterAt_26 : decode cX4_letterAt 26 = .ok (.imul, 1) := by decide +kernel
theorem dX4_letterAt_27 : decode cX4_letterAt 27 = .ok (.iload_n 2, 1) := by decide +kernel
theorem dX4_letterAt_28 : decode cX4_letterAt 28 = .ok (.iadd, 1) := by decide +kernel
theorem dX4_letterAt_29 : decode cX4_letterAt 29 = .ok (.iaload, 1) := by decide +kernel
theorem dX4_letterAt_30 : decode cX4_letterAt 30 = .ok (.ireturn, 1) := by decide +kernel
theorem dX4_bitAt_0 : decode cX4_bitAt 0 = .ok (.iload_n 2, 1) := by decide +kernel
theorem dX4_bitAt_1 : decode cX4_bitAt 1 = .ok (.iconst 0, 1) := by decide +kernel
theorem dX4_bitAt_2 : decode cX4_bitAt 2 = .ok (.aload_n 0, 1) := by decide +kernel
theorem dX4_bitAt_3 : decode cX4_bitAt 3 = .ok (.iload_n 1, 1) := by decide +kernel
theorem dX4_bitAt_4 : decode cX4_bitAt 4 = .ok (.invokevirtual 75, 3) := by decide +kernel
theorem dX4_bitAt_7 : decode cX4_bitAt 7 = .ok (.bipush 121, 2) := by decide +kernel
theorem dX4_bitAt_9 : decode cX4_bitAt 9 = .ok (.imul, 1) := by decide +kernel
theorem dX4_bitAt_10 : decode cX4_bitAt 10 = .ok (.iconst 1, 1) := by decide +kernel
theorem dX4_bitAt_11 : decode cX4_bitAt 11 = .ok (.isub, 1) := by decide +kernel
theorem dX4_bitAt_12 : decode cX4_bitAt 12 = .ok (.invokestatic 71, 3) := by decide +kernel
theorem dX4_bitAt_15 : decode cX4_bitAt 15 = .ok (.ifCond .eq 6, 3) := by decide +kernel
theorem dX4_bitAt_18 : decode cX4_bitAt 18 = .ok (.bipush (-9), 2) := by decide +kernel
theorem dX4_bitAt_20 : decode cX4_bitAt 20 = .ok (.ireturn, 1) := by decide +kernel
theorem dX4_bitAt_21 : decode cX4_bitAt 21 = .ok (.aload_n 0, 1) := by decide +kernel
theorem dX4_bitAt_22 : decode cX4_bitAt 22 = .ok (.iload_n 1, 1) := by decide +kernel
theorem dX4_bitAt_23 : decode cX4_bitAt 23 = .ok (.iload_n 2, 1) := by decide +kernel
theorem dX4_bitAt_24 : decode cX4_bitAt 24 = .ok (.bipush 121, 2) := by decide +kernel
theorem dX4_bitAt_26 : decode cX4_bitAt 26 = .ok (.idiv, 1) := by decide +kernel
theorem dX4_bitAt_27 : decode cX4_bitAt 27 = .ok (.invokevirtual 78, 3) := by decide +kernel
theorem dX4_bitAt_30 : decode cX4_bitAt 30 = .ok (.iload_n 2, 1) := by decide +kernel
theorem dX4_bitAt_31 : decode cX4_bitAt 31 = .ok (.bipush 121, 2) := by decide +kernel
theorem dX4_bitAt_33 : decode cX4_bitAt 33 = .ok (.irem, 1) := by decide +kernel
theorem dX4_bitAt_34 : decode cX4_bitAt 34 = .ok (.if_icmp .ne 7, 3) := by decide +kernel
theorem dX4_bitAt_37 : decode cX4_bitAt 37 = .ok (.iconst 1, 1) := by decide +kernel
theorem dX4_bitAt_38 : decode cX4_bitAt 38 = .ok (.goto 4, 3) := by decide +kernel
theorem dX4_bitAt_41 : decode cX4_bitAt 41 = .ok (.iconst 0, 1) := by decide +kernel
theorem dX4_bitAt_42 : decode cX4_bitAt 42 = .ok (.invokestatic 81, 3) := by decide +kernel
theorem dX4_bitAt_45 : decode cX4_bitAt 45 = .ok (.ireturn, 1) := by decide +kernel
theorem dX4_appendTo_0 : decode cX4_appendTo 0 = .ok (.iload_n 2, 1) := by decide +kernel
theorem dX4_appendTo_1 : decode cX4_appendTo 1 = .ok (.iconst 4, 1) := by decide +kernel
theorem dX4_appendTo_2 : decode cX4_appendTo 2 = .ok (.imul, 1) := by decide +kernel
theorem dX4_appendTo_3 : decode cX4_appendTo 3 = .ok (.istore_n 3, 1) := by decide +kernel
theorem dX4_appendTo_4 : decode cX4_appendTo 4 = .ok (.iload_n 3, 1) := by decide +kernel
theorem dX4_appendTo_5 : decode cX4_appendTo 5 = .ok (.aload_n 0, 1) := by decide +kernel
theorem dX4_appendTo_6 : decode cX4_appendTo 6 = .ok (.iload_n 2, 1) := by decide +kernel
theorem dX4_appendTo_7 : decode cX4_appendTo 7 = .ok (.invokevirtual 75, 3) := by decide +kernel
theorem dX4_appendTo_10 : decode cX4_appendTo 10 = .ok (.iadd, 1) := by decide +kernel
theorem dX4_appendTo_11 : decode cX4_appendTo 11 = .ok (.istore 4, 2) := by decide +kernel
theorem dX4_appendTo_13 : decode cX4_appendTo 13 = .ok (.iload_n 3, 1) := by decide +kernel
theorem dX4_appendTo_14 : decode cX4_appendTo 14 = .ok (.istore 5, 2) := by decide +kernel
theorem dX4_appendTo_16 : decode cX4_appendTo 16 = .ok (.iload 5, 2) := by decide +kernel
theorem dX4_appendTo_18 : decode cX4_appendTo 18 = .ok (.iload 4, 2) := by decide +kernel
theorem dX4_appendTo_20 : decode cX4_appendTo 20 = .ok (.if_icmp .ge 20, 3) := by decide +kernel
theorem dX4_appendTo_23 : decode cX4_appendTo 23 = .ok (.aload_n 1, 1) := by decide +kernel
theorem dX4_appendTo_24 : decode cX4_appendTo 24 = .ok (.aload_n 0, 1) := by decide +kernel
theorem dX4_appendTo_25 : decode cX4_appendTo 25 = .ok (.getfield 15, 3) := by decide +kernel
theorem dX4_appendTo_28 : decode cX4_appendTo 28 = .ok (.iload 5, 2) := by decide +kernel
theorem dX4_appendTo_30 : decode cX4_appendTo 30 = .ok (.iaload, 1) := by decide +kernel
theorem dX4_appendTo_31 : decode cX4_appendTo 31 = .ok (.invokevirtual 85, 3) := by decide +kernel
theorem dX4_appendTo_34 : decode cX4_appendTo 34 = .ok (.iinc 5 1, 3) := by decide +kernel
theorem dX4_appendTo_37 : decode cX4_appendTo 37 = .ok (.goto (-21), 3) := by decide +kernel
theorem dX4_appendTo_40 : decode cX4_appendTo 40 = .ok (.return_, 1) := by decide +kernel
theorem dX5_init_0 : decode cX5_init 0 = .ok (.aload_n 0, 1) := by decide +kernel
theorem dX5_init_1 : decode cX5_init 1 = .ok (.invokespecial 3, 3) := by decide +kernel
theorem dX5_init_4 : decode cX5_init 4 = .ok (.aload_n 0, 1) := by decide +kernel
theorem dX5_init_5 : decode cX5_init 5 = .ok (.new 9, 3) := by decide +kernel
theorem dX5_init_8 : decode cX5_init 8 = .ok (.dup, 1) := by decide +kernel
theorem dX5_init_9 : decode cX5_init 9 = .ok (.sipush 600, 3) := by decide +kernel
theorem dX5_init_12 : decode cX5_init 12 = .ok (.invokespecial 11, 3) := by decide +kernel
theorem dX5_init_15 : decode cX5_init 15 = .ok (.putfield 14, 3) := by decide +kernel
theorem dX5_init_18 : decode cX5_init 18 = .ok (.aload_n 0, 1) := by decide +kernel
theorem dX5_init_19 : decode cX5_init 19 = .ok (.new 9, 3) := by decide +kernel
theorem dX5_init_22 : decode cX5_init 22 = .ok (.dup, 1) := by decide +kernel
theorem dX5_init_23 : decode cX5_init 23 = .ok (.sipush 600, 3) := by decide +kernel
theorem dX5_init_26 : decode cX5_init 26 = .ok (.invokespecial 11, 3) := by decide +kernel
theorem dX5_init_29 : decode cX5_init 29 = .ok (.putfield 20, 3) := by decide +kernel
theorem dX5_init_32 : decode cX5_init 32 = .ok (.return_, 1) := by decide +kernel
theorem dX5_layPlace_0 : decode cX5_layPlace 0 = .ok (.iconst 4, 1) := by decide +kernel
theorem dX5_layPlace_1 : decode cX5_layPlace 1 = .ok (.iconst 2, 1) := by decide +kernel
theorem dX5_layPlace_2 : decode cX5_layPlace 2 = .ok (.iload_n 2, 1) := by decide +kernel
theorem dX5_layPlace_3 : decode cX5_layPlace 3 = .ok (.iload_n 3, 1) := by decide +kernel
theorem dX5_layPlace_4 : decode cX5_layPlace 4 = .ok (.iadd, 1) := by decide +kernel
theorem dX5_layPlace_5 : decode cX5_layPlace 5 = .ok (.imul, 1) := by decide +kernel
theorem dX5_layPlace_6 : decode cX5_layPlace 6 = .ok (.iadd, 1) := by decide +kernel
theorem dX5_layPlace_7 : decode cX5_layPlace 7 = .ok (.sipush 600, 3) := by decide +kernel
theorem dX5_layPlace_10 : decode cX5_layPlace 10 = .ok (.if_icmp .le 6, 3) := by decide +kernel
theorem dX5_layPlace_13 : decode cX5_layPlace 13 = .ok (.bipush (-3), 2) := by decide +kernel
theorem dX5_layPlace_15 : decode cX5_layPlace 15 = .ok (.ireturn, 1) := by decide +kernel
theorem dX5_layPlace_16 : decode cX5_layPlace 16 = .ok (.iload_n 1, 1) := by decide +kernel
theorem dX5_layPlace_17 : decode cX5_layPlace 17 = .ok (.bipush 20, 2) := by decide +kernel
theorem dX5_layPlace_19 : decode cX5_layPlace 19 = .ok (.imul, 1) := by decide +kernel
theorem dX5_layPlace_20 : decode cX5_layPlace 20 = .ok (.istore 4, 2) := by decide +kernel
theorem dX5_layPlace_22 : decode cX5_layPlace 22 = .ok (.aload_n 0, 1) := by decide +kernel
theorem dX5_layPlace_23 : decode cX5_layPlace 23 = .ok (.getfield 14, 3) := by decide +kernel
theorem dX5_layPlace_26 : decode cX5_layPlace 26 = .ok (.invokevirtual 23, 3) := by decide +kernel
theorem dX5_layPlace_29 : decode cX5_layPlace 29 = .ok (.aload_n 0, 1) := by decide +kernel
theorem dX5_layPlace_30 : decode cX5_layPlace 30 = .ok (.iload 4, 2) := by decide +kernel
theorem dX5_layPlace_32 : decode cX5_layPlace 32 = .ok (.iconst 1, 1) := by decide +kernel
theorem dX5_layPlace_33 : decode cX5_layPlace 33 = .ok (.iadd, 1) := by decide +kernel
theorem dX5_layPlace_34 : decode cX5_layPlace 34 = .ok (.iconst 1, 1) := by decide +kernel
theorem dX5_layPlace_35 : decode cX5_layPlace 35 = .ok (.invokevirtual 26, 3) := by decide +kernel
theorem dX5_layPlace_38 : decode cX5_layPlace 38 = .ok (.aload_n 0, 1) := by decide +kernel
theorem dX5_layPlace_39 : decode cX5_layPlace 39 = .ok (.iload 4, 2) := by decide +kernel
theorem dX5_layPlace_41 : decode cX5_layPlace 41 = .ok (.iconst 2, 1) := by decide +kernel
theorem dX5_layPlace_42 : decode cX5_layPlace 42 = .ok (.iadd, 1) := by decide +kernel
theorem dX5_layPlace_43 : decode cX5_layPlace 43 = .ok (.iload_n 2, 1) := by decide +kernel
theorem dX5_layPlace_44 : decode cX5_layPlace 44 = .ok (.invokevirtual 26, 3) := by decide +kernel
theorem dX5_layPlace_47 : decode cX5_layPlace 47 = .ok (.aload_n 0, 1) := by decide +kernel
theorem dX5_layPlace_48 : decode cX5_layPlace 48 = .ok (.iload 4, 2) := by decide +kernel
theorem dX5_layPlace_50 : decode cX5_layPlace 50 = .ok (.iconst 5, 1) := by decide +kernel
theorem dX5_layPlace_51 : decode cX5_layPlace 51 = .ok (.iadd, 1) := by decide +kernel
theorem dX5_layPlace_52 : decode cX5_layPlace 52 = .ok (.iconst 1, 1) := by decide +kernel
theorem dX5_layPlace_53 : decode cX5_layPlace 53 = .ok (.invokevirtual 26, 3) := by decide +kernel
theorem dX5_layPlace_56 : decode cX5_layPlace 56 = .ok (.aload_n 0, 1) := by decide +kernel
theorem dX5_layPlace_57 : decode cX5_layPlace 57 = .ok (.iload 4, 2) := by decide +kernel
theorem dX5_layPlace_59 : decode cX5_layPlace 59 = .ok (.bipush 6, 2) := by decide +kernel
theorem dX5_layPlace_61 : decode cX5_layPlace 61 = .ok (.iadd, 1) := by decide +kernel
theorem dX5_layPlace_62 : decode cX5_layPlace 62 = .ok (.iload_n 3, 1) := by decide +kernel
theorem dX5_layPlace_63 : decode cX5_layPlace 63 = .ok (.invokevirtual 26, 3) := by decide +kernel
theorem dX5_layPlace_66 : decode cX5_layPlace 66 = .ok (.aload_n 0, 1) := by decide +kernel
theorem dX5_layPlace_67 : decode cX5_layPlace 67 = .ok (.getfield 14, 3) := by decide +kernel
theorem dX5_layPlace_70 : decode cX5_layPlace 70 = .ok (.getfield 30, 3) := by decide +kernel
theorem dX5_layPlace_73 : decode cX5_layPlace 73 = .ok (.ireturn, 1) := by decide +kernel
theorem dX5_appendTwos_0 : decode cX5_appendTwos 0 = .ok (.iconst 0, 1) := by decide +kernel
theorem dX5_appendTwos_1 : decode cX5_appendTwos 1 = .ok (.istore_n 3, 1) := by decide +kernel
theorem dX5_appendTwos_2 : decode cX5_appendTwos 2 = .ok (.iload_n 3, 1) := by decide +kernel
theorem dX5_appendTwos_3 : decode cX5_appendTwos 3 = .ok (.iload_n 2, 1) := by decide +kernel
theorem dX5_appendTwos_4 : decode cX5_appendTwos 4 = .ok (.if_icmp .ge 25, 3) := by decide +kernel
theorem dX5_appendTwos_7 : decode cX5_appendTwos 7 = .ok (.aload_n 0, 1) := by decide +kernel
theorem dX5_appendTwos_8 : decode cX5_appendTwos 8 = .ok (.getfield 14, 3) := by decide +kernel
theorem dX5_appendTwos_11 : decode cX5_appendTwos 11 = .ok (.iload_n 1, 1) := by decide +kernel
theorem dX5_appendTwos_12 : decode cX5_appendTwos 12 = .ok (.invokevirtual 34, 3) := by decide +kernel
theorem dX5_appendTwos_15 : decode cX5_appendTwos 15 = .ok (.aload_n 0, 1) := by decide +kernel
theorem dX5_appendTwos_16 : decode cX5_appendTwos 16 = .ok (.getfield 14, 3) := by decide +kernel
theorem dX5_appendTwos_19 : decode cX5_appendTwos 19 = .ok (.iconst 0, 1) := by decide +kernel
theorem dX5_appendTwos_20 : decode cX5_appendTwos 20 = .ok (.invokevirtual 34, 3) := by decide +kernel
theorem dX5_appendTwos_23 : decode cX5_appendTwos 23 = .ok (.iinc 3 1, 3) := by decide +kernel
theorem dX5_appendTwos_26 : decode cX5_appendTwos 26 = .ok (.goto (-24), 3) := by decide +kernel
theorem dX5_appendTwos_29 : decode cX5_appendTwos 29 = .ok (.return_, 1) := by decide +kernel
theorem dX5_addLetter_0 : decode cX5_addLetter 0 = .ok (.aload_n 0, 1) := by decide +kernel
theorem dX5_addLetter_1 : decode cX5_addLetter 1 = .ok (.getfield 14, 3) := by decide +kernel
theorem dX5_addLetter_4 : decode cX5_addLetter 4 = .ok (.getfield 30, 3) := by decide +kernel
theorem dX5_addLetter_7 : decode cX5_addLetter 7 = .ok (.sipush 600, 3) := by decide +kernel
theorem dX5_addLetter_10 : decode cX5_addLetter 10 = .ok (.if_icmp .lt 6, 3) := by decide +kernel
theorem dX5_addLetter_13 : decode cX5_addLetter 13 = .ok (.bipush (-3), 2) := by decide +kernel
theorem dX5_addLetter_15 : decode cX5_addLetter 15 = .ok (.ireturn, 1) := by decide +kernel
theorem dX5_addLetter_16 : decode cX5_addLetter 16 = .ok (.aload_n 0, 1) := by decide +kernel
theorem dX5_addLetter_17 : decode cX5_addLetter 17 = .ok (.getfield 14, 3) := by decide +kernel
theorem dX5_addLetter_20 : decode cX5_addLetter 20 = .ok (.iload_n 1, 1) := by decide +kernel
theorem dX5_addLetter_21 : decode cX5_addLetter 21 = .ok (.invokevirtual 34, 3) := by decide +kernel
theorem dX5_addLetter_24 : decode cX5_addLetter 24 = .ok (.aload_n 0, 1) := by decide +kernel
theorem dX5_addLetter_25 : decode cX5_addLetter 25 = .ok (.getfield 14, 3) := by decide +kernel
theorem dX5_addLetter_28 : decode cX5_addLetter 28 = .ok (.getfield 30, 3) := by decide +kernel
theorem dX5_addLetter_31 : decode cX5_addLetter 31 = .ok (.ireturn, 1) := by decide +kernel
theorem dX5_doSteps_0 : decode cX5_doSteps 0 = .ok (.iconst 0, 1) := by decide +kernel
theorem dX5_doSteps_1 : decode cX5_doSteps 1 = .ok (.istore_n 3, 1) := by decide +kernel
theorem dX5_doSteps_2 : decode cX5_doSteps 2 = .ok (.iload_n 3, 1) := by decide +kernel
theorem dX5_doSteps_3 : decode cX5_doSteps 3 = .ok (.iload_n 1, 1) := by decide +kernel
theorem dX5_doSteps_4 : decode cX5_doSteps 4 = .ok (.if_icmp .ge 17, 3) := by decide +kernel
theorem dX5_doSteps_7 : decode cX5_doSteps 7 = .ok (.aload_n 0, 1) := by decide +kernel
theorem dX5_doSteps_8 : decode cX5_doSteps 8 = .ok (.aload_n 2, 1) := by decide +kernel
theorem dX5_doSteps_9 : decode cX5_doSteps 9 = .ok (.invokevirtual 37, 3) := by decide +kernel
theorem dX5_doSteps_12 : decode cX5_doSteps 12 = .ok (.ifCond .eq 9, 3) := by decide +kernel
theorem dX5_doSteps_15 : decode cX5_doSteps 15 = .ok (.iinc 3 1, 3) := by decide +kernel
theorem dX5_doSteps_18 : decode cX5_doSteps 18 = .ok (.goto (-16), 3) := by decide +kernel
theorem dX5_doSteps_21 : decode cX5_doSteps 21 = .ok (.iload_n 3, 1) := by decide +kernel
theorem dX5_doSteps_22 : decode cX5_doSteps 22 = .ok (.ireturn, 1) := by decide +kernel
theorem dX5_stepsToPlace_0 : decode cX5_stepsToPlace 0 = .ok (.aload_n 0, 1) := by decide +kernel
theorem dX5_stepsToPlace_1 : decode cX5_stepsToPlace 1 = .ok (.getfield 20, 3) := by decide +kernel
theorem dX5_stepsToPlace_4 : decode cX5_stepsToPlace 4 = .ok (.aload_n 0, 1) := by decide +kernel
theorem dX5_stepsToPlace_5 : decode cX5_stepsToPlace 5 = .ok (.getfield 14, 3) := by decide +kernel
theorem dX5_stepsToPlace_8 : decode cX5_stepsToPlace 8 = .ok (.invokevirtual 41, 3) := by decide +kernel
theorem dX5_stepsToPlace_11 : decode cX5_stepsToPlace 11 = .ok (.iconst 0, 1) := by decide +kernel
theorem dX5_stepsToPlace_12 : decode cX5_stepsToPlace 12 = .ok (.istore_n 2, 1) := by decide +kernel
theorem dX5_stepsToPlace_13 : decode cX5_stepsToPlace 13 = .ok (.iload_n 2, 1) := by decide +kernel
theorem dX5_stepsToPlace_14 : decode cX5_stepsToPlace 14 = .ok (.sipush 20000, 3) := by decide +kernel
theorem dX5_stepsToPlace_17 : decode cX5_stepsToPlace 17 = .ok (.if_icmp .ge 25, 3) := by decide +kernel
theorem dX5_stepsToPlace_20 : decode cX5_stepsToPlace 20 = .ok (.aload_n 0, 1) := by decide +kernel
theorem dX5_stepsToPlace_21 : decode cX5_stepsToPlace 21 = .ok (.aload_n 1, 1) := by decide +kernel
theorem dX5_stepsToPlace_22 : decode cX5_stepsToPlace 22 = .ok (.invokevirtual 37, 3) := by decide +kernel
theorem dX5_stepsToPlace_25 : decode cX5_stepsToPlace 25 = .ok (.ifCond .eq 17, 3) := by decide +kernel
theorem dX5_stepsToPlace_28 : decode cX5_stepsToPlace 28 = .ok (.iinc 2 1, 3) := by decide +kernel
theorem dX5_stepsToPlace_31 : decode cX5_stepsToPlace 31 = .ok (.aload_n 0, 1) := by decide +kernel
theorem dX5_stepsToPlace_32 : decode cX5_stepsToPlace 32 = .ok (.invokevirtual 45, 3) := by decide +kernel
theorem dX5_stepsToPlace_35 : decode cX5_stepsToPlace 35 = .ok (.bipush (-9), 2) := by decide +kernel
theorem dX5_stepsToPlace_37 : decode cX5_stepsToPlace 37 = .ok (.if_icmp .eq (-24), 3) := by decide +kernel
theorem dX5_stepsToPlace_40 : decode cX5_stepsToPlace 40 = .ok (.iload_n 2, 1) := by decide +kernel
theorem dX5_stepsToPlace_41 : decode cX5_stepsToPlace 41 = .ok (.ireturn, 1) := by decide +kernel
theorem dX5_stepsToPlace_42 : decode cX5_stepsToPlace 42 = .ok (.aload_n 0, 1) := by decide +kernel
theorem dX5_stepsToPlace_43 : decode cX5_stepsToPlace 43 = .ok (.getfield 14, 3) := by decide +kernel
theorem dX5_stepsToPlace_46 : decode cX5_stepsToPlace 46 = .ok (.aload_n 0, 1) := by decide +kernel
theorem dX5_stepsToPlace_47 : decode cX5_stepsToPlace 47 = .ok (.getfield 20, 3) := by decide +kernel
theorem dX5_stepsToPlace_50 : decode cX5_stepsToPlace 50 = .ok (.invokevirtual 41, 3) := by decide +kernel
theorem dX5_stepsToPlace_53 : decode cX5_stepsToPlace 53 = .ok (.bipush (-2), 2) := by decide +kernel
theorem dX5_stepsToPlace_55 : decode cX5_stepsToPlace 55 = .ok (.ireturn, 1) := by decide +kernel
theorem dX5_doStep_0 : decode cX5_doStep 0 = .ok (.aload_n 0, 1) := by decide +kernel
theorem dX5_doStep_1 : decode cX5_doStep 1 = .ok (.getfield 14, 3) := by decide +kernel
theorem dX5_doStep_4 : decode cX5_doStep 4 = .ok (.iconst 0, 1) := by decide +kernel
theorem dX5_doStep_5 : decode cX5_doStep 5 = .ok (.invokevirtual 49, 3) := by decide +kernel
theorem dX5_doStep_8 : decode cX5_doStep 8 = .ok (.istore_n 2, 1) := by decide +kernel
theorem dX5_doStep_9 : decode cX5_doStep 9 = .ok (.aload_n 1, 1) := by decide +kernel
theorem dX5_doStep_10 : decode cX5_doStep 10 = .ok (.iload_n 2, 1) := by decide +kernel
theorem dX5_doStep_11 : decode cX5_doStep 11 = .ok (.invokevirtual 53, 3) := by decide +kernel
theorem dX5_doStep_14 : decode cX5_doStep 14 = .ok (.istore_n 3, 1) := by decide +kernel
theorem dX5_doStep_15 : decode cX5_doStep 15 = .ok (.aload_n 0, 1) := by decide +kernel
theorem dX5_doStep_16 : decode cX5_doStep 16 = .ok (.getfield 14, 3) := by decide +kernel
theorem dX5_doStep_19 : decode cX5_doStep 19 = .ok (.getfield 30, 3) := by decide +kernel
theorem dX5_doStep_22 : decode cX5_doStep 22 = .ok (.iconst 2, 1) := by decide +kernel
theorem dX5_doStep_23 : decode cX5_doStep 23 = .ok (.if_icmp .lt 24, 3) := by decide +kernel
theorem dX5_doStep_26 : decode cX5_doStep 26 = .ok (.iload_n 3, 1) := by decide +kernel
theorem dX5_doStep_27 : decode cX5_doStep 27 = .ok (.ifCond .eq 20, 3) := by decide +kernel
theorem dX5_doStep_30 : decode cX5_doStep 30 = .ok (.aload_n 0, 1) := by decide +kernel
theorem dX5_doStep_31 : decode cX5_doStep 31 = .ok (.getfield 14, 3) := by decide +kernel
theorem dX5_doStep_34 : decode cX5_doStep 34 = .ok (.getfield 30, 3) := by decide +kernel
theorem dX5_doStep_37 : decode cX5_doStep 37 = .ok (.iconst 2, 1) := by decide +kernel
theorem dX5_doStep_38 : decode cX5_doStep 38 = .ok (.isub, 1) := by decide +kernel
theorem dX5_doStep_39 : decode cX5_doStep 39 = .ok (.iload_n 3, 1) := by decide +kernel
theorem dX5_doStep_40 : decode cX5_doStep 40 = .ok (.iadd, 1) := by decide +kernel
theorem dX5_doStep_41 : decode cX5_doStep 41 = .ok (.sipush 600, 3) := by decide +kernel
theorem dX5_doStep_44 : decode cX5_doStep 44 = .ok (.if_icmp .le 5, 3) := by decide +kernel
theorem dX5_doStep_47 : decode cX5_doStep 47 = .ok (.iconst 0, 1) := by decide +kernel
theorem dX5_doStep_48 : decode cX5_doStep 48 = .ok (.ireturn, 1) := by decide +kernel
theorem dX5_doStep_49 : decode cX5_doStep 49 = .ok (.aload_n 0, 1) := by decide +kernel
theorem dX5_doStep_50 : decode cX5_doStep 50 = .ok (.getfield 14, 3) := by decide +kernel
theorem dX5_doStep_53 : decode cX5_doStep 53 = .ok (.iconst 2, 1) := by decide +kernel
theorem dX5_doStep_54 : decode cX5_doStep 54 = .ok (.invokevirtual 58, 3) := by decide +kernel
theorem dX5_doStep_57 : decode cX5_doStep 57 = .ok (.aload_n 1, 1) := by decide +kernel
theorem dX5_doStep_58 : decode cX5_doStep 58 = .ok (.aload_n 0, 1) := by decide +kernel
theorem dX5_doStep_59 : decode cX5_doStep 59 = .ok (.getfield 14, 3) := by decide +kernel
theorem dX5_doStep_62 : decode cX5_doStep 62 = .ok (.iload_n 2, 1) := by decide +kernel
theorem dX5_doStep_63 : decode cX5_doStep 63 = .ok (.invokevirtual 61, 3) := by decide +kernel
theorem dX5_doStep_66 : decode cX5_doStep 66 = .ok (.iconst 1, 1) := by decide +kernel
theorem dX5_doStep_67 : decode cX5_doStep 67 = .ok (.ireturn, 1) := by decide +kernel
theorem dX5_tellPlace_0 : decode cX5_tellPlace 0 = .ok (.aload_n 0, 1) := by decide +kernel
theorem dX5_tellPlace_1 : decode cX5_tellPlace 1 = .ok (.invokevirtual 45, 3) := by decide +kernel
theorem dX5_tellPlace_4 : decode cX5_tellPlace 4 = .ok (.istore_n 2, 1) := by decide +kernel
theorem dX5_tellPlace_5 : decode cX5_tellPlace 5 = .ok (.iload_n 2, 1) := by decide +kernel
theorem dX5_tellPlace_6 : decode cX5_tellPlace 6 = .ok (.bipush (-9), 2) := by decide +kernel
theorem dX5_tellPlace_8 : decode cX5_tellPlace 8 = .ok (.if_icmp .ne 6, 3) := by decide +kernel
theorem dX5_tellPlace_11 : decode cX5_tellPlace 11 = .ok (.bipush (-9), 2) := by decide +kernel
theorem dX5_tellPlace_13 : decode cX5_tellPlace 13 = .ok (.ireturn, 1) := by decide +kernel
theorem dX5_tellPlace_14 : decode cX5_tellPlace 14 = .ok (.aload_n 0, 1) := by decide +kernel
theorem dX5_tellPlace_15 : decode cX5_tellPlace 15 = .ok (.getfield 14, 3) := by decide +kernel
theorem dX5_tellPlace_18 : decode cX5_tellPlace 18 = .ok (.iconst 0, 1) := by decide +kernel
theorem dX5_tellPlace_19 : decode cX5_tellPlace 19 = .ok (.invokevirtual 49, 3) := by decide +kernel
theorem dX5_tellPlace_22 : decode cX5_tellPlace 22 = .ok (.bipush 20, 2) := by decide +kernel
theorem dX5_tellPlace_24 : decode cX5_tellPlace 24 = .ok (.idiv, 1) := by decide +kernel
theorem dX5_tellPlace_25 : decode cX5_tellPlace 25 = .ok (.istore_n 3, 1) := by decide +kernel
theorem dX5_tellPlace_26 : decode cX5_tellPlace 26 = .ok (.iload_n 1, 1) := by decide +kernel
theorem dX5_tellPlace_27 : decode cX5_tellPlace 27 = .ok (.tableswitch 39 0 2 #[25, 29, 33], 25) := by decide +kernel
theorem dX5_tellPlace_52 : decode cX5_tellPlace 52 = .ok (.iload_n 3, 1) := by decide +kernel
theorem dX5_tellPlace_53 : decode cX5_tellPlace 53 = .ok (.iconst 2, 1) := by decide +kernel
theorem dX5_tellPlace_54 : decode cX5_tellPlace 54 = .ok (.idiv, 1) := by decide +kernel
theorem dX5_tellPlace_55 : decode cX5_tellPlace 55 = .ok (.ireturn, 1) := by decide +kernel
theorem dX5_tellPlace_56 : decode cX5_tellPlace 56 = .ok (.iload_n 3, 1) := by decide +kernel
theorem dX5_tellPlace_57 : decode cX5_tellPlace 57 = .ok (.iconst 2, 1) := by decide +kernel
theorem dX5_tellPlace_58 : decode cX5_tellPlace 58 = .ok (.irem, 1) := by decide +kernel
theorem dX5_tellPlace_59 : decode cX5_tellPlace 59 = .ok (.ireturn, 1) := by decide +kernel
theorem dX5_tellPlace_60 : decode cX5_tellPlace 60 = .ok (.iload_n 2, 1) := by decide +kernel
theorem dX5_tellPlace_61 : decode cX5_tellPlace 61 = .ok (.iconst 2, 1) := by decide +kernel
theorem dX5_tellPlace_62 : decode cX5_tellPlace 62 = .ok (.isub, 1) := by decide +kernel
theorem dX5_tellPlace_63 : decode cX5_tellPlace 63 = .ok (.iconst 2, 1) := by decide +kernel
theorem dX5_tellPlace_64 : decode cX5_tellPlace 64 = .ok (.idiv, 1) := by decide +kernel
theorem dX5_tellPlace_65 : decode cX5_tellPlace 65 = .ok (.ireturn, 1) := by decide +kernel
theorem dX5_tellPlace_66 : decode cX5_tellPlace 66 = .ok (.aload_n 0, 1) := by decide +kernel
theorem dX5_tellPlace_67 : decode cX5_tellPlace 67 = .ok (.getfield 14, 3) := by decide +kernel
theorem dX5_tellPlace_70 : decode cX5_tellPlace 70 = .ok (.getfield 30, 3) := by decide +kernel
theorem dX5_tellPlace_73 : decode cX5_tellPlace 73 = .ok (.iload_n 2, 1) := by decide +kernel
theorem dX5_tellPlace_74 : decode cX5_tellPlace 74 = .ok (.isub, 1) := by decide +kernel
theorem dX5_tellPlace_75 : decode cX5_tellPlace 75 = .ok (.iconst 2, 1) := by decide +kernel
theorem dX5_tellPlace_76 : decode cX5_tellPlace 76 = .ok (.isub, 1) := by decide +kernel
theorem dX5_tellPlace_77 : decode cX5_tellPlace 77 = .ok (.iconst 2, 1) := by decide +kernel
theorem dX5_tellPlace_78 : decode cX5_tellPlace 78 = .ok (.idiv, 1) := by decide +kernel
theorem dX5_tellPlace_79 : decode cX5_tellPlace 79 = .ok (.ireturn, 1) := by decide +kernel
theorem dX5_middle_0 : decode cX5_middle 0 = .ok (.aload_n 0, 1) := by decide +kernel
theorem dX5_middle_1 : decode cX5_middle 1 = .ok (.getfield 14, 3) := by decide +kernel
theorem dX5_middle_4 : decode cX5_middle 4 = .ok (.iconst 0, 1) := by decide +kernel
theorem dX5_middle_5 : decode cX5_middle 5 = .ok (.invokevirtual 49, 3) := by decide +kernel
theorem dX5_middle_8 : decode cX5_middle 8 = .ok (.istore_n 1, 1) := by decide +kernel
theorem dX5_middle_9 : decode cX5_middle 9 = .ok (.iload_n 1, 1) := by decide +kernel
theorem dX5_middle_10 : decode cX5_middle 10 = .ok (.bipush 20, 2) := by decide +kernel
theorem dX5_middle_12 : decode cX5_middle 12 = .ok (.irem, 1) := by decide +kernel
theorem dX5_middle_13 : decode cX5_middle 13 = .ok (.iconst 1, 1) := by decide +kernel
theorem dX5_middle_14 : decode cX5_middle 14 = .ok (.if_icmp .ne 14, 3) := by decide +kernel
theorem dX5_middle_17 : decode cX5_middle 17 = .ok (.aload_n 0, 1) := by decide +kernel
theorem dX5_middle_18 : decode cX5_middle 18 = .ok (.getfield 14, 3) := by decide +kernel
theorem dX5_middle_21 : decode cX5_middle 21 = .ok (.iconst 1, 1) := by decide +kernel
theorem dX5_middle_22 : decode cX5_middle 22 = .ok (.invokevirtual 49, 3) := by decide +kernel
theorem dX5_middle_25 : decode cX5_middle 25 = .ok (.ifCond .eq 6, 3) := by decide +kernel
theorem dX5_middle_28 : decode cX5_middle 28 = .ok (.bipush (-9), 2) := by decide +kernel
theorem dX5_middle_30 : decode cX5_middle 30 = .ok (.ireturn, 1) := by decide +kernel
theorem dX5_middle_31 : decode cX5_middle 31 = .ok (.iload_n 1, 1) := by decide +kernel
theorem dX5_middle_32 : decode cX5_middle 32 = .ok (.iconst 1, 1) := by decide +kernel
theorem dX5_middle_33 : decode cX5_middle 33 = .ok (.isub, 1) := by decide +kernel
theorem dX5_middle_34 : decode cX5_middle 34 = .ok (.istore_n 2, 1) := by decide +kernel
theorem dX5_middle_35 : decode cX5_middle 35 = .ok (.aload_n 0, 1) := by decide +kernel
theorem dX5_middle_36 : decode cX5_middle 36 = .ok (.iload_n 2, 1) := by decide +kernel
theorem dX5_middle_37 : decode cX5_middle 37 = .ok (.iconst 2, 1) := by decide +kernel
theorem dX5_middle_38 : decode cX5_middle 38 = .ok (.iadd, 1) := by decide +kernel
theorem dX5_middle_39 : decode cX5_middle 39 = .ok (.iconst 2, 1) := by decide +kernel
theorem dX5_middle_40 : decode cX5_middle 40 = .ok (.invokevirtual 65, 3) := by decide +kernel
theorem dX5_middle_43 : decode cX5_middle 43 = .ok (.istore_n 3, 1) := by decide +kernel
theorem dX5_middle_44 : decode cX5_middle 44 = .ok (.aload_n 0, 1) := by decide +kernel
theorem dX5_middle_45 : decode cX5_middle 45 = .ok (.getfield 14, 3) := by decide +kernel
theorem dX5_middle_48 : decode cX5_middle 48 = .ok (.iload_n 3, 1) := by decide +kernel
theorem dX5_middle_49 : decode cX5_middle 49 = .ok (.invokevirtual 49, 3) := by decide +kernel
theorem dX5_middle_52 : decode cX5_middle 52 = .ok (.iload_n 2, 1) := by decide +kernel
theorem dX5_middle_53 : decode cX5_middle 53 = .ok (.iconst 5, 1) := by decide +kernel
theorem dX5_middle_54 : decode cX5_middle 54 = .ok (.iadd, 1) := by decide +kernel
theorem dX5_middle_55 : decode cX5_middle 55 = .ok (.if_icmp .ne 16, 3) := by decide +kernel
theorem dX5_middle_58 : decode cX5_middle 58 = .ok (.aload_n 0, 1) := by decide +kernel
theorem dX5_middle_59 : decode cX5_middle 59 = .ok (.getfield 14, 3) := by decide +kernel
theorem dX5_middle_62 : decode cX5_middle 62 = .ok (.iload_n 3, 1) := by decide +kernel
theorem dX5_middle_63 : decode cX5_middle 63 = .ok (.iconst 1, 1) := by decide +kernel
theorem dX5_middle_64 : decode cX5_middle 64 = .ok (.iadd, 1) := by decide +kernel
theorem dX5_middle_65 : decode cX5_middle 65 = .ok (.invokevirtual 49, 3) := by decide +kernel
theorem dX5_middle_68 : decode cX5_middle 68 = .ok (.ifCond .eq 6, 3) := by decide +kernel
theorem dX5_middle_71 : decode cX5_middle 71 = .ok (.bipush (-9), 2) := by decide +kernel
theorem dX5_middle_73 : decode cX5_middle 73 = .ok (.ireturn, 1) := by decide +kernel
theorem dX5_middle_74 : decode cX5_middle 74 = .ok (.aload_n 0, 1) := by decide +kernel
theorem dX5_middle_75 : decode cX5_middle 75 = .ok (.iload_n 2, 1) := by decide +kernel
theorem dX5_middle_76 : decode cX5_middle 76 = .ok (.bipush 6, 2) := by decide +kernel
theorem dX5_middle_78 : decode cX5_middle 78 = .ok (.iadd, 1) := by decide +kernel
theorem dX5_middle_79 : decode cX5_middle 79 = .ok (.iload_n 3, 1) := by decide +kernel
theorem dX5_middle_80 : decode cX5_middle 80 = .ok (.iconst 2, 1) := by decide +kernel
theorem dX5_middle_81 : decode cX5_middle 81 = .ok (.iadd, 1) := by decide +kernel
theorem dX5_middle_82 : decode cX5_middle 82 = .ok (.invokevirtual 65, 3) := by decide +kernel
theorem dX5_middle_85 : decode cX5_middle 85 = .ok (.aload_n 0, 1) := by decide +kernel
theorem dX5_middle_86 : decode cX5_middle 86 = .ok (.getfield 14, 3) := by decide +kernel
theorem dX5_middle_89 : decode cX5_middle 89 = .ok (.getfield 30, 3) := by decide +kernel
theorem dX5_middle_92 : decode cX5_middle 92 = .ok (.if_icmp .ne 7, 3) := by decide +kernel
theorem dX5_middle_95 : decode cX5_middle 95 = .ok (.iload_n 3, 1) := by decide +kernel
theorem dX5_middle_96 : decode cX5_middle 96 = .ok (.goto 5, 3) := by decide +kernel
theorem dX5_middle_99 : decode cX5_middle 99 = .ok (.bipush (-9), 2) := by decide +kernel
theorem dX5_middle_101 : decode cX5_middle 101 = .ok (.ireturn, 1) := by decide +kernel
theorem dX5_behindTwos_0 : decode cX5_behindTwos 0 = .ok (.iload_n 2, 1) := by decide +kernel
theorem dX5_behindTwos_1 : decode cX5_behindTwos 1 = .ok (.istore_n 3, 1) := by decide +kernel
theorem dX5_behindTwos_2 : decode cX5_behindTwos 2 = .ok (.iload_n 3, 1) := by decide +kernel
theorem dX5_behindTwos_3 : decode cX5_behindTwos 3 = .ok (.aload_n 0, 1) := by decide +kernel
theorem dX5_behindTwos_4 : decode cX5_behindTwos 4 = .ok (.getfield 14, 3) := by decide +kernel
theorem dX5_behindTwos_7 : decode cX5_behindTwos 7 = .ok (.getfield 30, 3) := by decide +kernel
theorem dX5_behindTwos_10 : decode cX5_behindTwos 10 = .ok (.if_icmp .ge 34, 3) := by decide +kernel
theorem dX5_behindTwos_13 : decode cX5_behindTwos 13 = .ok (.aload_n 0, 1) := by decide +kernel
theorem dX5_behindTwos_14 : decode cX5_behindTwos 14 = .ok (.getfield 14, 3) := by decide +kernel
theorem dX5_behindTwos_17 : decode cX5_behindTwos 17 = .ok (.iload_n 3, 1) := by decide +kernel
theorem dX5_behindTwos_18 : decode cX5_behindTwos 18 = .ok (.invokevirtual 49, 3) := by decide +kernel
theorem dX5_behindTwos_21 : decode cX5_behindTwos 21 = .ok (.iload_n 1, 1) := by decide +kernel
theorem dX5_behindTwos_22 : decode cX5_behindTwos 22 = .ok (.if_icmp .ne 22, 3) := by decide +kernel
theorem dX5_behindTwos_25 : decode cX5_behindTwos 25 = .ok (.aload_n 0, 1) := by decide +kernel
theorem dX5_behindTwos_26 : decode cX5_behindTwos 26 = .ok (.getfield 14, 3) := by decide +kernel
theorem dX5_behindTwos_29 : decode cX5_behindTwos 29 = .ok (.iload_n 3, 1) := by decide +kernel
theorem dX5_behindTwos_30 : decode cX5_behindTwos 30 = .ok (.iconst 1, 1) := by decide +kernel
theorem dX5_behindTwos_31 : decode cX5_behindTwos 31 = .ok (.iadd, 1) := by decide +kernel
theorem dX5_behindTwos_32 : decode cX5_behindTwos 32 = .ok (.invokevirtual 49, 3) := by decide +kernel
theorem dX5_behindTwos_35 : decode cX5_behindTwos 35 = .ok (.ifCond .ne 9, 3) := by decide +kernel
theorem dX5_behindTwos_38 : decode cX5_behindTwos 38 = .ok (.iinc 3 2, 3) := by decide +kernel
theorem dX5_behindTwos_41 : decode cX5_behindTwos 41 = .ok (.goto (-39), 3) := by decide +kernel
theorem dX5_behindTwos_44 : decode cX5_behindTwos 44 = .ok (.iload_n 3, 1) := by decide +kernel
theorem dX5_behindTwos_45 : decode cX5_behindTwos 45 = .ok (.ireturn, 1) := by decide +kernel
theorem dJ9_max_7cf53_0 : decode cJ9_max_7cf53 0 = .ok (.iload_n 0, 1) := by decide +kernel
theorem dJ9_max_7cf53_1 : decode cJ9_max_7cf53 1 = .ok (.iload_n 1, 1) := by decide +kernel
theorem dJ9_max_7cf53_2 : decode cJ9_max_7cf53 2 = .ok (.if_icmp .lt 7, 3) := by decide +kernel
theorem dJ9_max_7cf53_5 : decode cJ9_max_7cf53 5 = .ok (.iload_n 0, 1) := by decide +kernel
theorem dJ9_max_7cf53_6 : decode cJ9_max_7cf53 6 = .ok (.goto 4, 3) := by decide +kernel
theorem dJ9_max_7cf53_9 : decode cJ9_max_7cf53 9 = .ok (.iload_n 1, 1) := by decide +kernel
theorem dJ9_max_7cf53_10 : decode cJ9_max_7cf53 10 = .ok (.ireturn, 1) := by decide +kernel
theorem dJ9_min_7cf53_0 : decode cJ9_min_7cf53 0 = .ok (.iload_n 0, 1) := by decide +kernel
theorem dJ9_min_7cf53_1 : decode cJ9_min_7cf53 1 = .ok (.iload_n 1, 1) := by decide +kernel
theorem dJ9_min_7cf53_2 : decode cJ9_min_7cf53 2 = .ok (.if_icmp .gt 7, 3) := by decide +kernel
theorem dJ9_min_7cf53_5 : decode cJ9_min_7cf53 5 = .ok (.iload_n 0, 1) := by decide +kernel
theorem dJ9_min_7cf53_6 : decode cJ9_min_7cf53 6 = .ok (.goto 4, 3) := by decide +kernel
theorem dJ9_min_7cf53_9 : decode cJ9_min_7cf53 9 = .ok (.iload_n 1, 1) := by decide +kernel
theorem dJ9_min_7cf53_10 : decode cJ9_min_7cf53 10 = .ok (.ireturn, 1) := by decide +kernel
theorem dJ0_length_8abf5_0 : decode cJ0_length_8abf5 0 = .ok (.aload_n 0, 1) := by decide +kernel
theorem dJ0_length_8abf5_1 : decode cJ0_length_8abf5 1 = .ok (.getfield 9, 3) := by decide +kernel
theorem dJ0_length_8abf5_4 : decode cJ0_length_8abf5 4 = .ok (.arraylength, 1) := by decide +kernel
theorem dJ0_length_8abf5_5 : decode cJ0_length_8abf5 5 = .ok (.aload_n 0, 1) := by decide +kernel
theorem dJ0_length_8abf5_6 : decode cJ0_length_8abf5 6 = .ok (.invokevirtual 335, 3) := by decide +kernel
theorem dJ0_length_8abf5_9 : decode cJ0_length_8abf5 9 = .ok (.ishr, 1) := by decide +kernel
theorem dJ0_length_8abf5_10 : decode cJ0_length_8abf5 10 = .ok (.ireturn, 1) := by decide +kernel
theorem dJ0_charAt_5068e_0 : decode cJ0_charAt_5068e 0 = .ok (.aload_n 0, 1) := by decide +kernel
theorem dJ0_charAt_5068e_1 : decode cJ0_charAt_5068e 1 = .ok (.invokevirtual 492, 3) := by decide +kernel
theorem dJ0_charAt_5068e_4 : decode cJ0_charAt_5068e 4 = .ok (.ifCond .eq 12, 3) := by decide +kernel
theorem dJ0_charAt_5068e_7 : decode cJ0_charAt_5068e 7 = .ok (.aload_n 0, 1) := by decide +kernel
theorem dJ0_charAt_5068e_8 : decode cJ0_charAt_5068e 8 = .ok (.getfield 9, 3) := by decide +kernel
theorem dJ0_charAt_5068e_11 : decode cJ0_charAt_5068e 11 = .ok (.iload_n 1, 1) := by decide +kernel
theorem dJ0_charAt_5068e_12 : decode cJ0_charAt_5068e 12 = .ok (.invokestatic 495, 3) := by decide +kernel
theorem dJ0_charAt_5068e_15 : decode cJ0_charAt_5068e 15 = .ok (.ireturn, 1) := by decide +kernel
theorem dJ0_charAt_5068e_16 : decode cJ0_charAt_5068e 16 = .ok (.aload_n 0, 1) := by decide +kernel
theorem dJ0_charAt_5068e_17 : decode cJ0_charAt_5068e 17 = .ok (.getfield 9, 3) := by decide +kernel
theorem dJ0_charAt_5068e_20 : decode cJ0_charAt_5068e 20 = .ok (.iload_n 1, 1) := by decide +kernel
theorem dJ0_charAt_5068e_21 : decode cJ0_charAt_5068e 21 = .ok (.invokestatic 498, 3) := by decide +kernel
theorem dJ0_charAt_5068e_24 : decode cJ0_charAt_5068e 24 = .ok (.ireturn, 1) := by decide +kernel
theorem dJ0_indexOf_0f7a4_0 : decode cJ0_indexOf_0f7a4 0 = .ok (.aload_n 0, 1) := by decide +kernel
theorem dJ0_indexOf_0f7a4_1 : decode cJ0_indexOf_0f7a4 1 = .ok (.iload_n 1, 1) := by decide +kernel
theorem dJ0_indexOf_0f7a4_2 : decode cJ0_indexOf_0f7a4 2 = .ok (.iconst 0, 1) := by decide +kernel
theorem dJ0_indexOf_0f7a4_3 : decode cJ0_indexOf_0f7a4 3 = .ok (.invokevirtual 633, 3) := by decide +kernel
theorem dJ0_indexOf_0f7a4_6 : decode cJ0_indexOf_0f7a4 6 = .ok (.ireturn, 1) := by decide +kernel
theorem dJ0_indexOf_7cf53_0 : decode cJ0_indexOf_7cf53 0 = .ok (.aload_n 0, 1) := by decide +kernel
theorem dJ0_indexOf_7cf53_1 : decode cJ0_indexOf_7cf53 1 = .ok (.invokevirtual 492, 3) := by decide +kernel
theorem dJ0_indexOf_7cf53_4 : decode cJ0_indexOf_7cf53 4 = .ok (.ifCond .eq 19, 3) := by decide +kernel
theorem dJ0_indexOf_7cf53_7 : decode cJ0_indexOf_7cf53 7 = .ok (.aload_n 0, 1) := by decide +kernel
theorem dJ0_indexOf_7cf53_8 : decode cJ0_indexOf_7cf53 8 = .ok (.getfield 9, 3) := by decide +kernel
theorem dJ0_indexOf_7cf53_11 : decode cJ0_indexOf_7cf53 11 = .ok (.iload_n 1, 1) := by decide +kernel
theorem dJ0_indexOf_7cf53_12 : decode cJ0_indexOf_7cf53 12 = .ok (.iload_n 2, 1) := by decide +kernel
theorem dJ0_indexOf_7cf53_13 : decode cJ0_indexOf_7cf53 13 = .ok (.aload_n 0, 1) := by decide +kernel
theorem dJ0_indexOf_7cf53_14 : decode cJ0_indexOf_7cf53 14 = .ok (.invokevirtual 505, 3) := by decide +kernel
theorem dJ0_indexOf_7cf53_17 : decode cJ0_indexOf_7cf53 17 = .ok (.invokestatic 637, 3) := by decide +kernel
theorem dJ0_indexOf_7cf53_20 : decode cJ0_indexOf_7cf53 20 = .ok (.goto 16, 3) := by decide +kernel
theorem dJ0_indexOf_7cf53_23 : decode cJ0_indexOf_7cf53 23 = .ok (.aload_n 0, 1) := by decide +kernel
theorem dJ0_indexOf_7cf53_24 : decode cJ0_indexOf_7cf53 24 = .ok (.getfield 9, 3) := by decide +kernel
theorem dJ0_indexOf_7cf53_27 : decode cJ0_indexOf_7cf53 27 = .ok (.iload_n 1, 1) := by decide +kernel
theorem dJ0_indexOf_7cf53_28 : decode cJ0_indexOf_7cf53 28 = .ok (.iload_n 2, 1) := by decide +kernel
theorem dJ0_indexOf_7cf53_29 : decode cJ0_indexOf_7cf53 29 = .ok (.aload_n 0, 1) := by decide +kernel
theorem dJ0_indexOf_7cf53_30 : decode cJ0_indexOf_7cf53 30 = .ok (.invokevirtual 505, 3) := by decide +kernel
theorem dJ0_indexOf_7cf53_33 : decode cJ0_indexOf_7cf53 33 = .ok (.invokestatic 640, 3) := by decide +kernel
theorem dJ0_indexOf_7cf53_36 : decode cJ0_indexOf_7cf53 36 = .ok (.ireturn, 1) := by decide +kernel
theorem dJ0_coder_7d493_0 : decode cJ0_coder_7d493 0 = .ok (.getstatic 38, 3) := by decide +kernel
theorem dJ0_coder_7d493_3 : decode cJ0_coder_7d493 3 = .ok (.ifCond .eq 10, 3) := by decide +kernel
theorem dJ0_coder_7d493_6 : decode cJ0_coder_7d493 6 = .ok (.aload_n 0, 1) := by decide +kernel
theorem dJ0_coder_7d493_7 : decode cJ0_coder_7d493 7 = .ok (.getfield 15, 3) := by decide +kernel
theorem dJ0_coder_7d493_10 : decode cJ0_coder_7d493 10 = .ok (.goto 4, 3) := by decide +kernel
theorem dJ0_coder_7d493_13 : decode cJ0_coder_7d493 13 = .ok (.iconst 1, 1) := by decide +kernel
theorem dJ0_coder_7d493_14 : decode cJ0_coder_7d493 14 = .ok (.ireturn, 1) := by decide +kernel
theorem dJ0_isLatin1_aae02_0 : decode cJ0_isLatin1_aae02 0 = .ok (.getstatic 38, 3) := by decide +kernel
theorem dJ0_isLatin1_aae02_3 : decode cJ0_isLatin1_aae02 3 = .ok (.ifCond .eq 14, 3) := by decide +kernel
theorem dJ0_isLatin1_aae02_6 : decode cJ0_isLatin1_aae02 6 = .ok (.aload_n 0, 1) := by decide +kernel
theorem dJ0_isLatin1_aae02_7 : decode cJ0_isLatin1_aae02 7 = .ok (.getfield 15, 3) := by decide +kernel
theorem dJ0_isLatin1_aae02_10 : decode cJ0_isLatin1_aae02 10 = .ok (.ifCond .ne 7, 3) := by decide +kernel
theorem dJ0_isLatin1_aae02_13 : decode cJ0_isLatin1_aae02 13 = .ok (.iconst 1, 1) := by decide +kernel
theorem dJ0_isLatin1_aae02_14 : decode cJ0_isLatin1_aae02 14 = .ok (.goto 4, 3) := by decide +kernel
theorem dJ0_isLatin1_aae02_17 : decode cJ0_isLatin1_aae02 17 = .ok (.iconst 0, 1) := by decide +kernel
theorem dJ0_isLatin1_aae02_18 : decode cJ0_isLatin1_aae02 18 = .ok (.ireturn, 1) := by decide +kernel
theorem dJ0_checkIndex_df160_0 : decode cJ0_checkIndex_df160 0 = .ok (.iload_n 0, 1) := by decide +kernel
theorem dJ0_checkIndex_df160_1 : decode cJ0_checkIndex_df160 1 = .ok (.iload_n 1, 1) := by decide +kernel
theorem dJ0_checkIndex_df160_2 : decode cJ0_checkIndex_df160 2 = .ok (.getstatic 1053, 3) := by decide +kernel
theorem dJ0_checkIndex_df160_5 : decode cJ0_checkIndex_df160 5 = .ok (.invokestatic 1059, 3) := by decide +kernel
theorem dJ0_checkIndex_df160_8 : decode cJ0_checkIndex_df160 8 = .ok (.pop, 1) := by decide +kernel
theorem dJ0_checkIndex_df160_9 : decode cJ0_checkIndex_df160 9 = .ok (.return_, 1) := by decide +kernel
theorem dJ1_charAt_3b067_0 : decode cJ1_charAt_3b067 0 = .ok (.iload_n 1, 1) := by decide +kernel
theorem dJ1_charAt_3b067_1 : decode cJ1_charAt_3b067 1 = .ok (.aload_n 0, 1) := by decide +kernel
theorem dJ1_charAt_3b067_2 : decode cJ1_charAt_3b067 2 = .ok (.arraylength, 1) := by decide +kernel
theorem dJ1_charAt_3b067_3 : decode cJ1_charAt_3b067 3 = .ok (.invokestatic 9, 3) := by decide +kernel
theorem dJ1_charAt_3b067_6 : decode cJ1_charAt_3b067 6 = .ok (.aload_n 0, 1) := by decide +kernel
theorem dJ1_charAt_3b067_7 : decode cJ1_charAt_3b067 7 = .ok (.iload_n 1, 1) := by decide +kernel
theorem dJ1_charAt_3b067_8 : decode cJ1_charAt_3b067 8 = .ok (.baload, 1) := by decide +kernel
theorem dJ1_charAt_3b067_9 : decode cJ1_charAt_3b067 9 = .ok (.sipush 255, 3) := by decide +kernel
theorem dJ1_charAt_3b067_12 : decode cJ1_charAt_3b067 12 = .ok (.iand, 1) := by decide +kernel
theorem dJ1_charAt_3b067_13 : decode cJ1_charAt_3b067 13 = .ok (.i2c, 1) := by decide +kernel
theorem dJ1_charAt_3b067_14 : decode cJ1_charAt_3b067 14 = .ok (.ireturn, 1) := by decide +kernel
theorem dJ1_canEncode_9a6ad_0 : decode cJ1_canEncode_9a6ad 0 = .ok (.iload_n 0, 1) := by decide +kernel
theorem dJ1_canEncode_9a6ad_1 : decode cJ1_canEncode_9a6ad 1 = .ok (.ifCond .lt 14, 3) := by decide +kernel
theorem dJ1_canEncode_9a6ad_4 : decode cJ1_canEncode_9a6ad 4 = .ok (.iload_n 0, 1) := by decide +kernel
theorem dJ1_canEncode_9a6ad_5 : decode cJ1_canEncode_9a6ad 5 = .ok (.sipush 255, 3) := by decide +kernel
theorem dJ1_canEncode_9a6ad_8 : decode cJ1_canEncode_9a6ad 8 = .ok (.if_icmp .gt 7, 3) := by decide +kernel
theorem dJ1_canEncode_9a6ad_11 : decode cJ1_canEncode_9a6ad 11 = .ok (.iconst 1, 1) := by decide +kernel
theorem dJ1_canEncode_9a6ad_12 : decode cJ1_canEncode_9a6ad 12 = .ok (.goto 4, 3) := by decide +kernel
theorem dJ1_canEncode_9a6ad_15 : decode cJ1_canEncode_9a6ad 15 = .ok (.iconst 0, 1) := by decide +kernel
theorem dJ1_canEncode_9a6ad_16 : decode cJ1_canEncode_9a6ad 16 = .ok (.ireturn, 1) := by decide +kernel
theorem dJ1_indexOf_4cfef_0 : decode cJ1_indexOf_4cfef 0 = .ok (.iload_n 1, 1) := by decide +kernel
theorem dJ1_indexOf_4cfef_1 : decode cJ1_indexOf_4cfef 1 = .ok (.invokestatic 88, 3) := by decide +kernel
theorem dJ1_indexOf_4cfef_4 : decode cJ1_indexOf_4cfef 4 = .ok (.ifCond .ne 5, 3) := by decide +kernel
theorem dJ1_indexOf_4cfef_7 : decode cJ1_indexOf_4cfef 7 = .ok (.iconst (-1), 1) := by decide +kernel
theorem dJ1_indexOf_4cfef_8 : decode cJ1_indexOf_4cfef 8 = .ok (.ireturn, 1) := by decide +kernel
theorem dJ1_indexOf_4cfef_9 : decode cJ1_indexOf_4cfef 9 = .ok (.iload_n 2, 1) := by decide +kernel
theorem dJ1_indexOf_4cfef_10 : decode cJ1_indexOf_4cfef 10 = .ok (.iconst 0, 1) := by decide +kernel
theorem dJ1_indexOf_4cfef_11 : decode cJ1_indexOf_4cfef 11 = .ok (.invokestatic 92, 3) := by decide +kernel
theorem dJ1_indexOf_4cfef_14 : decode cJ1_indexOf_4cfef 14 = .ok (.istore_n 2, 1) := by decide +kernel
theorem dJ1_indexOf_4cfef_15 : decode cJ1_indexOf_4cfef 15 = .ok (.iload_n 3, 1) := by decide +kernel
theorem dJ1_indexOf_4cfef_16 : decode cJ1_indexOf_4cfef 16 = .ok (.aload_n 0, 1) := by decide +kernel
theorem dJ1_indexOf_4cfef_17 : decode cJ1_indexOf_4cfef 17 = .ok (.arraylength, 1) := by decide +kernel
theorem dJ1_indexOf_4cfef_18 : decode cJ1_indexOf_4cfef 18 = .ok (.invokestatic 38, 3) := by decide +kernel
theorem dJ1_indexOf_4cfef_21 : decode cJ1_indexOf_4cfef 21 = .ok (.istore_n 3, 1) := by decide +kernel
theorem dJ1_indexOf_4cfef_22 : decode cJ1_indexOf_4cfef 22 = .ok (.iload_n 2, 1) := by decide +kernel
theorem dJ1_indexOf_4cfef_23 : decode cJ1_indexOf_4cfef 23 = .ok (.iload_n 3, 1) := by decide +kernel
theorem dJ1_indexOf_4cfef_24 : decode cJ1_indexOf_4cfef 24 = .ok (.if_icmp .lt 5, 3) := by decide +kernel
theorem dJ1_indexOf_4cfef_27 : decode cJ1_indexOf_4cfef 27 = .ok (.iconst (-1), 1) := by decide +kernel
theorem dJ1_indexOf_4cfef_28 : decode cJ1_indexOf_4cfef 28 = .ok (.ireturn, 1) := by decide +kernel
theorem dJ1_indexOf_4cfef_29 : decode cJ1_indexOf_4cfef 29 = .ok (.aload_n 0, 1) := by decide +kernel
theorem dJ1_indexOf_4cfef_30 : decode cJ1_indexOf_4cfef 30 = .ok (.iload_n 1, 1) := by decide +kernel
theorem dJ1_indexOf_4cfef_31 : decode cJ1_indexOf_4cfef 31 = .ok (.iload_n 2, 1) := by decide +kernel
theorem dJ1_indexOf_4cfef_32 : decode cJ1_indexOf_4cfef 32 = .ok (.iload_n 3, 1) := by decide +kernel
theorem dJ1_indexOf_4cfef_33 : decode cJ1_indexOf_4cfef 33 = .ok (.invokestatic 95, 3) := by decide +kernel
theorem dJ1_indexOf_4cfef_36 : decode cJ1_indexOf_4cfef 36 = .ok (.ireturn, 1) := by decide +kernel
theorem dJ1_indexOfChar_4cfef_0 : decode cJ1_indexOfChar_4cfef 0 = .ok (.iload_n 1, 1) := by decide +kernel
theorem dJ1_indexOfChar_4cfef_1 : decode cJ1_indexOfChar_4cfef 1 = .ok (.i2b, 1) := by decide +kernel
theorem dJ1_indexOfChar_4cfef_2 : decode cJ1_indexOfChar_4cfef 2 = .ok (.istore 4, 2) := by decide +kernel
theorem dJ1_indexOfChar_4cfef_4 : decode cJ1_indexOfChar_4cfef 4 = .ok (.iload_n 2, 1) := by decide +kernel
theorem dJ1_indexOfChar_4cfef_5 : decode cJ1_indexOfChar_4cfef 5 = .ok (.istore 5, 2) := by decide +kernel
theorem dJ1_indexOfChar_4cfef_7 : decode cJ1_indexOfChar_4cfef 7 = .ok (.iload 5, 2) := by decide +kernel
theorem dJ1_indexOfChar_4cfef_9 : decode cJ1_indexOfChar_4cfef 9 = .ok (.iload_n 3, 1) := by decide +kernel
theorem dJ1_indexOfChar_4cfef_10 : decode cJ1_indexOfChar_4cfef 10 = .ok (.if_icmp .ge 21, 3) := by decide +kernel
theorem dJ1_indexOfChar_4cfef_13 : decode cJ1_indexOfChar_4cfef 13 = .ok (.aload_n 0, 1) := by decide +kernel
theorem dJ1_indexOfChar_4cfef_14 : decode cJ1_indexOfChar_4cfef 14 = .ok (.iload 5, 2) := by decide +kernel
theorem dJ1_indexOfChar_4cfef_16 : decode cJ1_indexOfChar_4cfef 16 = .ok (.baload, 1) := by decide +kernel
theorem dJ1_indexOfChar_4cfef_17 : decode cJ1_indexOfChar_4cfef 17 = .ok (.iload 4, 2) := by decide +kernel
theorem dJ1_indexOfChar_4cfef_19 : decode cJ1_indexOfChar_4cfef 19 = .ok (.if_icmp .ne 6, 3) := by decide +kernel
theorem dJ1_indexOfChar_4cfef_22 : decode cJ1_indexOfChar_4cfef 22 = .ok (.iload 5, 2) := by decide +kernel
theorem dJ1_indexOfChar_4cfef_24 : decode cJ1_indexOfChar_4cfef 24 = .ok (.ireturn, 1) := by decide +kernel
theorem dJ1_indexOfChar_4cfef_25 : decode cJ1_indexOfChar_4cfef 25 = .ok (.iinc 5 1, 3) := by decide +kernel
theorem dJ1_indexOfChar_4cfef_28 : decode cJ1_indexOfChar_4cfef 28 = .ok (.goto (-21), 3) := by decide +kernel
theorem dJ1_indexOfChar_4cfef_31 : decode cJ1_indexOfChar_4cfef 31 = .ok (.iconst (-1), 1) := by decide +kernel
theorem dJ1_indexOfChar_4cfef_32 : decode cJ1_indexOfChar_4cfef 32 = .ok (.ireturn, 1) := by decide +kernel
theorem dJ3_checkIndex_8e157_0 : decode cJ3_checkIndex_8e157 0 = .ok (.iload_n 0, 1) := by decide +kernel
theorem dJ3_checkIndex_8e157_1 : decode cJ3_checkIndex_8e157 1 = .ok (.ifCond .lt 8, 3) := by decide +kernel
theorem dJ3_checkIndex_8e157_4 : decode cJ3_checkIndex_8e157 4 = .ok (.iload_n 0, 1) := by decide +kernel
theorem dJ3_checkIndex_8e157_5 : decode cJ3_checkIndex_8e157 5 = .ok (.iload_n 1, 1) := by decide +kernel
theorem dJ3_checkIndex_8e157_6 : decode cJ3_checkIndex_8e157 6 = .ok (.if_icmp .lt 10, 3) := by decide +kernel
theorem dJ3_checkIndex_8e157_9 : decode cJ3_checkIndex_8e157 9 = .ok (.aload_n 2, 1) := by decide +kernel
theorem dJ3_checkIndex_8e157_10 : decode cJ3_checkIndex_8e157 10 = .ok (.iload_n 0, 1) := by decide +kernel
theorem dJ3_checkIndex_8e157_11 : decode cJ3_checkIndex_8e157 11 = .ok (.iload_n 1, 1) := by decide +kernel
theorem dJ3_checkIndex_8e157_12 : decode cJ3_checkIndex_8e157 12 = .ok (.invokestatic 95, 3) := by decide +kernel
theorem dJ3_checkIndex_8e157_15 : decode cJ3_checkIndex_8e157 15 = .ok (.athrow, 1) := by decide +kernel
theorem dJ3_checkIndex_8e157_16 : decode cJ3_checkIndex_8e157 16 = .ok (.iload_n 0, 1) := by decide +kernel
theorem dJ3_checkIndex_8e157_17 : decode cJ3_checkIndex_8e157 17 = .ok (.ireturn, 1) := by decide +kernel
end
section
theorem dX6_init_0 : decode cX6_init 0 = .ok (.aload_n 0, 1) := by decide +kernel
theorem dX6_init_1 : decode cX6_init 1 = .ok (.invokespecial 3, 3) := by decide +kernel
theorem dX6_init_4 : decode cX6_init 4 = .ok (.aload_n 0, 1) := by decide +kernel
theorem dX6_init_5 : decode cX6_init 5 = .ok (.new 9, 3) := by decide +kernel
theorem dX6_init_8 : decode cX6_init 8 = .ok (.dup, 1) := by decide +kernel
theorem dX6_init_9 : decode cX6_init 9 = .ok (.invokespecial 11, 3) := by decide +kernel
theorem dX6_init_12 : decode cX6_init 12 = .ok (.putfield 12, 3) := by decide +kernel
theorem dX6_init_15 : decode cX6_init 15 = .ok (.aload_n 0, 1) := by decide +kernel
theorem dX6_init_16 : decode cX6_init 16 = .ok (.new 16, 3) := by decide +kernel
theorem dX6_init_19 : decode cX6_init 19 = .ok (.dup, 1) := by decide +kernel
theorem dX6_init_20 : decode cX6_init 20 = .ok (.invokespecial 18, 3) := by decide +kernel
theorem dX6_init_23 : decode cX6_init 23 = .ok (.putfield 19, 3) := by decide +kernel
theorem dX6_init_26 : decode cX6_init 26 = .ok (.aload_n 0, 1) := by decide +kernel
theorem dX6_init_27 : decode cX6_init 27 = .ok (.new 23, 3) := by decide +kernel
theorem dX6_init_30 : decode cX6_init 30 = .ok (.dup, 1) := by decide +kernel
theorem dX6_init_31 : decode cX6_init 31 = .ok (.invokespecial 25, 3) := by decide +kernel
theorem dX6_init_34 : decode cX6_init 34 = .ok (.putfield 26, 3) := by decide +kernel
theorem dX6_init_37 : decode cX6_init 37 = .ok (.aload_n 0, 1) := by decide +kernel
theorem dX6_init_38 : decode cX6_init 38 = .ok (.new 30, 3) := by decide +kernel
theorem dX6_init_41 : decode cX6_init 41 = .ok (.dup, 1) := by decide +kernel
theorem dX6_init_42 : decode cX6_init 42 = .ok (.invokespecial 32, 3) := by decide +kernel
theorem dX6_init_45 : decode cX6_init 45 = .ok (.putfield 33, 3) := by decide +kernel
theorem dX6_init_48 : decode cX6_init 48 = .ok (.aload_n 0, 1) := by decide +kernel
theorem dX6_init_49 : decode cX6_init 49 = .ok (.new 37, 3) := by decide +kernel
theorem dX6_init_52 : decode cX6_init 52 = .ok (.dup, 1) := by decide +kernel
theorem dX6_init_53 : decode cX6_init 53 = .ok (.invokespecial 39, 3) := by decide +kernel
theorem dX6_init_56 : decode cX6_init 56 = .ok (.putfield 40, 3) := by decide +kernel
theorem dX6_init_59 : decode cX6_init 59 = .ok (.return_, 1) := by decide +kernel
theorem dX6_line_0 : decode cX6_line 0 = .ok (.iload_n 1, 1) := by decide +kernel
theorem dX6_line_1 : decode cX6_line 1 = .ok (.iconst 0, 1) := by decide +kernel
theorem dX6_line_2 : decode cX6_line 2 = .ok (.iconst 2, 1) := by decide +kernel
theorem dX6_line_3 : decode cX6_line 3 = .ok (.invokestatic 44, 3) := by decide +kernel
theorem dX6_line_6 : decode cX6_line 6 = .ok (.ifCond .ne 12, 3) := by decide +kernel
theorem dX6_line_9 : decode cX6_line 9 = .ok (.iload_n 2, 1) := by decide +kernel
theorem dX6_line_10 : decode cX6_line 10 = .ok (.iconst 0, 1) := by decide +kernel
theorem dX6_line_11 : decode cX6_line 11 = .ok (.iconst 3, 1) := by decide +kernel
theorem dX6_line_12 : decode cX6_line 12 = .ok (.invokestatic 44, 3) := by decide +kernel
theorem dX6_line_15 : decode cX6_line 15 = .ok (.ifCond .eq 5, 3) := by decide +kernel
theorem dX6_line_18 : decode cX6_line 18 = .ok (.iconst (-1), 1) := by decide +kernel
theorem dX6_line_19 : decode cX6_line 19 = .ok (.ireturn, 1) := by decide +kernel
theorem dX6_line_20 : decode cX6_line 20 = .ok (.iload_n 3, 1) := by decide +kernel
theorem dX6_line_21 : decode cX6_line 21 = .ok (.iconst 0, 1) := by decide +kernel
theorem dX6_line_22 : decode cX6_line 22 = .ok (.bipush 24, 2) := by decide +kernel
theorem dX6_line_24 : decode cX6_line 24 = .ok (.invokestatic 44, 3) := by decide +kernel
theorem dX6_line_27 : decode cX6_line 27 = .ok (.ifCond .ne 14, 3) := by decide +kernel
theorem dX6_line_30 : decode cX6_line 30 = .ok (.iload 4, 2) := by decide +kernel
theorem dX6_line_32 : decode cX6_line 32 = .ok (.iconst 0, 1) := by decide +kernel
theorem dX6_line_33 : decode cX6_line 33 = .ok (.bipush 24, 2) := by decide +kernel
theorem dX6_line_35 : decode cX6_line 35 = .ok (.invokestatic 44, 3) := by decide +kernel
theorem dX6_line_38 : decode cX6_line 38 = .ok (.ifCond .eq 5, 3) := by decide +kernel
theorem dX6_line_41 : decode cX6_line 41 = .ok (.iconst (-1), 1) := by decide +kernel
theorem dX6_line_42 : decode cX6_line 42 = .ok (.ireturn, 1) := by decide +kernel
theorem dX6_line_43 : decode cX6_line 43 = .ok (.aload_n 0, 1) := by decide +kernel
theorem dX6_line_44 : decode cX6_line 44 = .ok (.getfield 12, 3) := by decide +kernel
theorem dX6_line_47 : decode cX6_line 47 = .ok (.iload_n 1, 1) := by decide +kernel
theorem dX6_line_48 : decode cX6_line 48 = .ok (.iload_n 2, 1) := by decide +kernel
theorem dX6_line_49 : decode cX6_line 49 = .ok (.iload_n 3, 1) := by decide +kernel
theorem dX6_line_50 : decode cX6_line 50 = .ok (.iload 4, 2) := by decide +kernel
theorem dX6_line_52 : decode cX6_line 52 = .ok (.invokevirtual 48, 3) := by decide +kernel
theorem dX6_line_55 : decode cX6_line 55 = .ok (.ireturn, 1) := by decide +kernel
theorem dX6_wipe_0 : decode cX6_wipe 0 = .ok (.aload_n 0, 1) := by decide +kernel
theorem dX6_wipe_1 : decode cX6_wipe 1 = .ok (.getfield 12, 3) := by decide +kernel
theorem dX6_wipe_4 : decode cX6_wipe 4 = .ok (.invokevirtual 52, 3) := by decide +kernel
theorem dX6_wipe_7 : decode cX6_wipe 7 = .ok (.ireturn, 1) := by decide +kernel
theorem dX6_set_0 : decode cX6_set 0 = .ok (.iload_n 1, 1) := by decide +kernel
theorem dX6_set_1 : decode cX6_set 1 = .ok (.iconst 0, 1) := by decide +kernel
theorem dX6_set_2 : decode cX6_set 2 = .ok (.iconst 3, 1) := by decide +kernel
theorem dX6_set_3 : decode cX6_set 3 = .ok (.invokestatic 44, 3) := by decide +kernel
theorem dX6_set_6 : decode cX6_set 6 = .ok (.ifCond .ne 14, 3) := by decide +kernel
theorem dX6_set_9 : decode cX6_set 9 = .ok (.iload_n 2, 1) := by decide +kernel
theorem dX6_set_10 : decode cX6_set 10 = .ok (.iconst 0, 1) := by decide +kernel
theorem dX6_set_11 : decode cX6_set 11 = .ok (.sipush 1000, 3) := by decide +kernel
theorem dX6_set_14 : decode cX6_set 14 = .ok (.invokestatic 44, 3) := by decide +kernel
theorem dX6_set_17 : decode cX6_set 17 = .ok (.ifCond .eq 5, 3) := by decide +kernel
theorem dX6_set_20 : decode cX6_set 20 = .ok (.iconst (-1), 1) := by decide +kernel
theorem dX6_set_21 : decode cX6_set 21 = .ok (.ireturn, 1) := by decide +kernel
theorem dX6_set_22 : decode cX6_set 22 = .ok (.aload_n 0, 1) := by decide +kernel
theorem dX6_set_23 : decode cX6_set 23 = .ok (.getfield 12, 3) := by decide +kernel
theorem dX6_set_26 : decode cX6_set 26 = .ok (.iload_n 1, 1) := by decide +kernel
theorem dX6_set_27 : decode cX6_set 27 = .ok (.iload_n 2, 1) := by decide +kernel
theorem dX6_set_28 : decode cX6_set 28 = .ok (.invokevirtual 56, 3) := by decide +kernel
theorem dX6_set_31 : decode cX6_set 31 = .ok (.ireturn, 1) := by decide +kernel
theorem dX6_counter_0 : decode cX6_counter 0 = .ok (.iload_n 1, 1) := by decide +kernel
theorem dX6_counter_1 : decode cX6_counter 1 = .ok (.iconst 0, 1) := by decide +kernel
theorem dX6_counter_2 : decode cX6_counter 2 = .ok (.iconst 3, 1) := by decide +kernel
theorem dX6_counter_3 : decode cX6_counter 3 = .ok (.invokestatic 44, 3) := by decide +kernel
theorem dX6_counter_6 : decode cX6_counter 6 = .ok (.ifCond .eq 5, 3) := by decide +kernel
theorem dX6_counter_9 : decode cX6_counter 9 = .ok (.iconst (-1), 1) := by decide +kernel
theorem dX6_counter_10 : decode cX6_counter 10 = .ok (.ireturn, 1) := by decide +kernel
theorem dX6_counter_11 : decode cX6_counter 11 = .ok (.aload_n 0, 1) := by decide +kernel
theorem dX6_counter_12 : decode cX6_counter 12 = .ok (.getfield 12, 3) := by decide +kernel
theorem dX6_counter_15 : decode cX6_counter 15 = .ok (.iload_n 1, 1) := by decide +kernel
theorem dX6_counter_16 : decode cX6_counter 16 = .ok (.invokevirtual 60, 3) := by decide +kernel
theorem dX6_counter_19 : decode cX6_counter 19 = .ok (.ireturn, 1) := by decide +kernel
theorem dX6_count_0 : decode cX6_count 0 = .ok (.iload_n 1, 1) := by decide +kernel
theorem dX6_count_1 : decode cX6_count 1 = .ok (.iconst 1, 1) := by decide +kernel
theorem dX6_count_2 : decode cX6_count 2 = .ok (.sipush 5000, 3) := by decide +kernel
theorem dX6_count_5 : decode cX6_count 5 = .ok (.invokestatic 44, 3) := by decide +kernel
theorem dX6_count_8 : decode cX6_count 8 = .ok (.ifCond .eq 5, 3) := by decide +kernel
theorem dX6_count_11 : decode cX6_count 11 = .ok (.iconst (-1), 1) := by decide +kernel
theorem dX6_count_12 : decode cX6_count 12 = .ok (.ireturn, 1) := by decide +kernel
theorem dX6_count_13 : decode cX6_count 13 = .ok (.aload_n 0, 1) := by decide +kernel
theorem dX6_count_14 : decode cX6_count 14 = .ok (.getfield 12, 3) := by decide +kernel
theorem dX6_count_17 : decode cX6_count 17 = .ok (.iload_n 1, 1) := by decide +kernel
theorem dX6_count_18 : decode cX6_count 18 = .ok (.invokevirtual 64, 3) := by decide +kernel
theorem dX6_count_21 : decode cX6_count 21 = .ok (.ireturn, 1) := by decide +kernel
theorem dX6_at_0 : decode cX6_at 0 = .ok (.aload_n 0, 1) := by decide +kernel
theorem dX6_at_1 : decode cX6_at 1 = .ok (.getfield 12, 3) := by decide +kernel
theorem dX6_at_4 : decode cX6_at 4 = .ok (.invokevirtual 67, 3) := by decide +kernel
theorem dX6_at_7 : decode cX6_at 7 = .ok (.ireturn, 1) := by decide +kernel
theorem dX6_go_0 : decode cX6_go 0 = .ok (.iload_n 1, 1) := by decide +kernel
theorem dX6_go_1 : decode cX6_go 1 = .ok (.iconst 0, 1) := by decide +kernel
theorem dX6_go_2 : decode cX6_go 2 = .ok (.bipush 24, 2) := by decide +kernel
theorem dX6_go_4 : decode cX6_go 4 = .ok (.invokestatic 44, 3) := by decide +kernel
theorem dX6_go_7 : decode cX6_go 7 = .ok (.ifCond .eq 5, 3) := by decide +kernel
theorem dX6_go_10 : decode cX6_go 10 = .ok (.iconst (-1), 1) := by decide +kernel
theorem dX6_go_11 : decode cX6_go 11 = .ok (.ireturn, 1) := by decide +kernel
theorem dX6_go_12 : decode cX6_go 12 = .ok (.aload_n 0, 1) := by decide +kernel
theorem dX6_go_13 : decode cX6_go 13 = .ok (.getfield 12, 3) := by decide +kernel
theorem dX6_go_16 : decode cX6_go 16 = .ok (.iload_n 1, 1) := by decide +kernel
theorem dX6_go_17 : decode cX6_go 17 = .ok (.invokevirtual 70, 3) := by decide +kernel
theorem dX6_go_20 : decode cX6_go 20 = .ok (.ireturn, 1) := by decide +kernel
theorem dX6_rule_0 : decode cX6_rule 0 = .ok (.iload_n 1, 1) := by decide +kernel
theorem dX6_rule_1 : decode cX6_rule 1 = .ok (.iconst 0, 1) := by decide +kernel
theorem dX6_rule_2 : decode cX6_rule 2 = .ok (.iconst 2, 1) := by decide +kernel
theorem dX6_rule_3 : decode cX6_rule 3 = .ok (.invokestatic 44, 3) := by decide +kernel
theorem dX6_rule_6 : decode cX6_rule 6 = .ok (.ifCond .ne 21, 3) := by decide +kernel
theorem dX6_rule_9 : decode cX6_rule 9 = .ok (.iload_n 2, 1) := by decide +kernel
theorem dX6_rule_10 : decode cX6_rule 10 = .ok (.iconst 0, 1) := by decide +kernel
theorem dX6_rule_11 : decode cX6_rule 11 = .ok (.iconst 1, 1) := by decide +kernel
theorem dX6_rule_12 : decode cX6_rule 12 = .ok (.invokestatic 44, 3) := by decide +kernel
theorem dX6_rule_15 : decode cX6_rule 15 = .ok (.ifCond .ne 12, 3) := by decide +kernel
theorem dX6_rule_18 : decode cX6_rule 18 = .ok (.iload_n 3, 1) := by decide +kernel
theorem dX6_rule_19 : decode cX6_rule 19 = .ok (.iconst 0, 1) := by decide +kernel
theorem dX6_rule_20 : decode cX6_rule 20 = .ok (.iconst 1, 1) := by decide +kernel
theorem dX6_rule_21 : decode cX6_rule 21 = .ok (.invokestatic 44, 3) := by decide +kernel
theorem dX6_rule_24 : decode cX6_rule 24 = .ok (.ifCond .eq 5, 3) := by decide +kernel
theorem dX6_rule_27 : decode cX6_rule 27 = .ok (.iconst (-1), 1) := by decide +kernel
theorem dX6_rule_28 : decode cX6_rule 28 = .ok (.ireturn, 1) := by decide +kernel
theorem dX6_rule_29 : decode cX6_rule 29 = .ok (.iload 4, 2) := by decide +kernel
theorem dX6_rule_31 : decode cX6_rule 31 = .ok (.iconst 0, 1) := by decide +kernel
theorem dX6_rule_32 : decode cX6_rule 32 = .ok (.iconst 1, 1) := by decide +kernel
theorem dX6_rule_33 : decode cX6_rule 33 = .ok (.invokestatic 44, 3) := by decide +kernel
theorem dX6_rule_36 : decode cX6_rule 36 = .ok (.ifCond .ne 13, 3) := by decide +kernel
theorem dX6_rule_39 : decode cX6_rule 39 = .ok (.iload 5, 2) := by decide +kernel
theorem dX6_rule_41 : decode cX6_rule 41 = .ok (.iconst 0, 1) := by decide +kernel
theorem dX6_rule_42 : decode cX6_rule 42 = .ok (.iconst 2, 1) := by decide +kernel
theorem dX6_rule_43 : decode cX6_rule 43 = .ok (.invokestatic 44, 3) := by decide +kernel
theorem dX6_rule_46 : decode cX6_rule 46 = .ok (.ifCond .eq 5, 3) := by decide +kernel
theorem dX6_rule_49 : decode cX6_rule 49 = .ok (.iconst (-1), 1) := by decide +kernel
theorem dX6_rule_50 : decode cX6_rule 50 = .ok (.ireturn, 1) := by decide +kernel
theorem dX6_rule_51 : decode cX6_rule 51 = .ok (.iload_n 1, 1) := by decide +kernel
theorem dX6_rule_52 : decode cX6_rule 52 = .ok (.iload_n 2, 1) := by decide +kernel
theorem dX6_rule_53 : decode cX6_rule 53 = .ok (.invokestatic 73, 3) := by decide +kernel
theorem dX6_rule_56 : decode cX6_rule 56 = .ok (.istore 6, 2) := by decide +kernel
theorem dX6_rule_58 : decode cX6_rule 58 = .ok (.aload_n 0, 1) := by decide +kernel
theorem dX6_rule_59 : decode cX6_rule 59 = .ok (.getfield 26, 3) := by decide +kernel
theorem dX6_rule_62 : decode cX6_rule 62 = .ok (.iload 6, 2) := by decide +kernel
theorem dX6_rule_64 : decode cX6_rule 64 = .ok (.iload_n 3, 1) := by decide +kernel
theorem dX6_rule_65 : decode cX6_rule 65 = .ok (.iload 4, 2) := by decide +kernel
theorem dX6_rule_67 : decode cX6_rule 67 = .ok (.iload 5, 2) := by decide +kernel
theorem dX6_rule_69 : decode cX6_rule 69 = .ok (.invokevirtual 76, 3) := by decide +kernel
theorem dX6_rule_72 : decode cX6_rule 72 = .ok (.aload_n 0, 1) := by decide +kernel
theorem dX6_rule_73 : decode cX6_rule 73 = .ok (.getfield 19, 3) := by decide +kernel
theorem dX6_rule_76 : decode cX6_rule 76 = .ok (.iload 6, 2) := by decide +kernel
theorem dX6_rule_78 : decode cX6_rule 78 = .ok (.iload_n 3, 1) := by decide +kernel
theorem dX6_rule_79 : decode cX6_rule 79 = .ok (.iload 4, 2) := by decide +kernel
theorem dX6_rule_81 : decode cX6_rule 81 = .ok (.iload 5, 2) := by decide +kernel
theorem dX6_rule_83 : decode cX6_rule 83 = .ok (.invokevirtual 80, 3) := by decide +kernel
theorem dX6_rule_86 : decode cX6_rule 86 = .ok (.ireturn, 1) := by decide +kernel
theorem dX6_unrule_0 : decode cX6_unrule 0 = .ok (.iload_n 1, 1) := by decide +kernel
theorem dX6_unrule_1 : decode cX6_unrule 1 = .ok (.iconst 0, 1) := by decide +kernel
theorem dX6_unrule_2 : decode cX6_unrule 2 = .ok (.iconst 2, 1) := by decide +kernel
theorem dX6_unrule_3 : decode cX6_unrule 3 = .ok (.invokestatic 44, 3) := by decide +kernel
theorem dX6_unrule_6 : decode cX6_unrule 6 = .ok (.ifCond .ne 12, 3) := by decide +kernel
theorem dX6_unrule_9 : decode cX6_unrule 9 = .ok (.iload_n 2, 1) := by decide +kernel
theorem dX6_unrule_10 : decode cX6_unrule 10 = .ok (.iconst 0, 1) := by decide +kernel
theorem dX6_unrule_11 : decode cX6_unrule 11 = .ok (.iconst 1, 1) := by decide +kernel
theorem dX6_unrule_12 : decode cX6_unrule 12 = .ok (.invokestatic 44, 3) := by decide +kernel
theorem dX6_unrule_15 : decode cX6_unrule 15 = .ok (.ifCond .eq 5, 3) := by decide +kernel
theorem dX6_unrule_18 : decode cX6_unrule 18 = .ok (.iconst (-1), 1) := by decide +kernel
theorem dX6_unrule_19 : decode cX6_unrule 19 = .ok (.ireturn, 1) := by decide +kernel
theorem dX6_unrule_20 : decode cX6_unrule 20 = .ok (.iload_n 1, 1) := by decide +kernel
theorem dX6_unrule_21 : decode cX6_unrule 21 = .ok (.iload_n 2, 1) := by decide +kernel
theorem dX6_unrule_22 : decode cX6_unrule 22 = .ok (.invokestatic 73, 3) := by decide +kernel
theorem dX6_unrule_25 : decode cX6_unrule 25 = .ok (.istore_n 3, 1) := by decide +kernel
theorem dX6_unrule_26 : decode cX6_unrule 26 = .ok (.aload_n 0, 1) := by decide +kernel
theorem dX6_unrule_27 : decode cX6_unrule 27 = .ok (.getfield 26, 3) := by decide +kernel
theorem dX6_unrule_30 : decode cX6_unrule 30 = .ok (.iload_n 3, 1) := by decide +kernel
theorem dX6_unrule_31 : decode cX6_unrule 31 = .ok (.invokevirtual 83, 3) := by decide +kernel
theorem dX6_unrule_34 : decode cX6_unrule 34 = .ok (.aload_n 0, 1) := by decide +kernel
theorem dX6_unrule_35 : decode cX6_unrule 35 = .ok (.getfield 19, 3) := by decide +kernel
theorem dX6_unrule_38 : decode cX6_unrule 38 = .ok (.iload_n 3, 1) := by decide +kernel
theorem dX6_unrule_39 : decode cX6_unrule 39 = .ok (.invokevirtual 87, 3) := by decide +kernel
theorem dX6_unrule_42 : decode cX6_unrule 42 = .ok (.ireturn, 1) := by decide +kernel
theorem dX6_place_0 : decode cX6_place 0 = .ok (.iload_n 1, 1) := by decide +kernel
theorem dX6_place_1 : decode cX6_place 1 = .ok (.iconst 0, 1) := by decide +kernel
theorem dX6_place_2 : decode cX6_place 2 = .ok (.iconst 2, 1) := by decide +kernel
theorem dX6_place_3 : decode cX6_place 3 = .ok (.invokestatic 44, 3) := by decide +kernel
theorem dX6_place_6 : decode cX6_place 6 = .ok (.ifCond .ne 12, 3) := by decide +kernel
theorem dX6_place_9 : decode cX6_place 9 = .ok (.iload_n 2, 1) := by decide +kernel
theorem dX6_place_10 : decode cX6_place 10 = .ok (.iconst 0, 1) := by decide +kernel
theorem dX6_place_11 : decode cX6_place 11 = .ok (.iconst 1, 1) := by decide +kernel
theorem dX6_place_12 : decode cX6_place 12 = .ok (.invokestatic 44, 3) := by decide +kernel
theorem dX6_place_15 : decode cX6_place 15 = .ok (.ifCond .eq 5, 3) := by decide +kernel
theorem dX6_place_18 : decode cX6_place 18 = .ok (.iconst (-1), 1) := by decide +kernel
theorem dX6_place_19 : decode cX6_place 19 = .ok (.ireturn, 1) := by decide +kernel
theorem dX6_place_20 : decode cX6_place 20 = .ok (.iload_n 3, 1) := by decide +kernel
theorem dX6_place_21 : decode cX6_place 21 = .ok (.iconst 0, 1) := by decide +kernel
theorem dX6_place_22 : decode cX6_place 22 = .ok (.ldc 90, 2) := by decide +kernel
theorem dX6_place_24 : decode cX6_place 24 = .ok (.invokestatic 44, 3) := by decide +kernel
theorem dX6_place_27 : decode cX6_place 27 = .ok (.ifCond .ne 14, 3) := by decide +kernel
theorem dX6_place_30 : decode cX6_place 30 = .ok (.iload 4, 2) := by decide +kernel
theorem dX6_place_32 : decode cX6_place 32 = .ok (.iconst 0, 1) := by decide +kernel
theorem dX6_place_33 : decode cX6_place 33 = .ok (.ldc 90, 2) := by decide +kernel
theorem dX6_place_35 : decode cX6_place 35 = .ok (.invokestatic 44, 3) := by decide +kernel
theorem dX6_place_38 : decode cX6_place 38 = .ok (.ifCond .eq 5, 3) := by decide +kernel
theorem dX6_place_41 : decode cX6_place 41 = .ok (.iconst (-1), 1) := by decide +kernel
theorem dX6_place_42 : decode cX6_place 42 = .ok (.ireturn, 1) := by decide +kernel
theorem dX6_place_43 : decode cX6_place 43 = .ok (.aload_n 0, 1) := by decide +kernel
theorem dX6_place_44 : decode cX6_place 44 = .ok (.getfield 19, 3) := by decide +kernel
theorem dX6_place_47 : decode cX6_place 47 = .ok (.iload_n 1, 1) := by decide +kernel
theorem dX6_place_48 : decode cX6_place 48 = .ok (.iload_n 2, 1) := by decide +kernel
theorem dX6_place_49 : decode cX6_place 49 = .ok (.iload_n 3, 1) := by decide +kernel
theorem dX6_place_50 : decode cX6_place 50 = .ok (.iload 4, 2) := by decide +kernel
theorem dX6_place_52 : decode cX6_place 52 = .ok (.invokevirtual 91, 3) := by decide +kernel
theorem dX6_place_55 : decode cX6_place 55 = .ok (.iconst 1, 1) := by decide +kernel
theorem dX6_place_56 : decode cX6_place 56 = .ok (.ireturn, 1) := by decide +kernel
theorem dX6_move_0 : decode cX6_move 0 = .ok (.iload_n 1, 1) := by decide +kernel
theorem dX6_move_1 : decode cX6_move 1 = .ok (.iconst 1, 1) := by decide +kernel
theorem dX6_move_2 : decode cX6_move 2 = .ok (.sipush 5000, 3) := by decide +kernel
theorem dX6_move_5 : decode cX6_move 5 = .ok (.invokestatic 44, 3) := by decide +kernel
theorem dX6_move_8 : decode cX6_move 8 = .ok (.ifCond .eq 5, 3) := by decide +kernel
theorem dX6_move_11 : decode cX6_move 11 = .ok (.iconst (-1), 1) := by decide +kernel
theorem dX6_move_12 : decode cX6_move 12 = .ok (.ireturn, 1) := by decide +kernel
theorem dX6_move_13 : decode cX6_move 13 = .ok (.aload_n 0, 1) := by decide +kernel
theorem dX6_move_14 : decode cX6_move 14 = .ok (.getfield 19, 3) := by decide +kernel
theorem dX6_move_17 : decode cX6_move 17 = .ok (.iload_n 1, 1) := by decide +kernel
theorem dX6_move_18 : decode cX6_move 18 = .ok (.invokevirtual 94, 3) := by decide +kernel
theorem dX6_move_21 : decode cX6_move 21 = .ok (.ireturn, 1) := by decide +kernel
theorem dX6_where_0 : decode cX6_where 0 = .ok (.iload_n 1, 1) := by decide +kernel
theorem dX6_where_1 : decode cX6_where 1 = .ok (.tableswitch 78 0 4 #[35, 43, 51, 59, 67], 35) := by decide +kernel
theorem dX6_where_36 : decode cX6_where 36 = .ok (.aload_n 0, 1) := by decide +kernel
theorem dX6_where_37 : decode cX6_where 37 = .ok (.getfield 19, 3) := by decide +kernel
theorem dX6_where_40 : decode cX6_where 40 = .ok (.getfield 97, 3) := by decide +kernel
theorem dX6_where_43 : decode cX6_where 43 = .ok (.ireturn, 1) := by decide +kernel
theorem dX6_where_44 : decode cX6_where 44 = .ok (.aload_n 0, 1) := by decide +kernel
theorem dX6_where_45 : decode cX6_where 45 = .ok (.getfield 19, 3) := by decide +kernel
theorem dX6_where_48 : decode cX6_where 48 = .ok (.getfield 101, 3) := by decide +kernel
theorem dX6_where_51 : decode cX6_where 51 = .ok (.ireturn, 1) := by decide +kernel
theorem dX6_where_52 : decode cX6_where 52 = .ok (.aload_n 0, 1) := by decide +kernel
theorem dX6_where_53 : decode cX6_where 53 = .ok (.getfield 19, 3) := by decide +kernel
theorem dX6_where_56 : decode cX6_where 56 = .ok (.getfield 104, 3) := by decide +kernel
theorem dX6_where_59 : decode cX6_where 59 = .ok (.ireturn, 1) := by decide +kernel
theorem dX6_where_60 : decode cX6_where 60 = .ok (.aload_n 0, 1) := by decide +kernel
theorem dX6_where_61 : decode cX6_where 61 = .ok (.getfield 19, 3) := by decide +kernel
theorem dX6_where_64 : decode cX6_where 64 = .ok (.getfield 107, 3) := by decide +kernel
theorem dX6_where_67 : decode cX6_where 67 = .ok (.ireturn, 1) := by decide +kernel
theorem dX6_where_68 : decode cX6_where 68 = .ok (.aload_n 0, 1) := by decide +kernel
theorem dX6_where_69 : decode cX6_where 69 = .ok (.getfield 19, 3) := by decide +kernel
theorem dX6_where_72 : decode cX6_where 72 = .ok (.invokevirtual 110, 3) := by decide +kernel
theorem dX6_where_75 : decode cX6_where 75 = .ok (.invokestatic 114, 3) := by decide +kernel
theorem dX6_where_78 : decode cX6_where 78 = .ok (.ireturn, 1) := by decide +kernel
theorem dX6_where_79 : decode cX6_where 79 = .ok (.iconst (-1), 1) := by decide +kernel
theorem dX6_where_80 : decode cX6_where 80 = .ok (.ireturn, 1) := by decide +kernel
theorem dX6_production_0 : decode cX6_production 0 = .ok (.iload_n 1, 1) := by decide +kernel
theorem dX6_production_1 : decode cX6_production 1 = .ok (.iconst 0, 1) := by decide +kernel
theorem dX6_production_2 : decode cX6_production 2 = .ok (.bipush 120, 2) := by decide +kernel
theorem dX6_production_4 : decode cX6_production 4 = .ok (.invokestatic 44, 3) := by decide +kernel
theorem dX6_production_7 : decode cX6_production 7 = .ok (.ifCond .eq 5, 3) := by decide +kernel
theorem dX6_production_10 : decode cX6_production 10 = .ok (.iconst (-1), 1) := by decide +kernel
theorem dX6_production_11 : decode cX6_production 11 = .ok (.ireturn, 1) := by decide +kernel
theorem dX6_production_12 : decode cX6_production 12 = .ok (.aload_n 0, 1) := by decide +kernel
theorem dX6_production_13 : decode cX6_production 13 = .ok (.getfield 26, 3) := by decide +kernel
theorem dX6_production_16 : decode cX6_production 16 = .ok (.iload_n 1, 1) := by decide +kernel
theorem dX6_production_17 : decode cX6_production 17 = .ok (.iload_n 2, 1) := by decide +kernel
theorem dX6_production_18 : decode cX6_production 18 = .ok (.invokevirtual 118, 3) := by decide +kernel
theorem dX6_production_21 : decode cX6_production 21 = .ok (.ireturn, 1) := by decide +kernel
theorem dX6_lay_0 : decode cX6_lay 0 = .ok (.aload_n 0, 1) := by decide +kernel
theorem dX6_lay_1 : decode cX6_lay 1 = .ok (.getfield 33, 3) := by decide +kernel
theorem dX6_lay_4 : decode cX6_lay 4 = .ok (.aload_n 0, 1) := by decide +kernel
theorem dX6_lay_5 : decode cX6_lay 5 = .ok (.getfield 19, 3) := by decide +kernel
theorem dX6_lay_8 : decode cX6_lay 8 = .ok (.getfield 97, 3) := by decide +kernel
theorem dX6_lay_11 : decode cX6_lay 11 = .ok (.aload_n 0, 1) := by decide +kernel
theorem dX6_lay_12 : decode cX6_lay 12 = .ok (.getfield 19, 3) := by decide +kernel
theorem dX6_lay_15 : decode cX6_lay 15 = .ok (.getfield 101, 3) := by decide +kernel
theorem dX6_lay_18 : decode cX6_lay 18 = .ok (.invokestatic 73, 3) := by decide +kernel
theorem dX6_lay_21 : decode cX6_lay 21 = .ok (.aload_n 0, 1) := by decide +kernel
theorem dX6_lay_22 : decode cX6_lay 22 = .ok (.getfield 19, 3) := by decide +kernel
theorem dX6_lay_25 : decode cX6_lay 25 = .ok (.getfield 104, 3) := by decide +kernel
theorem dX6_lay_28 : decode cX6_lay 28 = .ok (.aload_n 0, 1) := by decide +kernel
theorem dX6_lay_29 : decode cX6_lay 29 = .ok (.getfield 19, 3) := by decide +kernel
theorem dX6_lay_32 : decode cX6_lay 32 = .ok (.getfield 107, 3) := by decide +kernel
theorem dX6_lay_35 : decode cX6_lay 35 = .ok (.invokevirtual 121, 3) := by decide +kernel
theorem dX6_lay_38 : decode cX6_lay 38 = .ok (.ireturn, 1) := by decide +kernel
theorem dX6_add_0 : decode cX6_add 0 = .ok (.iload_n 1, 1) := by decide +kernel
theorem dX6_add_1 : decode cX6_add 1 = .ok (.iconst 0, 1) := by decide +kernel
theorem dX6_add_2 : decode cX6_add 2 = .ok (.bipush 120, 2) := by decide +kernel
theorem dX6_add_4 : decode cX6_add 4 = .ok (.invokestatic 44, 3) := by decide +kernel
theorem dX6_add_7 : decode cX6_add 7 = .ok (.ifCond .eq 5, 3) := by decide +kernel
theorem dX6_add_10 : decode cX6_add 10 = .ok (.iconst (-1), 1) := by decide +kernel
theorem dX6_add_11 : decode cX6_add 11 = .ok (.ireturn, 1) := by decide +kernel
theorem dX6_add_12 : decode cX6_add 12 = .ok (.aload_n 0, 1) := by decide +kernel
theorem dX6_add_13 : decode cX6_add 13 = .ok (.getfield 33, 3) := by decide +kernel
theorem dX6_add_16 : decode cX6_add 16 = .ok (.iload_n 1, 1) := by decide +kernel
theorem dX6_add_17 : decode cX6_add 17 = .ok (.invokevirtual 125, 3) := by decide +kernel
theorem dX6_add_20 : decode cX6_add 20 = .ok (.ireturn, 1) := by decide +kernel
theorem dX6_clear_0 : decode cX6_clear 0 = .ok (.aload_n 0, 1) := by decide +kernel
theorem dX6_clear_1 : decode cX6_clear 1 = .ok (.getfield 33, 3) := by decide +kernel
theorem dX6_clear_4 : decode cX6_clear 4 = .ok (.getfield 128, 3) := by decide +kernel
theorem dX6_clear_7 : decode cX6_clear 7 = .ok (.getfield 132, 3) := by decide +kernel
theorem dX6_clear_10 : decode cX6_clear 10 = .ok (.istore_n 1, 1) := by decide +kernel
theorem dX6_clear_11 : decode cX6_clear 11 = .ok (.aload_n 0, 1) := by decide +kernel
theorem dX6_clear_12 : decode cX6_clear 12 = .ok (.getfield 33, 3) := by decide +kernel
theorem dX6_clear_15 : decode cX6_clear 15 = .ok (.getfield 128, 3) := by decide +kernel
theorem dX6_clear_18 : decode cX6_clear 18 = .ok (.invokevirtual 137, 3) := by decide +kernel
theorem dX6_clear_21 : decode cX6_clear 21 = .ok (.iload_n 1, 1) := by decide +kernel
theorem dX6_clear_22 : decode cX6_clear 22 = .ok (.ireturn, 1) := by decide +kernel
theorem dX6_letter_0 : decode cX6_letter 0 = .ok (.aload_n 0, 1) := by decide +kernel
theorem dX6_letter_1 : decode cX6_letter 1 = .ok (.getfield 33, 3) := by decide +kernel
theorem dX6_letter_4 : decode cX6_letter 4 = .ok (.getfield 128, 3) := by decide +kernel
theorem dX6_letter_7 : decode cX6_letter 7 = .ok (.iload_n 1, 1) := by decide +kernel
theorem dX6_letter_8 : decode cX6_letter 8 = .ok (.invokevirtual 140, 3) := by decide +kernel
theorem dX6_letter_11 : decode cX6_letter 11 = .ok (.ireturn, 1) := by decide +kernel
theorem dX6_length_0 : decode cX6_length 0 = .ok (.aload_n 0, 1) := by decide +kernel
theorem dX6_length_1 : decode cX6_length 1 = .ok (.getfield 33, 3) := by decide +kernel
theorem dX6_length_4 : decode cX6_length 4 = .ok (.getfield 128, 3) := by decide +kernel
theorem dX6_length_7 : decode cX6_length 7 = .ok (.getfield 132, 3) := by decide +kernel
theorem dX6_length_10 : decode cX6_length 10 = .ok (.ireturn, 1) := by decide +kernel
theorem dX6_tag_0 : decode cX6_tag 0 = .ok (.iload_n 1, 1) := by decide +kernel
theorem dX6_tag_1 : decode cX6_tag 1 = .ok (.iconst 1, 1) := by decide +kernel
theorem dX6_tag_2 : decode cX6_tag 2 = .ok (.sipush 20000, 3) := by decide +kernel
theorem dX6_tag_5 : decode cX6_tag 5 = .ok (.invokestatic 44, 3) := by decide +kernel
theorem dX6_tag_8 : decode cX6_tag 8 = .ok (.ifCond .eq 5, 3) := by decide +kernel
theorem dX6_tag_11 : decode cX6_tag 11 = .ok (.iconst (-1), 1) := by decide +kernel
theorem dX6_tag_12 : decode cX6_tag 12 = .ok (.ireturn, 1) := by decide +kernel
theorem dX6_tag_13 : decode cX6_tag 13 = .ok (.aload_n 0, 1) := by decide +kernel
theorem dX6_tag_14 : decode cX6_tag 14 = .ok (.getfield 33, 3) := by decide +kernel
theorem dX6_tag_17 : decode cX6_tag 17 = .ok (.iload_n 1, 1) := by decide +kernel
theorem dX6_tag_18 : decode cX6_tag 18 = .ok (.aload_n 0, 1) := by decide +kernel
theorem dX6_tag_19 : decode cX6_tag 19 = .ok (.getfield 26, 3) := by decide +kernel
theorem dX6_tag_22 : decode cX6_tag 22 = .ok (.invokevirtual 143, 3) := by decide +kernel
theorem dX6_tag_25 : decode cX6_tag 25 = .ok (.ireturn, 1) := by decide +kernel
theorem dX6_next_0 : decode cX6_next 0 = .ok (.aload_n 0, 1) := by decide +kernel
theorem dX6_next_1 : decode cX6_next 1 = .ok (.getfield 33, 3) := by decide +kernel
theorem dX6_next_4 : decode cX6_next 4 = .ok (.aload_n 0, 1) := by decide +kernel
theorem dX6_next_5 : decode cX6_next 5 = .ok (.getfield 26, 3) := by decide +kernel
theorem dX6_next_8 : decode cX6_next 8 = .ok (.invokevirtual 146, 3) := by decide +kernel
theorem dX6_next_11 : decode cX6_next 11 = .ok (.ireturn, 1) := by decide +kernel
theorem dX6_told_0 : decode cX6_told 0 = .ok (.iload_n 1, 1) := by decide +kernel
theorem dX6_told_1 : decode cX6_told 1 = .ok (.iconst 0, 1) := by decide +kernel
theorem dX6_told_2 : decode cX6_told 2 = .ok (.iconst 3, 1) := by decide +kernel
theorem dX6_told_3 : decode cX6_told 3 = .ok (.invokestatic 44, 3) := by decide +kernel
theorem dX6_told_6 : decode cX6_told 6 = .ok (.ifCond .eq 5, 3) := by decide +kernel
theorem dX6_told_9 : decode cX6_told 9 = .ok (.iconst (-1), 1) := by decide +kernel
theorem dX6_told_10 : decode cX6_told 10 = .ok (.ireturn, 1) := by decide +kernel
theorem dX6_told_11 : decode cX6_told 11 = .ok (.aload_n 0, 1) := by decide +kernel
theorem dX6_told_12 : decode cX6_told 12 = .ok (.getfield 33, 3) := by decide +kernel
theorem dX6_told_15 : decode cX6_told 15 = .ok (.iload_n 1, 1) := by decide +kernel
theorem dX6_told_16 : decode cX6_told 16 = .ok (.invokevirtual 150, 3) := by decide +kernel
theorem dX6_told_19 : decode cX6_told 19 = .ok (.ireturn, 1) := by decide +kernel
theorem dX6_appendant_0 : decode cX6_appendant 0 = .ok (.iload_n 1, 1) := by decide +kernel
theorem dX6_appendant_1 : decode cX6_appendant 1 = .ok (.iconst 0, 1) := by decide +kernel
theorem dX6_appendant_2 : decode cX6_appendant 2 = .ok (.sipush 241, 3) := by decide +kernel
theorem dX6_appendant_5 : decode cX6_appendant 5 = .ok (.invokestatic 44, 3) := by decide +kernel
theorem dX6_appendant_8 : decode cX6_appendant 8 = .ok (.ifCond .eq 5, 3) := by decide +kernel
theorem dX6_appendant_11 : decode cX6_appendant 11 = .ok (.iconst (-1), 1) := by decide +kernel
theorem dX6_appendant_12 : decode cX6_appendant 12 = .ok (.ireturn, 1) := by decide +kernel
theorem dX6_appendant_13 : decode cX6_appendant 13 = .ok (.aload_n 0, 1) := by decide +kernel
theorem dX6_appendant_14 : decode cX6_appendant 14 = .ok (.getfield 26, 3) := by decide +kernel
theorem dX6_appendant_17 : decode cX6_appendant 17 = .ok (.iload_n 1, 1) := by decide +kernel
theorem dX6_appendant_18 : decode cX6_appendant 18 = .ok (.iload_n 2, 1) := by decide +kernel
theorem dX6_appendant_19 : decode cX6_appendant 19 = .ok (.invokevirtual 153, 3) := by decide +kernel
theorem dX6_appendant_22 : decode cX6_appendant 22 = .ok (.ireturn, 1) := by decide +kernel
theorem dX6_spread_0 : decode cX6_spread 0 = .ok (.aload_n 0, 1) := by decide +kernel
theorem dX6_spread_1 : decode cX6_spread 1 = .ok (.getfield 40, 3) := by decide +kernel
theorem dX6_spread_4 : decode cX6_spread 4 = .ok (.aload_n 0, 1) := by decide +kernel
theorem dX6_spread_5 : decode cX6_spread 5 = .ok (.getfield 33, 3) := by decide +kernel
theorem dX6_spread_8 : decode cX6_spread 8 = .ok (.getfield 128, 3) := by decide +kernel
theorem dX6_spread_11 : decode cX6_spread 11 = .ok (.invokevirtual 156, 3) := by decide +kernel
theorem dX6_spread_14 : decode cX6_spread 14 = .ok (.ireturn, 1) := by decide +kernel
theorem dX6_cycle_0 : decode cX6_cycle 0 = .ok (.iload_n 1, 1) := by decide +kernel
theorem dX6_cycle_1 : decode cX6_cycle 1 = .ok (.iconst 1, 1) := by decide +kernel
theorem dX6_cycle_2 : decode cX6_cycle 2 = .ok (.sipush 30000, 3) := by decide +kernel
theorem dX6_cycle_5 : decode cX6_cycle 5 = .ok (.invokestatic 44, 3) := by decide +kernel
theorem dX6_cycle_8 : decode cX6_cycle 8 = .ok (.ifCond .eq 5, 3) := by decide +kernel
theorem dX6_cycle_11 : decode cX6_cycle 11 = .ok (.iconst (-1), 1) := by decide +kernel
theorem dX6_cycle_12 : decode cX6_cycle 12 = .ok (.ireturn, 1) := by decide +kernel
theorem dX6_cycle_13 : decode cX6_cycle 13 = .ok (.aload_n 0, 1) := by decide +kernel
theorem dX6_cycle_14 : decode cX6_cycle 14 = .ok (.getfield 40, 3) := by decide +kernel
theorem dX6_cycle_17 : decode cX6_cycle 17 = .ok (.iload_n 1, 1) := by decide +kernel
theorem dX6_cycle_18 : decode cX6_cycle 18 = .ok (.aload_n 0, 1) := by decide +kernel
theorem dX6_cycle_19 : decode cX6_cycle 19 = .ok (.getfield 26, 3) := by decide +kernel
theorem dX6_cycle_22 : decode cX6_cycle 22 = .ok (.invokevirtual 160, 3) := by decide +kernel
theorem dX6_cycle_25 : decode cX6_cycle 25 = .ok (.ireturn, 1) := by decide +kernel
theorem dX6_bit_0 : decode cX6_bit 0 = .ok (.aload_n 0, 1) := by decide +kernel
theorem dX6_bit_1 : decode cX6_bit 1 = .ok (.getfield 40, 3) := by decide +kernel
theorem dX6_bit_4 : decode cX6_bit 4 = .ok (.iload_n 1, 1) := by decide +kernel
theorem dX6_bit_5 : decode cX6_bit 5 = .ok (.invokevirtual 161, 3) := by decide +kernel
theorem dX6_bit_8 : decode cX6_bit 8 = .ok (.ireturn, 1) := by decide +kernel
theorem dX6_bits_0 : decode cX6_bits 0 = .ok (.iload_n 1, 1) := by decide +kernel
theorem dX6_bits_1 : decode cX6_bits 1 = .ok (.tableswitch 70 0 3 #[31, 39, 47, 55], 31) := by decide +kernel
theorem dX6_bits_32 : decode cX6_bits 32 = .ok (.aload_n 0, 1) := by decide +kernel
theorem dX6_bits_33 : decode cX6_bits 33 = .ok (.getfield 40, 3) := by decide +kernel
theorem dX6_bits_36 : decode cX6_bits 36 = .ok (.invokevirtual 162, 3) := by decide +kernel
theorem dX6_bits_39 : decode cX6_bits 39 = .ok (.ireturn, 1) := by decide +kernel
theorem dX6_bits_40 : decode cX6_bits 40 = .ok (.aload_n 0, 1) := by decide +kernel
theorem dX6_bits_41 : decode cX6_bits 41 = .ok (.getfield 40, 3) := by decide +kernel
theorem dX6_bits_44 : decode cX6_bits 44 = .ok (.getfield 164, 3) := by decide +kernel
theorem dX6_bits_47 : decode cX6_bits 47 = .ok (.ireturn, 1) := by decide +kernel
theorem dX6_bits_48 : decode cX6_bits 48 = .ok (.aload_n 0, 1) := by decide +kernel
theorem dX6_bits_49 : decode cX6_bits 49 = .ok (.getfield 40, 3) := by decide +kernel
theorem dX6_bits_52 : decode cX6_bits 52 = .ok (.invokevirtual 167, 3) := by decide +kernel
theorem dX6_bits_55 : decode cX6_bits 55 = .ok (.ireturn, 1) := by decide +kernel
theorem dX6_bits_56 : decode cX6_bits 56 = .ok (.aload_n 0, 1) := by decide +kernel
theorem dX6_bits_57 : decode cX6_bits 57 = .ok (.getfield 40, 3) := by decide +kernel
theorem dX6_bits_60 : decode cX6_bits 60 = .ok (.aload_n 0, 1) := by decide +kernel
theorem dX6_bits_61 : decode cX6_bits 61 = .ok (.getfield 26, 3) := by decide +kernel
theorem dX6_bits_64 : decode cX6_bits 64 = .ok (.invokevirtual 170, 3) := by decide +kernel
theorem dX6_bits_67 : decode cX6_bits 67 = .ok (.invokestatic 114, 3) := by decide +kernel
theorem dX6_bits_70 : decode cX6_bits 70 = .ok (.ireturn, 1) := by decide +kernel
theorem dX6_bits_71 : decode cX6_bits 71 = .ok (.iconst (-1), 1) := by decide +kernel
theorem dX6_bits_72 : decode cX6_bits 72 = .ok (.ireturn, 1) := by decide +kernel
theorem dX6_gather_0 : decode cX6_gather 0 = .ok (.aload_n 0, 1) := by decide +kernel
theorem dX6_gather_1 : decode cX6_gather 1 = .ok (.getfield 40, 3) := by decide +kernel
theorem dX6_gather_4 : decode cX6_gather 4 = .ok (.getfield 164, 3) := by decide +kernel
theorem dX6_gather_7 : decode cX6_gather 7 = .ok (.ifCond .eq 6, 3) := by decide +kernel
theorem dX6_gather_10 : decode cX6_gather 10 = .ok (.bipush (-2), 2) := by decide +kernel
theorem dX6_gather_12 : decode cX6_gather 12 = .ok (.ireturn, 1) := by decide +kernel
theorem dX6_gather_13 : decode cX6_gather 13 = .ok (.aload_n 0, 1) := by decide +kernel
theorem dX6_gather_14 : decode cX6_gather 14 = .ok (.getfield 40, 3) := by decide +kernel
theorem dX6_gather_17 : decode cX6_gather 17 = .ok (.getfield 173, 3) := by decide +kernel
theorem dX6_gather_20 : decode cX6_gather 20 = .ok (.getfield 132, 3) := by decide +kernel
theorem dX6_gather_23 : decode cX6_gather 23 = .ok (.sipush 600, 3) := by decide +kernel
theorem dX6_gather_26 : decode cX6_gather 26 = .ok (.if_icmp .le 6, 3) := by decide +kernel
theorem dX6_gather_29 : decode cX6_gather 29 = .ok (.bipush (-3), 2) := by decide +kernel
theorem dX6_gather_31 : decode cX6_gather 31 = .ok (.ireturn, 1) := by decide +kernel
theorem dX6_gather_32 : decode cX6_gather 32 = .ok (.aload_n 0, 1) := by decide +kernel
theorem dX6_gather_33 : decode cX6_gather 33 = .ok (.getfield 33, 3) := by decide +kernel
theorem dX6_gather_36 : decode cX6_gather 36 = .ok (.getfield 128, 3) := by decide +kernel
theorem dX6_gather_39 : decode cX6_gather 39 = .ok (.aload_n 0, 1) := by decide +kernel
theorem dX6_gather_40 : decode cX6_gather 40 = .ok (.getfield 40, 3) := by decide +kernel
theorem dX6_gather_43 : decode cX6_gather 43 = .ok (.getfield 173, 3) := by decide +kernel
theorem dX6_gather_46 : decode cX6_gather 46 = .ok (.invokevirtual 174, 3) := by decide +kernel
theorem dX6_gather_49 : decode cX6_gather 49 = .ok (.aload_n 0, 1) := by decide +kernel
theorem dX6_gather_50 : decode cX6_gather 50 = .ok (.getfield 33, 3) := by decide +kernel
theorem dX6_gather_53 : decode cX6_gather 53 = .ok (.getfield 128, 3) := by decide +kernel
theorem dX6_gather_56 : decode cX6_gather 56 = .ok (.getfield 132, 3) := by decide +kernel
theorem dX6_gather_59 : decode cX6_gather 59 = .ok (.ireturn, 1) := by decide +kernel
theorem dX6_outside_0 : decode cX6_outside 0 = .ok (.iload_n 0, 1) := by decide +kernel
theorem dX6_outside_1 : decode cX6_outside 1 = .ok (.iload_n 1, 1) := by decide +kernel
theorem dX6_outside_2 : decode cX6_outside 2 = .ok (.if_icmp .lt 8, 3) := by decide +kernel
theorem dX6_outside_5 : decode cX6_outside 5 = .ok (.iload_n 0, 1) := by decide +kernel
theorem dX6_outside_6 : decode cX6_outside 6 = .ok (.iload_n 2, 1) := by decide +kernel
theorem dX6_outside_7 : decode cX6_outside 7 = .ok (.if_icmp .le 7, 3) := by decide +kernel
theorem dX6_outside_10 : decode cX6_outside 10 = .ok (.iconst 1, 1) := by decide +kernel
theorem dX6_outside_11 : decode cX6_outside 11 = .ok (.goto 4, 3) := by decide +kernel
theorem dX6_outside_14 : decode cX6_outside 14 = .ok (.iconst 0, 1) := by decide +kernel
theorem dX6_outside_15 : decode cX6_outside 15 = .ok (.ireturn, 1) := by decide +kernel
theorem dX6_oneIf_0 : decode cX6_oneIf 0 = .ok (.iload_n 0, 1) := by decide +kernel
theorem dX6_oneIf_1 : decode cX6_oneIf 1 = .ok (.ifCond .eq 7, 3) := by decide +kernel
theorem dX6_oneIf_4 : decode cX6_oneIf 4 = .ok (.iconst 1, 1) := by decide +kernel
theorem dX6_oneIf_5 : decode cX6_oneIf 5 = .ok (.goto 4, 3) := by decide +kernel
theorem dX6_oneIf_8 : decode cX6_oneIf 8 = .ok (.iconst 0, 1) := by decide +kernel
theorem dX6_oneIf_9 : decode cX6_oneIf 9 = .ok (.ireturn, 1) := by decide +kernel
theorem dX6_pairOf_0 : decode cX6_pairOf 0 = .ok (.iconst 2, 1) := by decide +kernel
theorem dX6_pairOf_1 : decode cX6_pairOf 1 = .ok (.iload_n 0, 1) := by decide +kernel
theorem dX6_pairOf_2 : decode cX6_pairOf 2 = .ok (.imul, 1) := by decide +kernel
theorem dX6_pairOf_3 : decode cX6_pairOf 3 = .ok (.iload_n 1, 1) := by decide +kernel
theorem dX6_pairOf_4 : decode cX6_pairOf 4 = .ok (.iadd, 1) := by decide +kernel
theorem dX6_pairOf_5 : decode cX6_pairOf 5 = .ok (.ireturn, 1) := by decide +kernel
end
section
theorem o_in {a q b : Nat} (h1 : a ≤ q) (h2 : q ≤ b) (hb : b < 2147483648) : (nI a).toInt ≤ (nI q).toInt ∧ (nI q).toInt ≤ (nI b).toInt := by
  rw [nI_toInt (by omega), nI_toInt (by omega), nI_toInt (by omega)]
  omega
theorem i32_lt {x y : Int32} (h : x < y) : x.toInt < y.toInt := Int32.lt_iff_toInt_lt.mp h
theorem i32_le {x y : Int32} (h : x ≤ y) : x.toInt ≤ y.toInt := Int32.le_iff_toInt_le.mp h
theorem i32_nlt {x y : Int32} (h : ¬ x < y) : y.toInt ≤ x.toInt := by
  by_cases q : x.toInt < y.toInt
  · exact absurd (Int32.lt_iff_toInt_lt.mpr q) h
  · omega
theorem i32_nle {x y : Int32} (h : ¬ x ≤ y) : y.toInt < x.toInt := by
  by_cases q : x.toInt ≤ y.toInt
  · exact absurd (Int32.le_iff_toInt_le.mpr q) h
  · omega
/-- an int between 0 and b -/
def inR (x : Int32) (b : Nat) : Prop := 0 ≤ x.toInt ∧ x.toInt ≤ (b : Int)
theorem inR_of {x : Int32} {b : Nat} (h : inR x b) (hb : b < 2147483648) : ∃ j : Nat, j ≤ b ∧ x = nI j := by
  refine ⟨x.toInt.toNat, by have := h.2; omega, ?_⟩
  apply Int32.toInt_inj.mp
  rw [nI_toInt (by have := h.2; omega)]
  have := h.1
  omega
theorem inR_nI {j b : Nat} (h : j ≤ b) (hb : b < 2147483648) : inR (nI j) b := by
  unfold inR
  rw [nI_toInt (by omega)]
  omega
theorem inR_or (x : Int32) (b : Nat) : inR x b ∨ ¬ inR x b := Classical.em _

set_option maxHeartbeats 4000000 in
set_option maxRecDepth 100000 in
theorem c_out_in (l : Launch) (Z : xZ) (v lo hi : Int32) (h : lo.toInt ≤ v.toInt ∧ v.toInt ≤ hi.toInt) : xMi l Z yX6_outside vX6_outside ({ frames := 0, cells := 0, slots := 0, locals := 0 } : Room) [.int v, .int lo, .int hi] [] (fun r w => r = nI 0 ∧ w = []) := by
  refine x_i (by decide) rfl (Nat.le_of_ble_eq_true rfl) ?_
  intro p e s m args below meth c ls A hC hr hk hl hP hD hS
  have hx := hC.1.1
  have hb := hC.1.2.1
  have hml := hC.1.2.2.1
  have hown : s.vm.findClass RX6 = some m.cls := hC.1.2.2.2.1
  have hts := hC.1.2.2.2.2
  have hK := hC.2.1
  have hl : lv_has ls 3 [(0, .int v), (1, .int lo), (2, .int hi)] := hl
  have hP : va_P Z.1 vwCl [] s.heap := hP
  have hD : va_D A [] := hD
  refine lv_iload_n hx hb dX6_outside_0 rfl (lv_at hl 0 rfl) ?_
  refine lv_iload_n hx hb dX6_outside_1 rfl (lv_at hl 1 rfl) ?_
  refine lv_icmp_lt (tgt := 10) hx hb dX6_outside_2 (by decide) (fun h2 => False.elim (by have := i32_lt h2; omega)) (fun h2 => ?_)
  refine lv_iload_n hx hb dX6_outside_5 rfl (lv_at hl 0 rfl) ?_
  refine lv_iload_n hx hb dX6_outside_6 rfl (lv_at hl 2 rfl) ?_
  refine lv_icmp_le (tgt := 14) hx hb dX6_outside_7 (by decide) (fun h7 => ?_) (fun h7 => False.elim (by have := i32_nle h7; omega))
  refine ln_const 0 hx hb dX6_outside_14 (by decide) ?_
  exact x_zret hC hr rfl hk hP hD hS dX6_outside_15 ⟨rfl, rfl⟩

set_option maxHeartbeats 4000000 in
set_option maxRecDepth 100000 in
theorem c_out_out (l : Launch) (Z : xZ) (v lo hi : Int32) (h : v.toInt < lo.toInt ∨ hi.toInt < v.toInt) : xMi l Z yX6_outside vX6_outside ({ frames := 0, cells := 0, slots := 0, locals := 0 } : Room) [.int v, .int lo, .int hi] [] (fun r w => r = nI 1 ∧ w = []) := by
  refine x_i (by decide) rfl (Nat.le_of_ble_eq_true rfl) ?_
  intro p e s m args below meth c ls A hC hr hk hl hP hD hS
  have hx := hC.1.1
  have hb := hC.1.2.1
  have hml := hC.1.2.2.1
  have hown : s.vm.findClass RX6 = some m.cls := hC.1.2.2.2.1
  have hts := hC.1.2.2.2.2
  have hK := hC.2.1
  have hl : lv_has ls 3 [(0, .int v), (1, .int lo), (2, .int hi)] := hl
  have hP : va_P Z.1 vwCl [] s.heap := hP
  have hD : va_D A [] := hD
  refine lv_iload_n hx hb dX6_outside_0 rfl (lv_at hl 0 rfl) ?_
  refine lv_iload_n hx hb dX6_outside_1 rfl (lv_at hl 1 rfl) ?_
  refine lv_icmp_lt (tgt := 10) hx hb dX6_outside_2 (by decide) (fun h2 => ?_) (fun h2 => ?_)
  · refine ln_const 1 hx hb dX6_outside_10 (by decide) ?_
    refine lv_goto (tgt := 15) hx hb dX6_outside_11 (by decide) ?_
    exact x_zret hC hr rfl hk hP hD hS dX6_outside_15 ⟨rfl, rfl⟩
  · refine lv_iload_n hx hb dX6_outside_5 rfl (lv_at hl 0 rfl) ?_
    refine lv_iload_n hx hb dX6_outside_6 rfl (lv_at hl 2 rfl) ?_
    refine lv_icmp_le (tgt := 14) hx hb dX6_outside_7 (by decide) (fun h7 => False.elim (by have := i32_le h7; have := i32_nlt h2; omega)) (fun h7 => ?_)
    refine ln_const 1 hx hb dX6_outside_10 (by decide) ?_
    refine lv_goto (tgt := 15) hx hb dX6_outside_11 (by decide) ?_
    exact x_zret hC hr rfl hk hP hD hS dX6_outside_15 ⟨rfl, rfl⟩

set_option maxHeartbeats 4000000 in
set_option maxRecDepth 100000 in
theorem c_out_any (l : Launch) (Z : xZ) (v lo hi : Int32)  : xMi l Z yX6_outside vX6_outside ({ frames := 0, cells := 0, slots := 0, locals := 0 } : Room) [.int v, .int lo, .int hi] [] (fun r w => ((r = nI 0 ∧ lo.toInt ≤ v.toInt ∧ v.toInt ≤ hi.toInt) ∨ (r = nI 1 ∧ (v.toInt < lo.toInt ∨ hi.toInt < v.toInt))) ∧ w = []) := by
  refine x_i (by decide) rfl (Nat.le_of_ble_eq_true rfl) ?_
  intro p e s m args below meth c ls A hC hr hk hl hP hD hS
  have hx := hC.1.1
  have hb := hC.1.2.1
  have hml := hC.1.2.2.1
  have hown : s.vm.findClass RX6 = some m.cls := hC.1.2.2.2.1
  have hts := hC.1.2.2.2.2
  have hK := hC.2.1
  have hl : lv_has ls 3 [(0, .int v), (1, .int lo), (2, .int hi)] := hl
  have hP : va_P Z.1 vwCl [] s.heap := hP
  have hD : va_D A [] := hD
  refine lv_iload_n hx hb dX6_outside_0 rfl (lv_at hl 0 rfl) ?_
  refine lv_iload_n hx hb dX6_outside_1 rfl (lv_at hl 1 rfl) ?_
  refine lv_icmp_lt (tgt := 10) hx hb dX6_outside_2 (by decide) (fun h2 => ?_) (fun h2 => ?_)
  · refine ln_const 1 hx hb dX6_outside_10 (by decide) ?_
    refine lv_goto (tgt := 15) hx hb dX6_outside_11 (by decide) ?_
    exact x_zret hC hr rfl hk hP hD hS dX6_outside_15 ⟨Or.inr ⟨rfl, Or.inl (i32_lt h2)⟩, rfl⟩
  · refine lv_iload_n hx hb dX6_outside_5 rfl (lv_at hl 0 rfl) ?_
    refine lv_iload_n hx hb dX6_outside_6 rfl (lv_at hl 2 rfl) ?_
    refine lv_icmp_le (tgt := 14) hx hb dX6_outside_7 (by decide) (fun h7 => ?_) (fun h7 => ?_)
    · refine ln_const 0 hx hb dX6_outside_14 (by decide) ?_
      exact x_zret hC hr rfl hk hP hD hS dX6_outside_15 ⟨Or.inl ⟨rfl, i32_nlt h2, i32_le h7⟩, rfl⟩
    · refine ln_const 1 hx hb dX6_outside_10 (by decide) ?_
      refine lv_goto (tgt := 15) hx hb dX6_outside_11 (by decide) ?_
      exact x_zret hC hr rfl hk hP hD hS dX6_outside_15 ⟨Or.inr ⟨rfl, Or.inr (i32_nle h7)⟩, rfl⟩

set_option maxHeartbeats 4000000 in
set_option maxRecDepth 100000 in
theorem c_X6_oneIf (l : Launch) (Z : xZ) (b : Nat) (hb2 : b < 2) : xMi l Z yX6_oneIf vX6_oneIf ({ frames := 0, cells := 0, slots := 0, locals := 0 } : Room) [.int (nI b)] [] (fun r w => r = nI b ∧ w = []) := by
  refine x_i (by decide) rfl (Nat.le_of_ble_eq_true rfl) ?_
  intro p e s m args below meth c ls A hC hr hk hl hP hD hS
  have hx := hC.1.1
  have hb := hC.1.2.1
  have hml := hC.1.2.2.1
  have hown : s.vm.findClass RX6 = some m.cls := hC.1.2.2.2.1
  have hts := hC.1.2.2.2.2
  have hK := hC.2.1
  have hl : lv_has ls 1 [(0, .int (nI b))] := hl
  have hP : va_P Z.1 vwCl [] s.heap := hP
  have hD : va_D A [] := hD
  refine lv_iload_n hx hb dX6_oneIf_0 rfl (lv_at hl 0 rfl) ?_
  refine ln_if_eq (tgt := 8) hx hb dX6_oneIf_1 (by decide) (by omega) (fun h1 => ?_) (fun h1 => ?_)
  · refine ln_const 0 hx hb dX6_oneIf_8 (by decide) ?_
    exact x_iret hC hr hk hP hD hS dX6_oneIf_9 ⟨by rw [show b = 0 by omega], rfl⟩
  · refine ln_const 1 hx hb dX6_oneIf_4 (by decide) ?_
    refine lv_goto (tgt := 9) hx hb dX6_oneIf_5 (by decide) ?_
    exact x_iret hC hr hk hP hD hS dX6_oneIf_9 ⟨by rw [show b = 1 by omega], rfl⟩

set_option maxHeartbeats 4000000 in
set_option maxRecDepth 100000 in
theorem c_X6_pairOf (l : Launch) (Z : xZ) (q u : Nat) : xMi l Z yX6_pairOf vX6_pairOf ({ frames := 0, cells := 0, slots := 0, locals := 0 } : Room) [.int (nI q), .int (nI u)] [] (fun r w => r = nI (2 * q + u) ∧ w = []) := by
  refine x_i (by decide) rfl (Nat.le_of_ble_eq_true rfl) ?_
  intro p e s m args below meth c ls A hC hr hk hl hP hD hS
  have hx := hC.1.1
  have hb := hC.1.2.1
  have hml := hC.1.2.2.1
  have hown : s.vm.findClass RX6 = some m.cls := hC.1.2.2.2.1
  have hts := hC.1.2.2.2.2
  have hK := hC.2.1
  have hl : lv_has ls 2 [(0, .int (nI q)), (1, .int (nI u))] := hl
  have hP : va_P Z.1 vwCl [] s.heap := hP
  have hD : va_D A [] := hD
  refine ln_const 2 hx hb dX6_pairOf_0 (by decide) ?_
  refine lv_iload_n hx hb dX6_pairOf_1 rfl (lv_at hl 0 rfl) ?_
  refine ln_imul (2 * q) hx hb dX6_pairOf_2 (by first | rfl | omega) ?_
  refine lv_iload_n hx hb dX6_pairOf_3 rfl (lv_at hl 1 rfl) ?_
  refine ln_iadd ((2 * q) + u) hx hb dX6_pairOf_4 (by first | rfl | omega) ?_
  exact x_iret hC hr hk hP hD hS dX6_pairOf_5 ⟨rfl, rfl⟩

theorem xwr_t {N q : Nat} (h : q < N) : xwr N q = q := by unfold xwr; rw [if_pos h]
theorem xwr_f {N q : Nat} (h : N ≤ q) : xwr N q = q - N := by unfold xwr; rw [if_neg (by omega)]

set_option maxHeartbeats 4000000 in
set_option maxRecDepth 100000 in
theorem c_X2_wrapped (l : Launch) (Z : xZ) (h a N hd sz : Nat) (g : Nat → Nat) (hN : N < 1000000) (q : Nat) (hq : q < 2147483648) : xMi l Z yX2_wrapped vX2_wrapped ({ frames := 0, cells := 0, slots := 0, locals := 0 } : Room) [.ref h, .int (nI q)] [(h, .inr (2, [.ref a, .int (nI hd), .int (nI sz)])), (a, xI Z N g)] (fun r w => r = nI (xwr N q) ∧ w = [(h, .inr (2, [.ref a, .int (nI hd), .int (nI sz)])), (a, xI Z N g)]) := by
  refine x_i (by decide) rfl (Nat.le_of_ble_eq_true rfl) ?_
  intro p e s m args below meth c ls A hC hr hk hl hP hD hS
  have hx := hC.1.1
  have hb := hC.1.2.1
  have hml := hC.1.2.2.1
  have hown : s.vm.findClass RX2 = some m.cls := hC.1.2.2.2.1
  have hts := hC.1.2.2.2.2
  have hK := hC.2.1
  have qq_279 := hts (Cond.fieldLink RX2 15 "TagTower$LetterRow" "cells" "[I") (List.mem_cons_of_mem _ wq_279)
  have iX2 : ∀ w ∈ wsX20, w ∈ vX2_wrapped := fun w h => List.mem_cons_of_mem _ (wi_X2 w h)
  have hl : lv_has ls 2 [(0, .ref h), (1, .int (nI q))] := hl
  have hP : va_P Z.1 vwCl [(h, .inr (2, [.ref a, .int (nI hd), .int (nI sz)])), (a, xI Z N g)] s.heap := hP
  have hD : va_D A [(h, .inr (2, [.ref a, .int (nI hd), .int (nI sz)])), (a, xI Z N g)] := hD
  refine lv_iload_n hx hb dX2_wrapped_0 rfl (lv_at hl 1 rfl) ?_
  refine lv_aload_n hx hb dX2_wrapped_1 rfl (lv_at hl 0 rfl) ?_
  refine va_get (D := Z.1) (ci := 2) (v := .ref a) (C := RX2) (T := TX2) (N := 3) hx hb hts iX2 hown hK hP 0 rfl rfl 0 (Nat.le_of_ble_eq_true rfl) qq_279 (fun _ h9 => h9) rfl dX2_wrapped_2 ?_
  refine va_alen (v := nI N) hx hb hK hP 1 0 rfl rfl rfl dX2_wrapped_5 ?_
  refine ln_icmp_ge (tgt := 13) hx hb dX2_wrapped_6 (by decide) (by omega) (by omega) (fun h6 => ?_) (fun h6 => ?_)
  · refine lv_iload_n hx hb dX2_wrapped_13 rfl (lv_at hl 1 rfl) ?_
    refine lv_aload_n hx hb dX2_wrapped_14 rfl (lv_at hl 0 rfl) ?_
    refine va_get (D := Z.1) (ci := 2) (v := .ref a) (C := RX2) (T := TX2) (N := 3) hx hb hts iX2 hown hK hP 0 rfl rfl 0 (Nat.le_of_ble_eq_true rfl) qq_279 (fun _ h9 => h9) rfl dX2_wrapped_15 ?_
    refine va_alen (v := nI N) hx hb hK hP 1 0 rfl rfl rfl dX2_wrapped_18 ?_
    refine ln_isub (q - N) hx hb dX2_wrapped_19 (by omega) (by first | rfl | omega) ?_
    exact x_iret hC hr hk hP hD hS dX2_wrapped_20 ⟨by rw [xwr_f h6], rfl⟩
  · refine lv_iload_n hx hb dX2_wrapped_9 rfl (lv_at hl 1 rfl) ?_
    refine lv_goto (tgt := 20) hx hb dX2_wrapped_10 (by decide) ?_
    exact x_iret hC hr hk hP hD hS dX2_wrapped_20 ⟨by rw [xwr_t h6], rfl⟩

set_option maxHeartbeats 4000000 in
set_option maxRecDepth 100000 in
theorem c_X2_empty (l : Launch) (Z : xZ) (h a N hd sz : Nat) (g : Nat → Nat) (hN : N < 1000000) : xMv l Z yX2_empty vX2_empty ({ frames := 0, cells := 0, slots := 0, locals := 0 } : Room) [.ref h] [(h, .inr (2, [.ref a, .int (nI hd), .int (nI sz)])), (a, xI Z N g)] (fun w => w = [(h, .inr (2, [.ref a, .int (nI 0), .int (nI 0)])), (a, xI Z N g)]) := by
  refine x_v (by decide) rfl (Nat.le_of_ble_eq_true rfl) ?_
  intro p e s m args below meth c ls A hC hr hk hname hl hP hD hS
  have hx := hC.1.1
  have hb := hC.1.2.1
  have hml := hC.1.2.2.1
  have hown : s.vm.findClass RX2 = some m.cls := hC.1.2.2.2.1
  have hts := hC.1.2.2.2.2
  have hK := hC.2.1
  have qq_280 := hts (Cond.fieldLink RX2 21 "TagTower$LetterRow" "head" "I") (List.mem_cons_of_mem _ wq_280)
  have iX2 : ∀ w ∈ wsX20, w ∈ vX2_empty := fun w h => List.mem_cons_of_mem _ (wi_X2 w h)
  have qq_282 := hts (Cond.fieldLink RX2 25 "TagTower$LetterRow" "size" "I") (List.mem_cons_of_mem _ wq_282)
  have hl : lv_has ls 1 [(0, .ref h)] := hl
  have hP : va_P Z.1 vwCl [(h, .inr (2, [.ref a, .int (nI hd), .int (nI sz)])), (a, xI Z N g)] s.heap := hP
  have hD : va_D A [(h, .inr (2, [.ref a, .int (nI hd), .int (nI sz)])), (a, xI Z N g)] := hD
  refine lv_aload_n hx hb dX2_empty_0 rfl (lv_at hl 0 rfl) ?_
  refine ln_const 0 hx hb dX2_empty_1 (by decide) ?_
  refine va_put (D := Z.1) (ci := 2) (v := .int (nI 0)) (ty := tyX2 1) (C := RX2) (T := TX2) (N := 3) hx hb hts iX2 tyX2 tyX2_ok nmX2 hown hK hP hD hS 0 rfl rfl 1 (Nat.le_of_ble_eq_true rfl) qq_280 (fun _ h9 => h9) rfl (tyX2_ok 1 (Nat.le_of_ble_eq_true rfl)) rfl rfl (Nat.le_of_ble_eq_true rfl) dX2_empty_2 (fun H locs hP hD hS => ?_)
  have hP : va_P Z.1 vwCl [(h, .inr (2, [.ref a, .int (nI 0), .int (nI sz)])), (a, xI Z N g)] H := hP
  have hD : va_D A [(h, .inr (2, [.ref a, .int (nI 0), .int (nI sz)])), (a, xI Z N g)] := hD
  refine lv_aload_n hx hb dX2_empty_5 rfl (lv_at hl 0 rfl) ?_
  refine ln_const 0 hx hb dX2_empty_6 (by decide) ?_
  refine va_put (D := Z.1) (ci := 2) (v := .int (nI 0)) (ty := tyX2 2) (C := RX2) (T := TX2) (N := 3) hx hb hts iX2 tyX2 tyX2_ok nmX2 hown hK hP hD hS 0 rfl rfl 2 (Nat.le_of_ble_eq_true rfl) qq_282 (fun _ h9 => h9) rfl (tyX2_ok 2 (Nat.le_of_ble_eq_true rfl)) rfl rfl (Nat.le_of_ble_eq_true rfl) dX2_empty_7 (fun H locs hP hD hS => ?_)
  have hP : va_P Z.1 vwCl [(h, .inr (2, [.ref a, .int (nI 0), .int (nI 0)])), (a, xI Z N g)] H := hP
  have hD : va_D A [(h, .inr (2, [.ref a, .int (nI 0), .int (nI 0)])), (a, xI Z N g)] := hD
  exact x_vret hC hr hk hP hD hS dX2_empty_10 (rfl)

theorem ks_X6_outside : yX6_outside.cls ≠ "java/lang/invoke/MethodHandle" ∧ yX6_outside.cls ≠ "java/lang/invoke/VarHandle" ∧ (parseMethodDescriptor yX6_outside.desc).map (fun d => d.parameters.length) = some 3 := by decide +kernel
theorem kv_X2_wrapped : yX2_wrapped.cls = RX2 ∧ yX2_wrapped.cls ≠ "java/lang/invoke/MethodHandle" ∧ yX2_wrapped.cls ≠ "java/lang/invoke/VarHandle" ∧ (parseMethodDescriptor yX2_wrapped.desc).map (fun d => d.parameters.length) = some 1 := by decide +kernel
set_option maxHeartbeats 4000000 in
set_option maxRecDepth 100000 in
theorem c_X2_get_in (l : Launch) (Z : xZ) (h a N hd sz : Nat) (g : Nat → Nat) (L : List Nat) (hN : N < 1000000) (hR : RR N hd g L) (hsz : sz = L.length) (q : Nat) (hq : q < L.length) : xMi l Z yX2_get vX2_get ({ frames := 1, cells := 0, slots := 0, locals := 22 } : Room) [.ref h, .int (nI q)] [(h, .inr (2, [.ref a, .int (nI hd), .int (nI sz)])), (a, xI Z N g)] (fun r w => r = nI (L.getD q 0) ∧ w = [(h, .inr (2, [.ref a, .int (nI hd), .int (nI sz)])), (a, xI Z N g)]) := by
  refine x_i (by decide) rfl (Nat.le_of_ble_eq_true rfl) ?_
  intro p e s m args below meth c ls A hC hr hk hl hP hD hS
  have hx := hC.1.1
  have hb := hC.1.2.1
  have hml := hC.1.2.2.1
  have hown : s.vm.findClass RX2 = some m.cls := hC.1.2.2.2.1
  have hts := hC.1.2.2.2.2
  have hK := hC.2.1
  have qq_282 := hts (Cond.fieldLink RX2 25 "TagTower$LetterRow" "size" "I") (List.mem_cons_of_mem _ wq_282)
  have iX2 : ∀ w ∈ wsX20, w ∈ vX2_get := fun w h => List.mem_cons_of_mem _ (wi_X2 w h)
  have qq_32 := hts (Cond.initialized RX6) (List.mem_cons_of_mem _ wq_32)
  have qq_338 := hts (Cond.static yX6_outside) (List.mem_cons_of_mem _ wq_338)
  have qn_28 := hC.2.2.2.1.1 (RX2, 28, yX6_outside, RX6) (List.mem_of_getElem? (i := 8) rfl)
  have qq_279 := hts (Cond.fieldLink RX2 15 "TagTower$LetterRow" "cells" "[I") (List.mem_cons_of_mem _ wq_279)
  have qq_280 := hts (Cond.fieldLink RX2 21 "TagTower$LetterRow" "head" "I") (List.mem_cons_of_mem _ wq_280)
  have hl : lv_has ls 2 [(0, .ref h), (1, .int (nI q))] := hl
  have hP : va_P Z.1 vwCl [(h, .inr (2, [.ref a, .int (nI hd), .int (nI sz)])), (a, xI Z N g)] s.heap := hP
  have hD : va_D A [(h, .inr (2, [.ref a, .int (nI hd), .int (nI sz)])), (a, xI Z N g)] := hD
  have hR1 := hR.1
  have hR2 := hR.2.1
  refine lv_iload_n hx hb dX2_get_0 rfl (lv_at hl 1 rfl) ?_
  refine ln_const 0 hx hb dX2_get_1 (by decide) ?_
  refine lv_aload_n hx hb dX2_get_2 rfl (lv_at hl 0 rfl) ?_
  refine va_get (D := Z.1) (ci := 2) (v := .int (nI sz)) (C := RX2) (T := TX2) (N := 3) hx hb hts iX2 hown hK hP 0 rfl rfl 2 (Nat.le_of_ble_eq_true rfl) qq_282 (fun _ h9 => h9) rfl dX2_get_3 ?_
  refine ln_const 1 hx hb dX2_get_6 (by decide) ?_
  refine ln_isub (sz - 1) hx hb dX2_get_7 (by omega) (by first | rfl | omega) ?_
  refine x_SNi (y := yX6_outside) (As := [.int (nI q), .int (nI 0), .int (nI (sz - 1))]) (wc := []) (wr := [(h, .inr (2, [.ref a, .int (nI hd), .int (nI sz)])), (a, xI Z N g)]) hC hP hD hS (c_out_in l Z (nI q) (nI 0) (nI (sz - 1)) (o_in (by omega) (by omega) (by omega))) (gCo wq_339) qn_28 qq_32 qq_338 rfl ks_X6_outside ⟨rfl, rfl⟩ rfl hl.1 rfl ⟨Nat.le_of_ble_eq_true rfl, Nat.le_of_ble_eq_true rfl⟩ ([] : List Nat) [0, 1] rfl rfl (by decide) (by decide) (by decide) rfl dX2_get_8 (fun r8 w1 H locs hw hP hD hS => ?_)
  obtain ⟨rfl, rfl⟩ := hw
  have hP : va_P Z.1 vwCl [(h, .inr (2, [.ref a, .int (nI hd), .int (nI sz)])), (a, xI Z N g)] H := hP
  have hD : va_D A [(h, .inr (2, [.ref a, .int (nI hd), .int (nI sz)])), (a, xI Z N g)] := hD
  refine ln_if_eq (tgt := 19) hx hb dX2_get_11 (by decide) (by omega) (fun h11 => ?_) (fun h11 => False.elim (by omega))
  refine lv_aload_n hx hb dX2_get_19 rfl (lv_at hl 0 rfl) ?_
  refine va_get (D := Z.1) (ci := 2) (v := .ref a) (C := RX2) (T := TX2) (N := 3) hx hb hts iX2 hown hK hP 0 rfl rfl 0 (Nat.le_of_ble_eq_true rfl) qq_279 (fun _ h9 => h9) rfl dX2_get_20 ?_
  refine lv_aload_n hx hb dX2_get_23 rfl (lv_at hl 0 rfl) ?_
  refine lv_aload_n hx hb dX2_get_24 rfl (lv_at hl 0 rfl) ?_
  refine va_get (D := Z.1) (ci := 2) (v := .int (nI hd)) (C := RX2) (T := TX2) (N := 3) hx hb hts iX2 hown hK hP 0 rfl rfl 1 (Nat.le_of_ble_eq_true rfl) qq_280 (fun _ h9 => h9) rfl dX2_get_25 ?_
  refine lv_iload_n hx hb dX2_get_28 rfl (lv_at hl 1 rfl) ?_
  refine ln_iadd (hd + q) hx hb dX2_get_29 (by first | rfl | omega) ?_
  refine x_Vi (y := yX2_wrapped) (As := [.int (nI (hd + q))]) (wc := [(h, .inr (2, [.ref a, .int (nI hd), .int (nI sz)])), (a, xI Z N g)]) (wr := []) hC hP hD hS (c_X2_wrapped l Z h a N hd sz g (by omega) (hd + q) (by omega)) (gV wq_503 wq_500 wq_502 wq_7 wq_43) rfl kv_X2_wrapped rfl rfl ⟨rfl, rfl⟩ rfl hl.1 rfl ⟨Nat.le_of_ble_eq_true rfl, Nat.le_of_ble_eq_true rfl⟩ [0, 1] ([] : List Nat) rfl rfl (by decide) (by decide) (by decide) rfl dX2_get_30 (fun r30 w1 H locs hw hP hD hS => ?_)
  obtain ⟨rfl, rfl⟩ := hw
  have hP : va_P Z.1 vwCl [(h, .inr (2, [.ref a, .int (nI hd), .int (nI sz)])), (a, xI Z N g)] H := hP
  have hD : va_D A [(h, .inr (2, [.ref a, .int (nI hd), .int (nI sz)])), (a, xI Z N g)] := hD
  refine ln_iald hx hb hK hP 1 rfl (xwr_lt (by omega)) (by omega) dX2_get_33 ?_
  exact x_iret hC hr hk hP hD hS dX2_get_34 ⟨by rw [hR.at0 hq], rfl⟩

set_option maxHeartbeats 4000000 in
set_option maxRecDepth 100000 in
theorem c_X2_get_out (l : Launch) (Z : xZ) (h a N hd sz : Nat) (g : Nat → Nat) (L : List Nat) (hN : N < 1000000) (hR : RR N hd g L) (hsz : sz = L.length) (x : Int32) (hx2 : ¬ (0 ≤ x.toInt ∧ x.toInt < (L.length : Int))) : xMi l Z yX2_get vX2_get ({ frames := 1, cells := 0, slots := 0, locals := 22 } : Room) [.ref h, .int x] [(h, .inr (2, [.ref a, .int (nI hd), .int (nI sz)])), (a, xI Z N g)] (fun r w => r = -9 ∧ w = [(h, .inr (2, [.ref a, .int (nI hd), .int (nI sz)])), (a, xI Z N g)]) := by
  refine x_i (by decide) rfl (Nat.le_of_ble_eq_true rfl) ?_
  intro p e s m args below meth c ls A hC hr hk hl hP hD hS
  have hx := hC.1.1
  have hb := hC.1.2.1
  have hml := hC.1.2.2.1
  have hown : s.vm.findClass RX2 = some m.cls := hC.1.2.2.2.1
  have hts := hC.1.2.2.2.2
  have hK := hC.2.1
  have qq_282 := hts (Cond.fieldLink RX2 25 "TagTower$LetterRow" "size" "I") (List.mem_cons_of_mem _ wq_282)
  have iX2 : ∀ w ∈ wsX20, w ∈ vX2_get := fun w h => List.mem_cons_of_mem _ (wi_X2 w h)
  have qq_32 := hts (Cond.initialized RX6) (List.mem_cons_of_mem _ wq_32)
  have qq_338 := hts (Cond.static yX6_outside) (List.mem_cons_of_mem _ wq_338)
  have qn_28 := hC.2.2.2.1.1 (RX2, 28, yX6_outside, RX6) (List.mem_of_getElem? (i := 8) rfl)
  have hl : lv_has ls 2 [(0, .ref h), (1, .int x)] := hl
  have hP : va_P Z.1 vwCl [(h, .inr (2, [.ref a, .int (nI hd), .int (nI sz)])), (a, xI Z N g)] s.heap := hP
  have hD : va_D A [(h, .inr (2, [.ref a, .int (nI hd), .int (nI sz)])), (a, xI Z N g)] := hD
  have hR1 := hR.1
  have hR2 := hR.2.1
  refine lv_iload_n hx hb dX2_get_0 rfl (lv_at hl 1 rfl) ?_
  refine ln_const 0 hx hb dX2_get_1 (by decide) ?_
  refine lv_aload_n hx hb dX2_get_2 rfl (lv_at hl 0 rfl) ?_
  refine va_get (D := Z.1) (ci := 2) (v := .int (nI sz)) (C := RX2) (T := TX2) (N := 3) hx hb hts iX2 hown hK hP 0 rfl rfl 2 (Nat.le_of_ble_eq_true rfl) qq_282 (fun _ h9 => h9) rfl dX2_get_3 ?_
  refine ln_const 1 hx hb dX2_get_6 (by decide) ?_
  refine lv_isub hx hb dX2_get_7 ?_
  refine x_SNi (y := yX6_outside) (As := [.int x, .int (nI 0), .int ((nI sz) - (nI 1))]) (wc := []) (wr := [(h, .inr (2, [.ref a, .int (nI hd), .int (nI sz)])), (a, xI Z N g)]) hC hP hD hS (c_out_out l Z x (nI 0) ((nI sz) - (nI 1)) (by rw [nI_toInt (by omega), pk_sub_toInt (by omega) (by omega)]; omega)) (gCo wq_339) qn_28 qq_32 qq_338 rfl ks_X6_outside ⟨rfl, rfl⟩ rfl hl.1 rfl ⟨Nat.le_of_ble_eq_true rfl, Nat.le_of_ble_eq_true rfl⟩ ([] : List Nat) [0, 1] rfl rfl (by decide) (by decide) (by decide) rfl dX2_get_8 (fun r8 w1 H locs hw hP hD hS => ?_)
  obtain ⟨rfl, rfl⟩ := hw
  have hP : va_P Z.1 vwCl [(h, .inr (2, [.ref a, .int (nI hd), .int (nI sz)])), (a, xI Z N g)] H := hP
  have hD : va_D A [(h, .inr (2, [.ref a, .int (nI hd), .int (nI sz)])), (a, xI Z N g)] := hD
  refine ln_if_eq (tgt := 19) hx hb dX2_get_11 (by decide) (by omega) (fun h11 => False.elim (by omega)) (fun h11 => ?_)
  refine lv_bipush (v := (-9)) hx hb dX2_get_14 (by decide) ?_
  refine lv_goto (tgt := 34) hx hb dX2_get_16 (by decide) ?_
  exact x_iret hC hr hk hP hD hS dX2_get_34 ⟨rfl, rfl⟩

set_option maxHeartbeats 4000000 in
set_option maxRecDepth 100000 in
theorem c_X2_append (l : Launch) (Z : xZ) (h a N hd sz : Nat) (g : Nat → Nat) (L : List Nat) (hN : N < 1000000) (hR : RR N hd g L) (hsz : sz = L.length) (x : Nat) (hx2 : L.length < N) : xMv l Z yX2_append vX2_append ({ frames := 1, cells := 0, slots := 0, locals := 21 } : Room) [.ref h, .int (nI x)] [(h, .inr (2, [.ref a, .int (nI hd), .int (nI sz)])), (a, xI Z N g)] (fun w => ∃ g2, RR N hd g2 (L ++ [x]) ∧ w = [(h, .inr (2, [.ref a, .int (nI hd), .int (nI (sz + 1))])), (a, xI Z N g2)]) := by
  refine x_v (by decide) rfl (Nat.le_of_ble_eq_true rfl) ?_
  intro p e s m args below meth c ls A hC hr hk hname hl hP hD hS
  have hx := hC.1.1
  have hb := hC.1.2.1
  have hml := hC.1.2.2.1
  have hown : s.vm.findClass RX2 = some m.cls := hC.1.2.2.2.1
  have hts := hC.1.2.2.2.2
  have hK := hC.2.1
  have qq_282 := hts (Cond.fieldLink RX2 25 "TagTower$LetterRow" "size" "I") (List.mem_cons_of_mem _ wq_282)
  have iX2 : ∀ w ∈ wsX20, w ∈ vX2_append := fun w h => List.mem_cons_of_mem _ (wi_X2 w h)
  have qq_279 := hts (Cond.fieldLink RX2 15 "TagTower$LetterRow" "cells" "[I") (List.mem_cons_of_mem _ wq_279)
  have qq_280 := hts (Cond.fieldLink RX2 21 "TagTower$LetterRow" "head" "I") (List.mem_cons_of_mem _ wq_280)
  have hl : lv_has ls 2 [(0, .ref h), (1, .int (nI x))] := hl
  have hP : va_P Z.1 vwCl [(h, .inr (2, [.ref a, .int (nI hd), .int (nI sz)])), (a, xI Z N g)] s.heap := hP
  have hD : va_D A [(h, .inr (2, [.ref a, .int (nI hd), .int (nI sz)])), (a, xI Z N g)] := hD
  have hR1 := hR.1
  have hR2 := hR.2.1
  refine lv_aload_n hx hb dX2_append_0 rfl (lv_at hl 0 rfl) ?_
  refine va_get (D := Z.1) (ci := 2) (v := .int (nI sz)) (C := RX2) (T := TX2) (N := 3) hx hb hts iX2 hown hK hP 0 rfl rfl 2 (Nat.le_of_ble_eq_true rfl) qq_282 (fun _ h9 => h9) rfl dX2_append_1 ?_
  refine lv_aload_n hx hb dX2_append_4 rfl (lv_at hl 0 rfl) ?_
  refine va_get (D := Z.1) (ci := 2) (v := .ref a) (C := RX2) (T := TX2) (N := 3) hx hb hts iX2 hown hK hP 0 rfl rfl 0 (Nat.le_of_ble_eq_true rfl) qq_279 (fun _ h9 => h9) rfl dX2_append_5 ?_
  refine va_alen (v := nI N) hx hb hK hP 1 0 rfl rfl rfl dX2_append_8 ?_
  refine ln_icmp_ge (tgt := 41) hx hb dX2_append_9 (by decide) (by omega) (by omega) (fun h9 => False.elim (by omega)) (fun h9 => ?_)
  refine lv_aload_n hx hb dX2_append_12 rfl (lv_at hl 0 rfl) ?_
  refine va_get (D := Z.1) (ci := 2) (v := .ref a) (C := RX2) (T := TX2) (N := 3) hx hb hts iX2 hown hK hP 0 rfl rfl 0 (Nat.le_of_ble_eq_true rfl) qq_279 (fun _ h9 => h9) rfl dX2_append_13 ?_
  refine lv_aload_n hx hb dX2_append_16 rfl (lv_at hl 0 rfl) ?_
  refine lv_aload_n hx hb dX2_append_17 rfl (lv_at hl 0 rfl) ?_
  refine va_get (D := Z.1) (ci := 2) (v := .int (nI hd)) (C := RX2) (T := TX2) (N := 3) hx hb hts iX2 hown hK hP 0 rfl rfl 1 (Nat.le_of_ble_eq_true rfl) qq_280 (fun _ h9 => h9) rfl dX2_append_18 ?_
  refine lv_aload_n hx hb dX2_append_21 rfl (lv_at hl 0 rfl) ?_
  refine va_get (D := Z.1) (ci := 2) (v := .int (nI sz)) (C := RX2) (T := TX2) (N := 3) hx hb hts iX2 hown hK hP 0 rfl rfl 2 (Nat.le_of_ble_eq_true rfl) qq_282 (fun _ h9 => h9) rfl dX2_append_22 ?_
  refine ln_iadd (hd + sz) hx hb dX2_append_25 (by first | rfl | omega) ?_
  refine x_Vi (y := yX2_wrapped) (As := [.int (nI (hd + sz))]) (wc := [(h, .inr (2, [.ref a, .int (nI hd), .int (nI sz)])), (a, xI Z N g)]) (wr := []) hC hP hD hS (c_X2_wrapped l Z h a N hd sz g (by omega) (hd + sz) (by omega)) (gV wq_503 wq_500 wq_502 wq_7 wq_43) rfl kv_X2_wrapped rfl rfl ⟨rfl, rfl⟩ rfl hl.1 rfl ⟨Nat.le_of_ble_eq_true rfl, Nat.le_of_ble_eq_true rfl⟩ [0, 1] ([] : List Nat) rfl rfl (by decide) (by decide) (by decide) rfl dX2_append_26 (fun r26 w1 H locs hw hP hD hS => ?_)
  obtain ⟨rfl, rfl⟩ := hw
  have hP : va_P Z.1 vwCl [(h, .inr (2, [.ref a, .int (nI hd), .int (nI sz)])), (a, xI Z N g)] H := hP
  have hD : va_D A [(h, .inr (2, [.ref a, .int (nI hd), .int (nI sz)])), (a, xI Z N g)] := hD
  refine lv_iload_n hx hb dX2_append_29 rfl (lv_at hl 1 rfl) ?_
  refine ln_iast hx hb hK hP hD hS 1 rfl (xwr_lt (by omega)) (by omega) dX2_append_30 (fun H locs hP hD hS => ?_)
  have hP : va_P Z.1 vwCl [(h, .inr (2, [.ref a, .int (nI hd), .int (nI sz)])), (a, xI Z N (va_up g (xwr N (hd + sz)) x))] H := hP
  have hD : va_D A [(h, .inr (2, [.ref a, .int (nI hd), .int (nI sz)])), (a, xI Z N (va_up g (xwr N (hd + sz)) x))] := hD
  refine lv_aload_n hx hb dX2_append_31 rfl (lv_at hl 0 rfl) ?_
  refine lv_dup hx hb dX2_append_32 rfl ?_
  refine va_get (D := Z.1) (ci := 2) (v := .int (nI sz)) (C := RX2) (T := TX2) (N := 3) hx hb hts iX2 hown hK hP 0 rfl rfl 2 (Nat.le_of_ble_eq_true rfl) qq_282 (fun _ h9 => h9) rfl dX2_append_33 ?_
  refine ln_const 1 hx hb dX2_append_36 (by decide) ?_
  refine ln_iadd (sz + 1) hx hb dX2_append_37 (by first | rfl | omega) ?_
  refine va_put (D := Z.1) (ci := 2) (v := .int (nI (sz + 1))) (ty := tyX2 2) (C := RX2) (T := TX2) (N := 3) hx hb hts iX2 tyX2 tyX2_ok nmX2 hown hK hP hD hS 0 rfl rfl 2 (Nat.le_of_ble_eq_true rfl) qq_282 (fun _ h9 => h9) rfl (tyX2_ok 2 (Nat.le_of_ble_eq_true rfl)) rfl rfl (Nat.le_of_ble_eq_true rfl) dX2_append_38 (fun H locs hP hD hS => ?_)
  have hP : va_P Z.1 vwCl [(h, .inr (2, [.ref a, .int (nI hd), .int (nI (sz + 1))])), (a, xI Z N (va_up g (xwr N (hd + sz)) x))] H := hP
  have hD : va_D A [(h, .inr (2, [.ref a, .int (nI hd), .int (nI (sz + 1))])), (a, xI Z N (va_up g (xwr N (hd + sz)) x))] := hD
  exact x_vret hC hr hk hP hD hS dX2_append_41 ⟨_, by rw [xwr_mod (by omega), hsz]; exact hR.push hx2, rfl⟩

set_option maxHeartbeats 4000000 in
set_option maxRecDepth 100000 in
theorem c_X2_drop (l : Launch) (Z : xZ) (h a N hd sz : Nat) (g : Nat → Nat) (L : List Nat) (hN : N < 1000000) (hR : RR N hd g L) (hsz : sz = L.length) (k : Nat) (hk2 : k ≤ L.length) : xMv l Z yX2_drop vX2_drop ({ frames := 1, cells := 0, slots := 0, locals := 21 } : Room) [.ref h, .int (nI k)] [(h, .inr (2, [.ref a, .int (nI hd), .int (nI sz)])), (a, xI Z N g)] (fun w => RR N (xwr N (hd + k)) g (L.drop k) ∧ w = [(h, .inr (2, [.ref a, .int (nI (xwr N (hd + k))), .int (nI (sz - k))])), (a, xI Z N g)]) := by
  refine x_v (by decide) rfl (Nat.le_of_ble_eq_true rfl) ?_
  intro p e s m args below meth c ls A hC hr hk hname hl hP hD hS
  have hx := hC.1.1
  have hb := hC.1.2.1
  have hml := hC.1.2.2.1
  have hown : s.vm.findClass RX2 = some m.cls := hC.1.2.2.2.1
  have hts := hC.1.2.2.2.2
  have hK := hC.2.1
  have qq_282 := hts (Cond.fieldLink RX2 25 "TagTower$LetterRow" "size" "I") (List.mem_cons_of_mem _ wq_282)
  have iX2 : ∀ w ∈ wsX20, w ∈ vX2_drop := fun w h => List.mem_cons_of_mem _ (wi_X2 w h)
  have qq_548 := hts (Cond.methodLink RX2 36 Lib.Math.min.name) (List.mem_cons_of_mem _ wq_548)
  have qq_205 := hts (Cond.static Lib.Math.min.name) (List.mem_cons_of_mem _ wq_205)
  have qq_40 := hts (Cond.initialized "java/lang/Math") (List.mem_cons_of_mem _ wq_40)
  have qq_206 := hts (Cond.code Lib.Math.min.name Lib.Math.min.code 2 (some .int)) (List.mem_cons_of_mem _ wq_206)
  have qq_280 := hts (Cond.fieldLink RX2 21 "TagTower$LetterRow" "head" "I") (List.mem_cons_of_mem _ wq_280)
  have hl : lv_has ls 3 [(0, .ref h), (1, .int (nI k))] := hl
  have hP : va_P Z.1 vwCl [(h, .inr (2, [.ref a, .int (nI hd), .int (nI sz)])), (a, xI Z N g)] s.heap := hP
  have hD : va_D A [(h, .inr (2, [.ref a, .int (nI hd), .int (nI sz)])), (a, xI Z N g)] := hD
  have hR1 := hR.1
  have hR2 := hR.2.1
  refine lv_iload_n hx hb dX2_drop_0 rfl (lv_at hl 1 rfl) ?_
  refine lv_aload_n hx hb dX2_drop_1 rfl (lv_at hl 0 rfl) ?_
  refine va_get (D := Z.1) (ci := 2) (v := .int (nI sz)) (C := RX2) (T := TX2) (N := 3) hx hb hts iX2 hown hK hP 0 rfl rfl 2 (Nat.le_of_ble_eq_true rfl) qq_282 (fun _ h9 => h9) rfl dX2_drop_2 ?_
  refine va_mmin hx hb (by rw [hml]; exact hl.1.symm) hown qq_548 qq_205 qq_40 qq_206 (Nat.le_of_ble_eq_true rfl) (Nat.le_of_ble_eq_true rfl) (Nat.le_of_ble_eq_true rfl) (Nat.le_of_ble_eq_true rfl) dX2_drop_5 ?_
  refine ln_top (y := nI k) (by subst hsz; rw [if_neg (nI_nlt hk2 (by omega))]) ?_
  refine lv_istore_n (lv' := [(2, .int (nI k)), (0, .ref h), (1, .int (nI k))]) hx hb dX2_drop_8 rfl hl (by decide) rfl (fun ls hl => ?_)
  refine lv_aload_n hx hb dX2_drop_9 rfl (lv_at hl 1 rfl) ?_
  refine lv_aload_n hx hb dX2_drop_10 rfl (lv_at hl 1 rfl) ?_
  refine lv_aload_n hx hb dX2_drop_11 rfl (lv_at hl 1 rfl) ?_
  refine va_get (D := Z.1) (ci := 2) (v := .int (nI hd)) (C := RX2) (T := TX2) (N := 3) hx hb hts iX2 hown hK hP 0 rfl rfl 1 (Nat.le_of_ble_eq_true rfl) qq_280 (fun _ h9 => h9) rfl dX2_drop_12 ?_
  refine lv_iload_n hx hb dX2_drop_15 rfl (lv_at hl 0 rfl) ?_
  refine ln_iadd (hd + k) hx hb dX2_drop_16 (by first | rfl | omega) ?_
  refine x_Vi (y := yX2_wrapped) (As := [.int (nI (hd + k))]) (wc := [(h, .inr (2, [.ref a, .int (nI hd), .int (nI sz)])), (a, xI Z N g)]) (wr := []) hC hP hD hS (c_X2_wrapped l Z h a N hd sz g (by omega) (hd + k) (by omega)) (gV wq_503 wq_500 wq_502 wq_7 wq_43) rfl kv_X2_wrapped rfl rfl ⟨rfl, rfl⟩ rfl hl.1 rfl ⟨Nat.le_of_ble_eq_true rfl, Nat.le_of_ble_eq_true rfl⟩ [0, 1] ([] : List Nat) rfl rfl (by decide) (by decide) (by decide) rfl dX2_drop_17 (fun r17 w1 H locs hw hP hD hS => ?_)
  obtain ⟨rfl, rfl⟩ := hw
  have hP : va_P Z.1 vwCl [(h, .inr (2, [.ref a, .int (nI hd), .int (nI sz)])), (a, xI Z N g)] H := hP
  have hD : va_D A [(h, .inr (2, [.ref a, .int (nI hd), .int (nI sz)])), (a, xI Z N g)] := hD
  refine va_put (D := Z.1) (ci := 2) (v := .int (nI (xwr N (hd + k)))) (ty := tyX2 1) (C := RX2) (T := TX2) (N := 3) hx hb hts iX2 tyX2 tyX2_ok nmX2 hown hK hP hD hS 0 rfl rfl 1 (Nat.le_of_ble_eq_true rfl) qq_280 (fun _ h9 => h9) rfl (tyX2_ok 1 (Nat.le_of_ble_eq_true rfl)) rfl rfl (Nat.le_of_ble_eq_true rfl) dX2_drop_20 (fun H locs hP hD hS => ?_)
  have hP : va_P Z.1 vwCl [(h, .inr (2, [.ref a, .int (nI (xwr N (hd + k))), .int (nI sz)])), (a, xI Z N g)] H := hP
  have hD : va_D A [(h, .inr (2, [.ref a, .int (nI (xwr N (hd + k))), .int (nI sz)])), (a, xI Z N g)] := hD
  refine lv_aload_n hx hb dX2_drop_23 rfl (lv_at hl 1 rfl) ?_
  refine lv_dup hx hb dX2_drop_24 rfl ?_
  refine va_get (D := Z.1) (ci := 2) (v := .int (nI sz)) (C := RX2) (T := TX2) (N := 3) hx hb hts iX2 hown hK hP 0 rfl rfl 2 (Nat.le_of_ble_eq_true rfl) qq_282 (fun _ h9 => h9) rfl dX2_drop_25 ?_
  refine lv_iload_n hx hb dX2_drop_28 rfl (lv_at hl 0 rfl) ?_
  refine ln_isub (sz - k) hx hb dX2_drop_29 (by omega) (by first | rfl | omega) ?_
  refine va_put (D := Z.1) (ci := 2) (v := .int (nI (sz - k))) (ty := tyX2 2) (C := RX2) (T := TX2) (N := 3) hx hb hts iX2 tyX2 tyX2_ok nmX2 hown hK hP hD hS 0 rfl rfl 2 (Nat.le_of_ble_eq_true rfl) qq_282 (fun _ h9 => h9) rfl (tyX2_ok 2 (Nat.le_of_ble_eq_true rfl)) rfl rfl (Nat.le_of_ble_eq_true rfl) dX2_drop_30 (fun H locs hP hD hS => ?_)
  have hP : va_P Z.1 vwCl [(h, .inr (2, [.ref a, .int (nI (xwr N (hd + k))), .int (nI (sz - k))])), (a, xI Z N g)] H := hP
  have hD : va_D A [(h, .inr (2, [.ref a, .int (nI (xwr N (hd + k))), .int (nI (sz - k))])), (a, xI Z N g)] := hD
  exact x_vret hC hr hk hP hD hS dX2_drop_33 ⟨by rw [xwr_mod (by omega)]; exact hR.drop hk2, rfl⟩

theorem kv_X2_empty : yX2_empty.cls = RX2 ∧ yX2_empty.cls ≠ "java/lang/invoke/MethodHandle" ∧ yX2_empty.cls ≠ "java/lang/invoke/VarHandle" ∧ (parseMethodDescriptor yX2_empty.desc).map (fun d => d.parameters.length) = some 0 := by decide +kernel
theorem kv_X2_get : yX2_get.cls = RX2 ∧ yX2_get.cls ≠ "java/lang/invoke/MethodHandle" ∧ yX2_get.cls ≠ "java/lang/invoke/VarHandle" ∧ (parseMethodDescriptor yX2_get.desc).map (fun d => d.parameters.length) = some 1 := by decide +kernel
theorem kv_X2_append : yX2_append.cls = RX2 ∧ yX2_append.cls ≠ "java/lang/invoke/MethodHandle" ∧ yX2_append.cls ≠ "java/lang/invoke/VarHandle" ∧ (parseMethodDescriptor yX2_append.desc).map (fun d => d.parameters.length) = some 1 := by decide +kernel
set_option maxHeartbeats 4000000 in
set_option maxRecDepth 100000 in
theorem c_X2_become (l : Launch) (Z : xZ) (h a N hd sz : Nat) (g : Nat → Nat) (hN : N < 1000000) (h2 a2 N2 hd2 sz2 : Nat) (g2 : Nat → Nat) (L2 : List Nat) (hN2 : N2 < 1000000) (hR2 : RR N2 hd2 g2 L2) (hsz2 : sz2 = L2.length) (hfit : L2.length ≤ N) (hpos : 0 < N) : xMv l Z yX2_become vX2_become ({ frames := 2, cells := 0, slots := 0, locals := 43 } : Room) [.ref h, .ref h2] [(h, .inr (2, [.ref a, .int (nI hd), .int (nI sz)])), (a, xI Z N g), (h2, .inr (2, [.ref a2, .int (nI hd2), .int (nI sz2)])), (a2, xI Z N2 g2)] (fun w => ∃ hd1 g1, RR N hd1 g1 L2 ∧ w = [(h, .inr (2, [.ref a, .int (nI hd1), .int (nI sz2)])), (a, xI Z N g1), (h2, .inr (2, [.ref a2, .int (nI hd2), .int (nI sz2)])), (a2, xI Z N2 g2)]) := by
  refine x_v (by decide) rfl (Nat.le_of_ble_eq_true rfl) ?_
  intro p e s m args below meth c ls A hC hr hk hname hl hP hD hS
  have hx := hC.1.1
  have hb := hC.1.2.1
  have hml := hC.1.2.2.1
  have hown : s.vm.findClass RX2 = some m.cls := hC.1.2.2.2.1
  have hts := hC.1.2.2.2.2
  have hK := hC.2.1
  have qq_282 := hts (Cond.fieldLink RX2 25 "TagTower$LetterRow" "size" "I") (List.mem_cons_of_mem _ wq_282)
  have iX2 : ∀ w ∈ wsX20, w ∈ vX2_become := fun w h => List.mem_cons_of_mem _ (wi_X2 w h)
  have hl : lv_has ls 3 [(0, .ref h), (1, .ref h2)] := hl
  have hP : va_P Z.1 vwCl [(h, .inr (2, [.ref a, .int (nI hd), .int (nI sz)])), (a, xI Z N g), (h2, .inr (2, [.ref a2, .int (nI hd2), .int (nI sz2)])), (a2, xI Z N2 g2)] s.heap := hP
  have hD : va_D A [(h, .inr (2, [.ref a, .int (nI hd), .int (nI sz)])), (a, xI Z N g), (h2, .inr (2, [.ref a2, .int (nI hd2), .int (nI sz2)])), (a2, xI Z N2 g2)] := hD
  have hR21 := hR2.1
  have hR22 := hR2.2.1
  refine lv_aload_n hx hb dX2_become_0 rfl (lv_at hl 0 rfl) ?_
  refine x_Vv (y := yX2_empty) (As := []) (wc := [(h, .inr (2, [.ref a, .int (nI hd), .int (nI sz)])), (a, xI Z N g)]) (wr := [(h2, .inr (2, [.ref a2, .int (nI hd2), .int (nI sz2)])), (a2, xI Z N2 g2)]) hC hP hD hS (c_X2_empty l Z h a N hd sz g (by omega)) (gV wq_491 wq_566 wq_489 wq_490 wq_43) rfl kv_X2_empty rfl rfl ⟨rfl, rfl⟩ rfl hl.1 rfl ⟨Nat.le_of_ble_eq_true rfl, Nat.le_of_ble_eq_true rfl⟩ [0, 1] [2, 3] rfl rfl (by decide) (by decide) (by decide) rfl dX2_become_1 (fun w1 H locs hw hP hD hS => ?_)
  obtain rfl := hw
  have hP := hP.sub (ws' := [(h, .inr (2, [.ref a, .int (nI 0), .int (nI 0)])), (a, xI Z N g), (h2, .inr (2, [.ref a2, .int (nI hd2), .int (nI sz2)])), (a2, xI Z N2 g2)]) [2, 3, 0, 1] rfl
  have hD := hD.sub (ws' := [(h, .inr (2, [.ref a, .int (nI 0), .int (nI 0)])), (a, xI Z N g), (h2, .inr (2, [.ref a2, .int (nI hd2), .int (nI sz2)])), (a2, xI Z N2 g2)]) [2, 3, 0, 1] (by decide) rfl
  refine ln_const 0 hx hb dX2_become_4 (by decide) ?_
  refine lv_istore_n (lv' := [(2, .int (nI 0)), (0, .ref h), (1, .ref h2)]) hx hb dX2_become_5 rfl hl (by decide) rfl (fun ls hl => ?_)
  have hloop6 : ∀ (nn : Nat) (k hd1 sz1 : Nat) (g1 : Nat → Nat) (H : Heap) (locs : List Loc) (ls : Array Slot) (hk1 : k ≤ L2.length) (hR1 : RR N hd1 g1 (L2.take k)) (hs1 : sz1 = k) (hmu : L2.length - k < nn) (hP : va_P Z.1 vwCl [(h, .inr (2, [.ref a, .int (nI hd1), .int (nI sz1)])), (a, xI Z N g1), (h2, .inr (2, [.ref a2, .int (nI hd2), .int (nI sz2)])), (a2, xI Z N2 g2)] H) (hD : va_D A [(h, .inr (2, [.ref a, .int (nI hd1), .int (nI sz1)])), (a, xI Z N g1), (h2, .inr (2, [.ref a2, .int (nI hd2), .int (nI sz2)])), (a2, xI Z N2 g2)]) (hS : va_S A s.heap H locs) (hl : lv_has ls 3 [(0, .ref h), (1, .ref h2), (2, .int (nI k))]), W p l e ({ frames := 2, cells := 0, slots := 0, locals := 43 } : Room) s m args below meth c H locs 0 0 (MQ below (va_Qv (fun w => ∃ hd1 g1, RR N hd1 g1 L2 ∧ w = [(h, .inr (2, [.ref a, .int (nI hd1), .int (nI sz2)])), (a, xI Z N g1), (h2, .inr (2, [.ref a2, .int (nI hd2), .int (nI sz2)])), (a2, xI Z N2 g2)]) (xB Z A) A) args s ({ frames := 2, cells := 0, slots := 0, locals := 43 } : Room).cells ({ frames := 2, cells := 0, slots := 0, locals := 43 } : Room).slots A) (F0 m 6 ls []) := by
    intro nn
    induction nn with
    | zero => intro k hd1 sz1 g1 H locs ls hk1 hR1 hs1 hmu; exact absurd hmu (Nat.not_lt_zero _)
    | succ nn ih =>
      intro k hd1 sz1 g1 H locs ls hk1 hR1 hs1 hmu hP hD hS hl
      refine lv_iload_n hx hb dX2_become_6 rfl (lv_at hl 2 rfl) ?_
      refine lv_aload_n hx hb dX2_become_7 rfl (lv_at hl 1 rfl) ?_
      refine va_get (D := Z.1) (ci := 2) (v := .int (nI sz2)) (C := RX2) (T := TX2) (N := 3) hx hb hts iX2 hown hK hP 2 rfl rfl 2 (Nat.le_of_ble_eq_true rfl) qq_282 (fun _ h9 => h9) rfl dX2_become_8 ?_
      refine ln_icmp_ge (tgt := 29) hx hb dX2_become_11 (by decide) (by omega) (by omega) (fun h11 => ?_) (fun h11 => ?_)
      · exact x_vret hC hr hk hP hD hS dX2_become_29 ⟨hd1, g1, by rw [List.take_of_length_le (by omega)] at hR1; exact hR1, by rw [show sz1 = sz2 by omega]⟩
      · refine lv_aload_n hx hb dX2_become_14 rfl (lv_at hl 0 rfl) ?_
        refine lv_aload_n hx hb dX2_become_15 rfl (lv_at hl 1 rfl) ?_
        refine lv_iload_n hx hb dX2_become_16 rfl (lv_at hl 2 rfl) ?_
        refine x_Vi (y := yX2_get) (As := [.int (nI k)]) (wc := [(h2, .inr (2, [.ref a2, .int (nI hd2), .int (nI sz2)])), (a2, xI Z N2 g2)]) (wr := [(h, .inr (2, [.ref a, .int (nI hd1), .int (nI sz1)])), (a, xI Z N g1)]) hC hP hD hS (c_X2_get_in l Z h2 a2 N2 hd2 sz2 g2 L2 (by omega) hR2 hsz2 k (by omega)) (gV wq_524 wq_567 wq_522 wq_523 wq_43) rfl kv_X2_get rfl rfl ⟨rfl, rfl⟩ rfl hl.1 rfl ⟨Nat.le_of_ble_eq_true rfl, Nat.le_of_ble_eq_true rfl⟩ [2, 3] [0, 1] rfl rfl (by decide) (by decide) (by decide) rfl dX2_become_17 (fun r17 w1 H locs hw hP hD hS => ?_)
        obtain ⟨rfl, rfl⟩ := hw
        have hP : va_P Z.1 vwCl [(h, .inr (2, [.ref a, .int (nI hd1), .int (nI sz1)])), (a, xI Z N g1), (h2, .inr (2, [.ref a2, .int (nI hd2), .int (nI sz2)])), (a2, xI Z N2 g2)] H := hP
        have hD : va_D A [(h, .inr (2, [.ref a, .int (nI hd1), .int (nI sz1)])), (a, xI Z N g1), (h2, .inr (2, [.ref a2, .int (nI hd2), .int (nI sz2)])), (a2, xI Z N2 g2)] := hD
        refine x_Vv (y := yX2_append) (As := [.int (nI (L2.getD k 0))]) (wc := [(h, .inr (2, [.ref a, .int (nI hd1), .int (nI sz1)])), (a, xI Z N g1)]) (wr := [(h2, .inr (2, [.ref a2, .int (nI hd2), .int (nI sz2)])), (a2, xI Z N2 g2)]) hC hP hD hS (c_X2_append l Z h a N hd1 sz1 g1 (L2.take k) (by omega) hR1 (by rw [List.length_take]; omega) (L2.getD k 0) (by rw [List.length_take]; omega)) (gV wq_499 wq_568 wq_497 wq_498 wq_43) rfl kv_X2_append rfl rfl ⟨rfl, rfl⟩ rfl hl.1 rfl ⟨Nat.le_of_ble_eq_true rfl, Nat.le_of_ble_eq_true rfl⟩ [0, 1] [2, 3] rfl rfl (by decide) (by decide) (by decide) rfl dX2_become_20 (fun w1 H locs hw hP hD hS => ?_)
        obtain ⟨g3, hg3, rfl⟩ := hw
        have hP := hP.sub (ws' := [(h, .inr (2, [.ref a, .int (nI hd1), .int (nI (sz1 + 1))])), (a, xI Z N g3), (h2, .inr (2, [.ref a2, .int (nI hd2), .int (nI sz2)])), (a2, xI Z N2 g2)]) [2, 3, 0, 1] rfl
        have hD := hD.sub (ws' := [(h, .inr (2, [.ref a, .int (nI hd1), .int (nI (sz1 + 1))])), (a, xI Z N g3), (h2, .inr (2, [.ref a2, .int (nI hd2), .int (nI sz2)])), (a2, xI Z N2 g2)]) [2, 3, 0, 1] (by decide) rfl
        refine ln_iinc (k0 := 2) (k := 1) (k + 1) (lv' := [(2, .int (nI (k + 1))), (0, .ref h), (1, .ref h2)]) hx hb dX2_become_23 hl rfl rfl (by first | rfl | omega) (by decide) rfl (fun ls hl => ?_)
        refine lv_goto (tgt := 6) hx hb dX2_become_26 (by decide) ?_
        exact ih  (k + 1) hd1 (sz1 + 1) g3 _ _ _ (by omega) (by rw [List.take_succ_eq_append_getElem (show k < L2.length by omega)]; rw [List.getD_eq_getElem?_getD, List.getElem?_eq_getElem (show k < L2.length by omega)] at hg3; exact hg3) (by omega) (by omega) hP hD hS (lv_sub hl [1, 2, 0] rfl)
  exact hloop6 ((L2.length - 0) + 1) 0 0 0 g _ _ _ (Nat.zero_le _) (RR.nil (by omega)) rfl (Nat.lt_succ_self _) hP hD hS (lv_sub hl [1, 2, 0] rfl)
end
section
/-- the machine's rows of rules hold R -/
def MR (R : xRl) (ru sg wy ts : Nat → Nat) : Prop := (∀ q, q < 6 → R q = none → ru q = 0) ∧ ∀ q z, q < 6 → R q = some z → ru q = 1 ∧ sg q = z.1 ∧ wy q = z.2.1 ∧ ts q = z.2.2
def rone (R : xRl) (q : Nat) : Nat := if (R q).isSome then 1 else 0
def rcount (R : xRl) : Nat := rone R 0 + rone R 1 + rone R 2 + rone R 3 + rone R 4 + rone R 5
theorem rone_up (R : xRl) (q j : Nat) (z : Option (Nat × Nat × Nat)) : rone (va_up R q z) j = if j = q then (if z.isSome then 1 else 0) else rone R j := by
  unfold rone va_up
  split <;> rfl
theorem rone_some {R : xRl} {q : Nat} {z : Nat × Nat × Nat} (h : R q = some z) : rone R q = 1 := by unfold rone; rw [h]; rfl
theorem rone_none {R : xRl} {q : Nat} (h : R q = none) : rone R q = 0 := by unfold rone; rw [h]; rfl
theorem rone_le (R : xRl) (q : Nat) : rone R q ≤ 1 := by unfold rone; split <;> omega
theorem rcount_put {R : xRl} {q : Nat} (hq : q < 6) (z : Nat × Nat × Nat) : rcount (va_up R q (some z)) + rone R q = rcount R + 1 := by
  unfold rcount
  simp only [rone_up]
  rcases (show q = 0 ∨ q = 1 ∨ q = 2 ∨ q = 3 ∨ q = 4 ∨ q = 5 by omega) with rfl | rfl | rfl | rfl | rfl | rfl <;> simp <;> omega
theorem rcount_drop {R : xRl} {q : Nat} (hq : q < 6) : rcount (va_up R q none) + rone R q = rcount R := by
  unfold rcount
  simp only [rone_up]
  rcases (show q = 0 ∨ q = 1 ∨ q = 2 ∨ q = 3 ∨ q = 4 ∨ q = 5 by omega) with rfl | rfl | rfl | rfl | rfl | rfl <;> simp <;> omega
theorem rcount_le (R : xRl) : rcount R ≤ 6 := by
  unfold rcount
  have := rone_le R 0; have := rone_le R 1; have := rone_le R 2; have := rone_le R 3; have := rone_le R 4; have := rone_le R 5
  omega
theorem MR.put {R : xRl} {ru sg wy ts : Nat → Nat} (h : MR R ru sg wy ts) (q w y t : Nat) : MR (va_up R q (some (w, y, t))) (va_up ru q 1) (va_up sg q w) (va_up wy q y) (va_up ts q t) := by
  refine ⟨fun j hj hn => ?_, fun j z hj hz => ?_⟩
  · unfold va_up at hn ⊢
    split at hn
    · cases hn
    · next e => rw [if_neg e]; exact h.1 j hj hn
  · unfold va_up at hz ⊢
    split at hz
    · next e => cases hz; simp [e]
    · next e => simp only [if_neg e]; exact h.2 j z hj hz
theorem MR.put1 {R : xRl} {ru sg wy ts : Nat → Nat} (h : MR R ru sg wy ts) (q w y t : Nat) (h1 : ru q = 1) : MR (va_up R q (some (w, y, t))) ru (va_up sg q w) (va_up wy q y) (va_up ts q t) := by
  have e : va_up ru q 1 = ru := by
    funext j
    unfold va_up
    split
    · next e => rw [e, h1]
    · rfl
  have := h.put q w y t
  rw [e] at this
  exact this
theorem MR.drop {R : xRl} {ru sg wy ts : Nat → Nat} (h : MR R ru sg wy ts) (q : Nat) : MR (va_up R q none) (va_up ru q 0) sg wy ts := by
  refine ⟨fun j hj hn => ?_, fun j z hj hz => ?_⟩
  · unfold va_up at hn ⊢
    split at hn
    · next e => rw [if_pos e]
    · next e => rw [if_neg e]; exact h.1 j hj hn
  · unfold va_up at hz ⊢
    split at hz
    · cases hz
    · next e => rw [if_neg e]; exact h.2 j z hj hz
theorem RV.put {R : xRl} (h : RV R) {q w y t : Nat} (hw : w < 2) (hy : y < 2) (ht : t < 3) : RV (va_up R q (some (w, y, t))) := by
  intro j z hz
  unfold va_up at hz
  split at hz
  · cases hz; exact ⟨hw, hy, ht⟩
  · exact h j z hz
theorem RV.drop {R : xRl} (h : RV R) (q : Nat) : RV (va_up R q none) := by
  intro j z hz
  unfold va_up at hz
  split at hz
  · cases hz
  · exact h j z hz
/-- a place of the machine -/
def PV (P : Nat × Nat × Nat × Nat) : Prop := P.1 < 3 ∧ P.2.1 < 2 ∧ P.2.2.1 ≤ 100000 ∧ P.2.2.2 ≤ 100000
theorem mstep_ok {R : xRl} (hR : RV R) {P P' : Nat × Nat × Nat × Nat} (h : PV P) (e : mstep R P = some P') : PV P' := by
  obtain ⟨q, u, f, g⟩ := P
  unfold mstep at e
  dsimp only at e
  split at e
  · cases e
  · next z hz =>
    obtain ⟨z1, z2, z3⟩ := hR _ _ hz
    obtain ⟨h1, h2, h3, h4⟩ := h
    dsimp only at h1 h2 h3 h4
    split at e
    · split at e
      · cases e; refine ⟨z3, ?_, ?_, ?_⟩ <;> dsimp only <;> omega
      · cases e
    · split at e
      · cases e; refine ⟨z3, ?_, ?_, ?_⟩ <;> dsimp only <;> omega
      · cases e

set_option maxHeartbeats 4000000 in
set_option maxRecDepth 100000 in
theorem c_X3_putRule (l : Launch) (Z : xZ) (hm a0 a1 a2 a3 : Nat) (ru sg wy ts : Nat → Nat) (rc q u f g : Nat) (R : xRl) (hM : MR R ru sg wy ts) (hrc : rc = rcount R) (j w y t : Nat) (hj : j < 6) : xMi l Z yX3_putRule vX3_putRule ({ frames := 0, cells := 0, slots := 0, locals := 0 } : Room) [.ref hm, .int (nI j), .int (nI w), .int (nI y), .int (nI t)] [(hm, .inr (3, [.ref a0, .ref a1, .ref a2, .ref a3, .int (nI rc), .int (nI q), .int (nI u), .int (nI f), .int (nI g)])), (a0, xO Z 6 ru), (a1, xI Z 6 sg), (a2, xI Z 6 wy), (a3, xI Z 6 ts)] (fun r v => ∃ ru2 sg2 wy2 ts2, MR (va_up R j (some (w, y, t))) ru2 sg2 wy2 ts2 ∧ r = nI (rcount (va_up R j (some (w, y, t)))) ∧ v = [(hm, .inr (3, [.ref a0, .ref a1, .ref a2, .ref a3, .int (nI (rcount (va_up R j (some (w, y, t))))), .int (nI q), .int (nI u), .int (nI f), .int (nI g)])), (a0, xO Z 6 ru2), (a1, xI Z 6 sg2), (a2, xI Z 6 wy2), (a3, xI Z 6 ts2)]) := by
  refine x_i (by decide) rfl (Nat.le_of_ble_eq_true rfl) ?_
  intro p e s m args below meth c ls A hC hr hk hl hP hD hS
  have hx := hC.1.1
  have hb := hC.1.2.1
  have hml := hC.1.2.2.1
  have hown : s.vm.findClass RX3 = some m.cls := hC.1.2.2.2.1
  have hts := hC.1.2.2.2.2
  have hK := hC.2.1
  have qq_89 := hts (Cond.fieldLink RX3 9 "TagTower$Machine" "ruled" "[Z") (List.mem_cons_of_mem _ wq_89)
  have iX3 : ∀ w ∈ wsX30, w ∈ vX3_putRule := fun w h => List.mem_cons_of_mem _ (wi_X3 w h)
  have qq_93 := hts (Cond.fieldLink RX3 25 "TagTower$Machine" "rules" "I") (List.mem_cons_of_mem _ wq_93)
  have qq_90 := hts (Cond.fieldLink RX3 15 "TagTower$Machine" "signs" "[I") (List.mem_cons_of_mem _ wq_90)
  have qq_91 := hts (Cond.fieldLink RX3 19 "TagTower$Machine" "ways" "[I") (List.mem_cons_of_mem _ wq_91)
  have qq_92 := hts (Cond.fieldLink RX3 22 "TagTower$Machine" "states" "[I") (List.mem_cons_of_mem _ wq_92)
  have hl : lv_has ls 5 [(0, .ref hm), (1, .int (nI j)), (2, .int (nI w)), (3, .int (nI y)), (4, .int (nI t))] := hl
  have hP : va_P Z.1 vwCl [(hm, .inr (3, [.ref a0, .ref a1, .ref a2, .ref a3, .int (nI rc), .int (nI q), .int (nI u), .int (nI f), .int (nI g)])), (a0, xO Z 6 ru), (a1, xI Z 6 sg), (a2, xI Z 6 wy), (a3, xI Z 6 ts)] s.heap := hP
  have hD : va_D A [(hm, .inr (3, [.ref a0, .ref a1, .ref a2, .ref a3, .int (nI rc), .int (nI q), .int (nI u), .int (nI f), .int (nI g)])), (a0, xO Z 6 ru), (a1, xI Z 6 sg), (a2, xI Z 6 wy), (a3, xI Z 6 ts)] := hD
  have hput := rcount_put (R := R) hj (w, y, t)
  have hle := rcount_le R
  rcases hcase : R j with _ | z
  · have hput := rcount_put (R := R) hj (w, y, t)
    have hle := rcount_le R
    refine lv_aload_n hx hb dX3_putRule_0 rfl (lv_at hl 0 rfl) ?_
    refine va_get (D := Z.1) (ci := 3) (v := .ref a0) (C := RX3) (T := TX3) (N := 9) hx hb hts iX3 hown hK hP 0 rfl rfl 0 (Nat.le_of_ble_eq_true rfl) qq_89 (fun _ h9 => h9) rfl dX3_putRule_1 ?_
    refine lv_iload_n hx hb dX3_putRule_4 rfl (lv_at hl 1 rfl) ?_
    refine ln_zald hx hb hK hP 1 rfl (by omega) (by omega) dX3_putRule_5 ?_
    refine ln_top (y := nI 0) (by rw [hM.1 j hj hcase]) ?_
    refine ln_if_ne (tgt := 26) hx hb dX3_putRule_6 (by decide) (by omega) (fun h6 => False.elim (by omega)) (fun h6 => ?_)
    refine lv_aload_n hx hb dX3_putRule_9 rfl (lv_at hl 0 rfl) ?_
    refine va_get (D := Z.1) (ci := 3) (v := .ref a0) (C := RX3) (T := TX3) (N := 9) hx hb hts iX3 hown hK hP 0 rfl rfl 0 (Nat.le_of_ble_eq_true rfl) qq_89 (fun _ h9 => h9) rfl dX3_putRule_10 ?_
    refine lv_iload_n hx hb dX3_putRule_13 rfl (lv_at hl 1 rfl) ?_
    refine ln_const 1 hx hb dX3_putRule_14 (by decide) ?_
    refine ln_zast hx hb hK hP hD hS 1 rfl (by omega) (by omega) (by omega) dX3_putRule_15 (fun H locs hP hD hS => ?_)
    have hP : va_P Z.1 vwCl [(hm, .inr (3, [.ref a0, .ref a1, .ref a2, .ref a3, .int (nI rc), .int (nI q), .int (nI u), .int (nI f), .int (nI g)])), (a0, xO Z 6 (va_up ru j 1)), (a1, xI Z 6 sg), (a2, xI Z 6 wy), (a3, xI Z 6 ts)] H := hP
    have hD : va_D A [(hm, .inr (3, [.ref a0, .ref a1, .ref a2, .ref a3, .int (nI rc), .int (nI q), .int (nI u), .int (nI f), .int (nI g)])), (a0, xO Z 6 (va_up ru j 1)), (a1, xI Z 6 sg), (a2, xI Z 6 wy), (a3, xI Z 6 ts)] := hD
    refine lv_aload_n hx hb dX3_putRule_16 rfl (lv_at hl 0 rfl) ?_
    refine lv_dup hx hb dX3_putRule_17 rfl ?_
    refine va_get (D := Z.1) (ci := 3) (v := .int (nI rc)) (C := RX3) (T := TX3) (N := 9) hx hb hts iX3 hown hK hP 0 rfl rfl 4 (Nat.le_of_ble_eq_true rfl) qq_93 (fun _ h9 => h9) rfl dX3_putRule_18 ?_
    refine ln_const 1 hx hb dX3_putRule_21 (by decide) ?_
    refine ln_iadd (rc + 1) hx hb dX3_putRule_22 (by first | rfl | omega) ?_
    refine va_put (D := Z.1) (ci := 3) (v := .int (nI (rc + 1))) (ty := tyX3 4) (C := RX3) (T := TX3) (N := 9) hx hb hts iX3 tyX3 tyX3_ok nmX3 hown hK hP hD hS 0 rfl rfl 4 (Nat.le_of_ble_eq_true rfl) qq_93 (fun _ h9 => h9) rfl (tyX3_ok 4 (Nat.le_of_ble_eq_true rfl)) rfl rfl (Nat.le_of_ble_eq_true rfl) dX3_putRule_23 (fun H locs hP hD hS => ?_)
    have hP : va_P Z.1 vwCl [(hm, .inr (3, [.ref a0, .ref a1, .ref a2, .ref a3, .int (nI (rc + 1)), .int (nI q), .int (nI u), .int (nI f), .int (nI g)])), (a0, xO Z 6 (va_up ru j 1)), (a1, xI Z 6 sg), (a2, xI Z 6 wy), (a3, xI Z 6 ts)] H := hP
    have hD : va_D A [(hm, .inr (3, [.ref a0, .ref a1, .ref a2, .ref a3, .int (nI (rc + 1)), .int (nI q), .int (nI u), .int (nI f), .int (nI g)])), (a0, xO Z 6 (va_up ru j 1)), (a1, xI Z 6 sg), (a2, xI Z 6 wy), (a3, xI Z 6 ts)] := hD
    refine lv_aload_n hx hb dX3_putRule_26 rfl (lv_at hl 0 rfl) ?_
    refine va_get (D := Z.1) (ci := 3) (v := .ref a1) (C := RX3) (T := TX3) (N := 9) hx hb hts iX3 hown hK hP 0 rfl rfl 1 (Nat.le_of_ble_eq_true rfl) qq_90 (fun _ h9 => h9) rfl dX3_putRule_27 ?_
    refine lv_iload_n hx hb dX3_putRule_30 rfl (lv_at hl 1 rfl) ?_
    refine lv_iload_n hx hb dX3_putRule_31 rfl (lv_at hl 2 rfl) ?_
    refine ln_iast hx hb hK hP hD hS 2 rfl (by omega) (by omega) dX3_putRule_32 (fun H locs hP hD hS => ?_)
    have hP : va_P Z.1 vwCl [(hm, .inr (3, [.ref a0, .ref a1, .ref a2, .ref a3, .int (nI (rc + 1)), .int (nI q), .int (nI u), .int (nI f), .int (nI g)])), (a0, xO Z 6 (va_up ru j 1)), (a1, xI Z 6 (va_up sg j w)), (a2, xI Z 6 wy), (a3, xI Z 6 ts)] H := hP
    have hD : va_D A [(hm, .inr (3, [.ref a0, .ref a1, .ref a2, .ref a3, .int (nI (rc + 1)), .int (nI q), .int (nI u), .int (nI f), .int (nI g)])), (a0, xO Z 6 (va_up ru j 1)), (a1, xI Z 6 (va_up sg j w)), (a2, xI Z 6 wy), (a3, xI Z 6 ts)] := hD
    refine lv_aload_n hx hb dX3_putRule_33 rfl (lv_at hl 0 rfl) ?_
    refine va_get (D := Z.1) (ci := 3) (v := .ref a2) (C := RX3) (T := TX3) (N := 9) hx hb hts iX3 hown hK hP 0 rfl rfl 2 (Nat.le_of_ble_eq_true rfl) qq_91 (fun _ h9 => h9) rfl dX3_putRule_34 ?_
    refine lv_iload_n hx hb dX3_putRule_37 rfl (lv_at hl 1 rfl) ?_
    refine lv_iload_n hx hb dX3_putRule_38 rfl (lv_at hl 3 rfl) ?_
    refine ln_iast hx hb hK hP hD hS 3 rfl (by omega) (by omega) dX3_putRule_39 (fun H locs hP hD hS => ?_)
    have hP : va_P Z.1 vwCl [(hm, .inr (3, [.ref a0, .ref a1, .ref a2, .ref a3, .int (nI (rc + 1)), .int (nI q), .int (nI u), .int (nI f), .int (nI g)])), (a0, xO Z 6 (va_up ru j 1)), (a1, xI Z 6 (va_up sg j w)), (a2, xI Z 6 (va_up wy j y)), (a3, xI Z 6 ts)] H := hP
    have hD : va_D A [(hm, .inr (3, [.ref a0, .ref a1, .ref a2, .ref a3, .int (nI (rc + 1)), .int (nI q), .int (nI u), .int (nI f), .int (nI g)])), (a0, xO Z 6 (va_up ru j 1)), (a1, xI Z 6 (va_up sg j w)), (a2, xI Z 6 (va_up wy j y)), (a3, xI Z 6 ts)] := hD
    refine lv_aload_n hx hb dX3_putRule_40 rfl (lv_at hl 0 rfl) ?_
    refine va_get (D := Z.1) (ci := 3) (v := .ref a3) (C := RX3) (T := TX3) (N := 9) hx hb hts iX3 hown hK hP 0 rfl rfl 3 (Nat.le_of_ble_eq_true rfl) qq_92 (fun _ h9 => h9) rfl dX3_putRule_41 ?_
    refine lv_iload_n hx hb dX3_putRule_44 rfl (lv_at hl 1 rfl) ?_
    refine lv_iload hx hb dX3_putRule_45 (lv_at hl 4 rfl) ?_
    refine ln_iast hx hb hK hP hD hS 4 rfl (by omega) (by omega) dX3_putRule_47 (fun H locs hP hD hS => ?_)
    have hP : va_P Z.1 vwCl [(hm, .inr (3, [.ref a0, .ref a1, .ref a2, .ref a3, .int (nI (rc + 1)), .int (nI q), .int (nI u), .int (nI f), .int (nI g)])), (a0, xO Z 6 (va_up ru j 1)), (a1, xI Z 6 (va_up sg j w)), (a2, xI Z 6 (va_up wy j y)), (a3, xI Z 6 (va_up ts j t))] H := hP
    have hD : va_D A [(hm, .inr (3, [.ref a0, .ref a1, .ref a2, .ref a3, .int (nI (rc + 1)), .int (nI q), .int (nI u), .int (nI f), .int (nI g)])), (a0, xO Z 6 (va_up ru j 1)), (a1, xI Z 6 (va_up sg j w)), (a2, xI Z 6 (va_up wy j y)), (a3, xI Z 6 (va_up ts j t))] := hD
    refine lv_aload_n hx hb dX3_putRule_48 rfl (lv_at hl 0 rfl) ?_
    refine va_get (D := Z.1) (ci := 3) (v := .int (nI (rc + 1))) (C := RX3) (T := TX3) (N := 9) hx hb hts iX3 hown hK hP 0 rfl rfl 4 (Nat.le_of_ble_eq_true rfl) qq_93 (fun _ h9 => h9) rfl dX3_putRule_49 ?_
    rw [rone_none hcase] at hput
    exact x_iret hC hr hk hP hD hS dX3_putRule_52 ⟨_, _, _, _, hM.put j w y t, by rw [show rc + 1 = rcount (va_up R j (some (w, y, t))) by omega], by rw [show rc + 1 = rcount (va_up R j (some (w, y, t))) by omega]⟩
  · have hput := rcount_put (R := R) hj (w, y, t)
    have hle := rcount_le R
    refine lv_aload_n hx hb dX3_putRule_0 rfl (lv_at hl 0 rfl) ?_
    refine va_get (D := Z.1) (ci := 3) (v := .ref a0) (C := RX3) (T := TX3) (N := 9) hx hb hts iX3 hown hK hP 0 rfl rfl 0 (Nat.le_of_ble_eq_true rfl) qq_89 (fun _ h9 => h9) rfl dX3_putRule_1 ?_
    refine lv_iload_n hx hb dX3_putRule_4 rfl (lv_at hl 1 rfl) ?_
    refine ln_zald hx hb hK hP 1 rfl (by omega) (by omega) dX3_putRule_5 ?_
    refine ln_top (y := nI 1) (by rw [(hM.2 j z hj hcase).1]) ?_
    refine ln_if_ne (tgt := 26) hx hb dX3_putRule_6 (by decide) (by omega) (fun h6 => ?_) (fun h6 => False.elim (by omega))
    refine lv_aload_n hx hb dX3_putRule_26 rfl (lv_at hl 0 rfl) ?_
    refine va_get (D := Z.1) (ci := 3) (v := .ref a1) (C := RX3) (T := TX3) (N := 9) hx hb hts iX3 hown hK hP 0 rfl rfl 1 (Nat.le_of_ble_eq_true rfl) qq_90 (fun _ h9 => h9) rfl dX3_putRule_27 ?_
    refine lv_iload_n hx hb dX3_putRule_30 rfl (lv_at hl 1 rfl) ?_
    refine lv_iload_n hx hb dX3_putRule_31 rfl (lv_at hl 2 rfl) ?_
    refine ln_iast hx hb hK hP hD hS 2 rfl (by omega) (by omega) dX3_putRule_32 (fun H locs hP hD hS => ?_)
    have hP : va_P Z.1 vwCl [(hm, .inr (3, [.ref a0, .ref a1, .ref a2, .ref a3, .int (nI rc), .int (nI q), .int (nI u), .int (nI f), .int (nI g)])), (a0, xO Z 6 ru), (a1, xI Z 6 (va_up sg j w)), (a2, xI Z 6 wy), (a3, xI Z 6 ts)] H := hP
    have hD : va_D A [(hm, .inr (3, [.ref a0, .ref a1, .ref a2, .ref a3, .int (nI rc), .int (nI q), .int (nI u), .int (nI f), .int (nI g)])), (a0, xO Z 6 ru), (a1, xI Z 6 (va_up sg j w)), (a2, xI Z 6 wy), (a3, xI Z 6 ts)] := hD
    refine lv_aload_n hx hb dX3_putRule_33 rfl (lv_at hl 0 rfl) ?_
    refine va_get (D := Z.1) (ci := 3) (v := .ref a2) (C := RX3) (T := TX3) (N := 9) hx hb hts iX3 hown hK hP 0 rfl rfl 2 (Nat.le_of_ble_eq_true rfl) qq_91 (fun _ h9 => h9) rfl dX3_putRule_34 ?_
    refine lv_iload_n hx hb dX3_putRule_37 rfl (lv_at hl 1 rfl) ?_
    refine lv_iload_n hx hb dX3_putRule_38 rfl (lv_at hl 3 rfl) ?_
    refine ln_iast hx hb hK hP hD hS 3 rfl (by omega) (by omega) dX3_putRule_39 (fun H locs hP hD hS => ?_)
    have hP : va_P Z.1 vwCl [(hm, .inr (3, [.ref a0, .ref a1, .ref a2, .ref a3, .int (nI rc), .int (nI q), .int (nI u), .int (nI f), .int (nI g)])), (a0, xO Z 6 ru), (a1, xI Z 6 (va_up sg j w)), (a2, xI Z 6 (va_up wy j y)), (a3, xI Z 6 ts)] H := hP
    have hD : va_D A [(hm, .inr (3, [.ref a0, .ref a1, .ref a2, .ref a3, .int (nI rc), .int (nI q), .int (nI u), .int (nI f), .int (nI g)])), (a0, xO Z 6 ru), (a1, xI Z 6 (va_up sg j w)), (a2, xI Z 6 (va_up wy j y)), (a3, xI Z 6 ts)] := hD
    refine lv_aload_n hx hb dX3_putRule_40 rfl (lv_at hl 0 rfl) ?_
    refine va_get (D := Z.1) (ci := 3) (v := .ref a3) (C := RX3) (T := TX3) (N := 9) hx hb hts iX3 hown hK hP 0 rfl rfl 3 (Nat.le_of_ble_eq_true rfl) qq_92 (fun _ h9 => h9) rfl dX3_putRule_41 ?_
    refine lv_iload_n hx hb dX3_putRule_44 rfl (lv_at hl 1 rfl) ?_
    refine lv_iload hx hb dX3_putRule_45 (lv_at hl 4 rfl) ?_
    refine ln_iast hx hb hK hP hD hS 4 rfl (by omega) (by omega) dX3_putRule_47 (fun H locs hP hD hS => ?_)
    have hP : va_P Z.1 vwCl [(hm, .inr (3, [.ref a0, .ref a1, .ref a2, .ref a3, .int (nI rc), .int (nI q), .int (nI u), .int (nI f), .int (nI g)])), (a0, xO Z 6 ru), (a1, xI Z 6 (va_up sg j w)), (a2, xI Z 6 (va_up wy j y)), (a3, xI Z 6 (va_up ts j t))] H := hP
    have hD : va_D A [(hm, .inr (3, [.ref a0, .ref a1, .ref a2, .ref a3, .int (nI rc), .int (nI q), .int (nI u), .int (nI f), .int (nI g)])), (a0, xO Z 6 ru), (a1, xI Z 6 (va_up sg j w)), (a2, xI Z 6 (va_up wy j y)), (a3, xI Z 6 (va_up ts j t))] := hD
    refine lv_aload_n hx hb dX3_putRule_48 rfl (lv_at hl 0 rfl) ?_
    refine va_get (D := Z.1) (ci := 3) (v := .int (nI rc)) (C := RX3) (T := TX3) (N := 9) hx hb hts iX3 hown hK hP 0 rfl rfl 4 (Nat.le_of_ble_eq_true rfl) qq_93 (fun _ h9 => h9) rfl dX3_putRule_49 ?_
    rw [rone_some hcase] at hput
    exact x_iret hC hr hk hP hD hS dX3_putRule_52 ⟨_, _, _, _, hM.put1 j w y t (hM.2 j z hj hcase).1, by rw [show rc = rcount (va_up R j (some (w, y, t))) by omega], by rw [show rc = rcount (va_up R j (some (w, y, t))) by omega]⟩

set_option maxHeartbeats 4000000 in
set_option maxRecDepth 100000 in
theorem c_X3_dropRule (l : Launch) (Z : xZ) (hm a0 a1 a2 a3 : Nat) (ru sg wy ts : Nat → Nat) (rc q u f g : Nat) (R : xRl) (hM : MR R ru sg wy ts) (hrc : rc = rcount R) (j : Nat) (hj : j < 6) : xMi l Z yX3_dropRule vX3_dropRule ({ frames := 0, cells := 0, slots := 0, locals := 0 } : Room) [.ref hm, .int (nI j)] [(hm, .inr (3, [.ref a0, .ref a1, .ref a2, .ref a3, .int (nI rc), .int (nI q), .int (nI u), .int (nI f), .int (nI g)])), (a0, xO Z 6 ru), (a1, xI Z 6 sg), (a2, xI Z 6 wy), (a3, xI Z 6 ts)] (fun r v => ∃ ru2, MR (va_up R j none) ru2 sg wy ts ∧ r = nI (rone R j) ∧ v = [(hm, .inr (3, [.ref a0, .ref a1, .ref a2, .ref a3, .int (nI (rcount (va_up R j none))), .int (nI q), .int (nI u), .int (nI f), .int (nI g)])), (a0, xO Z 6 ru2), (a1, xI Z 6 sg), (a2, xI Z 6 wy), (a3, xI Z 6 ts)]) := by
  refine x_i (by decide) rfl (Nat.le_of_ble_eq_true rfl) ?_
  intro p e s m args below meth c ls A hC hr hk hl hP hD hS
  have hx := hC.1.1
  have hb := hC.1.2.1
  have hml := hC.1.2.2.1
  have hown : s.vm.findClass RX3 = some m.cls := hC.1.2.2.2.1
  have hts := hC.1.2.2.2.2
  have hK := hC.2.1
  have qq_89 := hts (Cond.fieldLink RX3 9 "TagTower$Machine" "ruled" "[Z") (List.mem_cons_of_mem _ wq_89)
  have iX3 : ∀ w ∈ wsX30, w ∈ vX3_dropRule := fun w h => List.mem_cons_of_mem _ (wi_X3 w h)
  have qq_93 := hts (Cond.fieldLink RX3 25 "TagTower$Machine" "rules" "I") (List.mem_cons_of_mem _ wq_93)
  have hl : lv_has ls 2 [(0, .ref hm), (1, .int (nI j))] := hl
  have hP : va_P Z.1 vwCl [(hm, .inr (3, [.ref a0, .ref a1, .ref a2, .ref a3, .int (nI rc), .int (nI q), .int (nI u), .int (nI f), .int (nI g)])), (a0, xO Z 6 ru), (a1, xI Z 6 sg), (a2, xI Z 6 wy), (a3, xI Z 6 ts)] s.heap := hP
  have hD : va_D A [(hm, .inr (3, [.ref a0, .ref a1, .ref a2, .ref a3, .int (nI rc), .int (nI q), .int (nI u), .int (nI f), .int (nI g)])), (a0, xO Z 6 ru), (a1, xI Z 6 sg), (a2, xI Z 6 wy), (a3, xI Z 6 ts)] := hD
  have hput := rcount_drop (R := R) hj
  have hle := rcount_le R
  rcases hcase : R j with _ | z
  · have hput := rcount_drop (R := R) hj
    have hle := rcount_le R
    refine lv_aload_n hx hb dX3_dropRule_0 rfl (lv_at hl 0 rfl) ?_
    refine va_get (D := Z.1) (ci := 3) (v := .ref a0) (C := RX3) (T := TX3) (N := 9) hx hb hts iX3 hown hK hP 0 rfl rfl 0 (Nat.le_of_ble_eq_true rfl) qq_89 (fun _ h9 => h9) rfl dX3_dropRule_1 ?_
    refine lv_iload_n hx hb dX3_dropRule_4 rfl (lv_at hl 1 rfl) ?_
    refine ln_zald hx hb hK hP 1 rfl (by omega) (by omega) dX3_dropRule_5 ?_
    refine ln_top (y := nI 0) (by rw [hM.1 j hj hcase]) ?_
    refine ln_if_ne (tgt := 11) hx hb dX3_dropRule_6 (by decide) (by omega) (fun h6 => False.elim (by omega)) (fun h6 => ?_)
    refine ln_const 0 hx hb dX3_dropRule_9 (by decide) ?_
    rw [rone_none hcase] at hput
    have he : va_up R j none = R := by
      funext i
      unfold va_up
      split
      · next e => rw [e, hcase]
      · rfl
    exact x_iret hC hr hk hP hD hS dX3_dropRule_10 ⟨ru, by rw [he]; exact hM, by rw [rone_none hcase], by rw [he, hrc]⟩
  · have hput := rcount_drop (R := R) hj
    have hle := rcount_le R
    refine lv_aload_n hx hb dX3_dropRule_0 rfl (lv_at hl 0 rfl) ?_
    refine va_get (D := Z.1) (ci := 3) (v := .ref a0) (C := RX3) (T := TX3) (N := 9) hx hb hts iX3 hown hK hP 0 rfl rfl 0 (Nat.le_of_ble_eq_true rfl) qq_89 (fun _ h9 => h9) rfl dX3_dropRule_1 ?_
    refine lv_iload_n hx hb dX3_dropRule_4 rfl (lv_at hl 1 rfl) ?_
    refine ln_zald hx hb hK hP 1 rfl (by omega) (by omega) dX3_dropRule_5 ?_
    refine ln_top (y := nI 1) (by rw [(hM.2 j z hj hcase).1]) ?_
    refine ln_if_ne (tgt := 11) hx hb dX3_dropRule_6 (by decide) (by omega) (fun h6 => ?_) (fun h6 => False.elim (by omega))
    refine lv_aload_n hx hb dX3_dropRule_11 rfl (lv_at hl 0 rfl) ?_
    refine va_get (D := Z.1) (ci := 3) (v := .ref a0) (C := RX3) (T := TX3) (N := 9) hx hb hts iX3 hown hK hP 0 rfl rfl 0 (Nat.le_of_ble_eq_true rfl) qq_89 (fun _ h9 => h9) rfl dX3_dropRule_12 ?_
    refine lv_iload_n hx hb dX3_dropRule_15 rfl (lv_at hl 1 rfl) ?_
    refine ln_const 0 hx hb dX3_dropRule_16 (by decide) ?_
    refine ln_zast hx hb hK hP hD hS 1 rfl (by omega) (by omega) (by omega) dX3_dropRule_17 (fun H locs hP hD hS => ?_)
    have hP : va_P Z.1 vwCl [(hm, .inr (3, [.ref a0, .ref a1, .ref a2, .ref a3, .int (nI rc), .int (nI q), .int (nI u), .int (nI f), .int (nI g)])), (a0, xO Z 6 (va_up ru j 0)), (a1, xI Z 6 sg), (a2, xI Z 6 wy), (a3, xI Z 6 ts)] H := hP
    have hD : va_D A [(hm, .inr (3, [.ref a0, .ref a1, .ref a2, .ref a3, .int (nI rc), .int (nI q), .int (nI u), .int (nI f), .int (nI g)])), (a0, xO Z 6 (va_up ru j 0)), (a1, xI Z 6 sg), (a2, xI Z 6 wy), (a3, xI Z 6 ts)] := hD
    refine lv_aload_n hx hb dX3_dropRule_18 rfl (lv_at hl 0 rfl) ?_
    refine lv_dup hx hb dX3_dropRule_19 rfl ?_
    refine va_get (D := Z.1) (ci := 3) (v := .int (nI rc)) (C := RX3) (T := TX3) (N := 9) hx hb hts iX3 hown hK hP 0 rfl rfl 4 (Nat.le_of_ble_eq_true rfl) qq_93 (fun _ h9 => h9) rfl dX3_dropRule_20 ?_
    refine ln_const 1 hx hb dX3_dropRule_23 (by decide) ?_
    rw [rone_some hcase] at hput
    refine ln_isub (rc - 1) hx hb dX3_dropRule_24 (by omega) (by first | rfl | omega) ?_
    refine va_put (D := Z.1) (ci := 3) (v := .int (nI (rc - 1))) (ty := tyX3 4) (C := RX3) (T := TX3) (N := 9) hx hb hts iX3 tyX3 tyX3_ok nmX3 hown hK hP hD hS 0 rfl rfl 4 (Nat.le_of_ble_eq_true rfl) qq_93 (fun _ h9 => h9) rfl (tyX3_ok 4 (Nat.le_of_ble_eq_true rfl)) rfl rfl (Nat.le_of_ble_eq_true rfl) dX3_dropRule_25 (fun H locs hP hD hS => ?_)
    have hP : va_P Z.1 vwCl [(hm, .inr (3, [.ref a0, .ref a1, .ref a2, .ref a3, .int (nI (rc - 1)), .int (nI q), .int (nI u), .int (nI f), .int (nI g)])), (a0, xO Z 6 (va_up ru j 0)), (a1, xI Z 6 sg), (a2, xI Z 6 wy), (a3, xI Z 6 ts)] H := hP
    have hD : va_D A [(hm, .inr (3, [.ref a0, .ref a1, .ref a2, .ref a3, .int (nI (rc - 1)), .int (nI q), .int (nI u), .int (nI f), .int (nI g)])), (a0, xO Z 6 (va_up ru j 0)), (a1, xI Z 6 sg), (a2, xI Z 6 wy), (a3, xI Z 6 ts)] := hD
    refine ln_const 1 hx hb dX3_dropRule_28 (by decide) ?_
    exact x_iret hC hr hk hP hD hS dX3_dropRule_29 ⟨_, hM.drop j, by rw [rone_some hcase], by rw [show rc - 1 = rcount (va_up R j none) by omega]⟩

set_option maxHeartbeats 4000000 in
set_option maxRecDepth 100000 in
theorem c_X3_putPlace (l : Launch) (Z : xZ) (hm a0 a1 a2 a3 : Nat) (ru sg wy ts : Nat → Nat) (rc q u f g : Nat) (q1 u1 f1 g1 : Nat) : xMv l Z yX3_putPlace vX3_putPlace ({ frames := 0, cells := 0, slots := 0, locals := 0 } : Room) [.ref hm, .int (nI q1), .int (nI u1), .int (nI f1), .int (nI g1)] [(hm, .inr (3, [.ref a0, .ref a1, .ref a2, .ref a3, .int (nI rc), .int (nI q), .int (nI u), .int (nI f), .int (nI g)])), (a0, xO Z 6 ru), (a1, xI Z 6 sg), (a2, xI Z 6 wy), (a3, xI Z 6 ts)] (fun v => v = [(hm, .inr (3, [.ref a0, .ref a1, .ref a2, .ref a3, .int (nI rc), .int (nI q1), .int (nI u1), .int (nI f1), .int (nI g1)])), (a0, xO Z 6 ru), (a1, xI Z 6 sg), (a2, xI Z 6 wy), (a3, xI Z 6 ts)]) := by
  refine x_v (by decide) rfl (Nat.le_of_ble_eq_true rfl) ?_
  intro p e s m args below meth c ls A hC hr hk hname hl hP hD hS
  have hx := hC.1.1
  have hb := hC.1.2.1
  have hml := hC.1.2.2.1
  have hown : s.vm.findClass RX3 = some m.cls := hC.1.2.2.2.1
  have hts := hC.1.2.2.2.2
  have hK := hC.2.1
  have qq_94 := hts (Cond.fieldLink RX3 29 "TagTower$Machine" "state" "I") (List.mem_cons_of_mem _ wq_94)
  have iX3 : ∀ w ∈ wsX30, w ∈ vX3_putPlace := fun w h => List.mem_cons_of_mem _ (wi_X3 w h)
  have qq_96 := hts (Cond.fieldLink RX3 32 "TagTower$Machine" "sign" "I") (List.mem_cons_of_mem _ wq_96)
  have qq_98 := hts (Cond.fieldLink RX3 35 "TagTower$Machine" "left" "I") (List.mem_cons_of_mem _ wq_98)
  have qq_100 := hts (Cond.fieldLink RX3 38 "TagTower$Machine" "right" "I") (List.mem_cons_of_mem _ wq_100)
  have hl : lv_has ls 5 [(0, .ref hm), (1, .int (nI q1)), (2, .int (nI u1)), (3, .int (nI f1)), (4, .int (nI g1))] := hl
  have hP : va_P Z.1 vwCl [(hm, .inr (3, [.ref a0, .ref a1, .ref a2, .ref a3, .int (nI rc), .int (nI q), .int (nI u), .int (nI f), .int (nI g)])), (a0, xO Z 6 ru), (a1, xI Z 6 sg), (a2, xI Z 6 wy), (a3, xI Z 6 ts)] s.heap := hP
  have hD : va_D A [(hm, .inr (3, [.ref a0, .ref a1, .ref a2, .ref a3, .int (nI rc), .int (nI q), .int (nI u), .int (nI f), .int (nI g)])), (a0, xO Z 6 ru), (a1, xI Z 6 sg), (a2, xI Z 6 wy), (a3, xI Z 6 ts)] := hD
  refine lv_aload_n hx hb dX3_putPlace_0 rfl (lv_at hl 0 rfl) ?_
  refine lv_iload_n hx hb dX3_putPlace_1 rfl (lv_at hl 1 rfl) ?_
  refine va_put (D := Z.1) (ci := 3) (v := .int (nI q1)) (ty := tyX3 5) (C := RX3) (T := TX3) (N := 9) hx hb hts iX3 tyX3 tyX3_ok nmX3 hown hK hP hD hS 0 rfl rfl 5 (Nat.le_of_ble_eq_true rfl) qq_94 (fun _ h9 => h9) rfl (tyX3_ok 5 (Nat.le_of_ble_eq_true rfl)) rfl rfl (Nat.le_of_ble_eq_true rfl) dX3_putPlace_2 (fun H locs hP hD hS => ?_)
  have hP : va_P Z.1 vwCl [(hm, .inr (3, [.ref a0, .ref a1, .ref a2, .ref a3, .int (nI rc), .int (nI q1), .int (nI u), .int (nI f), .int (nI g)])), (a0, xO Z 6 ru), (a1, xI Z 6 sg), (a2, xI Z 6 wy), (a3, xI Z 6 ts)] H := hP
  have hD : va_D A [(hm, .inr (3, [.ref a0, .ref a1, .ref a2, .ref a3, .int (nI rc), .int (nI q1), .int (nI u), .int (nI f), .int (nI g)])), (a0, xO Z 6 ru), (a1, xI Z 6 sg), (a2, xI Z 6 wy), (a3, xI Z 6 ts)] := hD
  refine lv_aload_n hx hb dX3_putPlace_5 rfl (lv_at hl 0 rfl) ?_
  refine lv_iload_n hx hb dX3_putPlace_6 rfl (lv_at hl 2 rfl) ?_
  refine va_put (D := Z.1) (ci := 3) (v := .int (nI u1)) (ty := tyX3 6) (C := RX3) (T := TX3) (N := 9) hx hb hts iX3 tyX3 tyX3_ok nmX3 hown hK hP hD hS 0 rfl rfl 6 (Nat.le_of_ble_eq_true rfl) qq_96 (fun _ h9 => h9) rfl (tyX3_ok 6 (Nat.le_of_ble_eq_true rfl)) rfl rfl (Nat.le_of_ble_eq_true rfl) dX3_putPlace_7 (fun H locs hP hD hS => ?_)
  have hP : va_P Z.1 vwCl [(hm, .inr (3, [.ref a0, .ref a1, .ref a2, .ref a3, .int (nI rc), .int (nI q1), .int (nI u1), .int (nI f), .int (nI g)])), (a0, xO Z 6 ru), (a1, xI Z 6 sg), (a2, xI Z 6 wy), (a3, xI Z 6 ts)] H := hP
  have hD : va_D A [(hm, .inr (3, [.ref a0, .ref a1, .ref a2, .ref a3, .int (nI rc), .int (nI q1), .int (nI u1), .int (nI f), .int (nI g)])), (a0, xO Z 6 ru), (a1, xI Z 6 sg), (a2, xI Z 6 wy), (a3, xI Z 6 ts)] := hD
  refine lv_aload_n hx hb dX3_putPlace_10 rfl (lv_at hl 0 rfl) ?_
  refine lv_iload_n hx hb dX3_putPlace_11 rfl (lv_at hl 3 rfl) ?_
  refine va_put (D := Z.1) (ci := 3) (v := .int (nI f1)) (ty := tyX3 7) (C := RX3) (T := TX3) (N := 9) hx hb hts iX3 tyX3 tyX3_ok nmX3 hown hK hP hD hS 0 rfl rfl 7 (Nat.le_of_ble_eq_true rfl) qq_98 (fun _ h9 => h9) rfl (tyX3_ok 7 (Nat.le_of_ble_eq_true rfl)) rfl rfl (Nat.le_of_ble_eq_true rfl) dX3_putPlace_12 (fun H locs hP hD hS => ?_)
  have hP : va_P Z.1 vwCl [(hm, .inr (3, [.ref a0, .ref a1, .ref a2, .ref a3, .int (nI rc), .int (nI q1), .int (nI u1), .int (nI f1), .int (nI g)])), (a0, xO Z 6 ru), (a1, xI Z 6 sg), (a2, xI Z 6 wy), (a3, xI Z 6 ts)] H := hP
  have hD : va_D A [(hm, .inr (3, [.ref a0, .ref a1, .ref a2, .ref a3, .int (nI rc), .int (nI q1), .int (nI u1), .int (nI f1), .int (nI g)])), (a0, xO Z 6 ru), (a1, xI Z 6 sg), (a2, xI Z 6 wy), (a3, xI Z 6 ts)] := hD
  refine lv_aload_n hx hb dX3_putPlace_15 rfl (lv_at hl 0 rfl) ?_
  refine lv_iload hx hb dX3_putPlace_16 (lv_at hl 4 rfl) ?_
  refine va_put (D := Z.1) (ci := 3) (v := .int (nI g1)) (ty := tyX3 8) (C := RX3) (T := TX3) (N := 9) hx hb hts iX3 tyX3 tyX3_ok nmX3 hown hK hP hD hS 0 rfl rfl 8 (Nat.le_of_ble_eq_true rfl) qq_100 (fun _ h9 => h9) rfl (tyX3_ok 8 (Nat.le_of_ble_eq_true rfl)) rfl rfl (Nat.le_of_ble_eq_true rfl) dX3_putPlace_18 (fun H locs hP hD hS => ?_)
  have hP : va_P Z.1 vwCl [(hm, .inr (3, [.ref a0, .ref a1, .ref a2, .ref a3, .int (nI rc), .int (nI q1), .int (nI u1), .int (nI f1), .int (nI g1)])), (a0, xO Z 6 ru), (a1, xI Z 6 sg), (a2, xI Z 6 wy), (a3, xI Z 6 ts)] H := hP
  have hD : va_D A [(hm, .inr (3, [.ref a0, .ref a1, .ref a2, .ref a3, .int (nI rc), .int (nI q1), .int (nI u1), .int (nI f1), .int (nI g1)])), (a0, xO Z 6 ru), (a1, xI Z 6 sg), (a2, xI Z 6 wy), (a3, xI Z 6 ts)] := hD
  exact x_vret hC hr hk hP hD hS dX3_putPlace_21 (rfl)

theorem ks_X6_pairOf : yX6_pairOf.cls ≠ "java/lang/invoke/MethodHandle" ∧ yX6_pairOf.cls ≠ "java/lang/invoke/VarHandle" ∧ (parseMethodDescriptor yX6_pairOf.desc).map (fun d => d.parameters.length) = some 2 := by decide +kernel
set_option maxHeartbeats 4000000 in
set_option maxRecDepth 100000 in
theorem c_X3_isStill (l : Launch) (Z : xZ) (hm a0 a1 a2 a3 : Nat) (ru sg wy ts : Nat → Nat) (rc q u f g : Nat) (R : xRl) (hV : RV R) (hM : MR R ru sg wy ts) (hP0 : PV (q, u, f, g)) : xMi l Z yX3_isStill vX3_isStill ({ frames := 1, cells := 0, slots := 0, locals := 21 } : Room) [.ref hm] [(hm, .inr (3, [.ref a0, .ref a1, .ref a2, .ref a3, .int (nI rc), .int (nI q), .int (nI u), .int (nI f), .int (nI g)])), (a0, xO Z 6 ru), (a1, xI Z 6 sg), (a2, xI Z 6 wy), (a3, xI Z 6 ts)] (fun r v => r = nI (1 - rone R (2 * q + u)) ∧ v = [(hm, .inr (3, [.ref a0, .ref a1, .ref a2, .ref a3, .int (nI rc), .int (nI q), .int (nI u), .int (nI f), .int (nI g)])), (a0, xO Z 6 ru), (a1, xI Z 6 sg), (a2, xI Z 6 wy), (a3, xI Z 6 ts)]) := by
  refine x_i (by decide) rfl (Nat.le_of_ble_eq_true rfl) ?_
  intro p e s m args below meth c ls A hC hr hk hl hP hD hS
  have hx := hC.1.1
  have hb := hC.1.2.1
  have hml := hC.1.2.2.1
  have hown : s.vm.findClass RX3 = some m.cls := hC.1.2.2.2.1
  have hts := hC.1.2.2.2.2
  have hK := hC.2.1
  have qq_89 := hts (Cond.fieldLink RX3 9 "TagTower$Machine" "ruled" "[Z") (List.mem_cons_of_mem _ wq_89)
  have iX3 : ∀ w ∈ wsX30, w ∈ vX3_isStill := fun w h => List.mem_cons_of_mem _ (wi_X3 w h)
  have qq_94 := hts (Cond.fieldLink RX3 29 "TagTower$Machine" "state" "I") (List.mem_cons_of_mem _ wq_94)
  have qq_96 := hts (Cond.fieldLink RX3 32 "TagTower$Machine" "sign" "I") (List.mem_cons_of_mem _ wq_96)
  have qq_32 := hts (Cond.initialized RX6) (List.mem_cons_of_mem _ wq_32)
  have qq_252 := hts (Cond.static yX6_pairOf) (List.mem_cons_of_mem _ wq_252)
  have qn_41 := hC.2.2.2.1.1 (RX3, 41, yX6_pairOf, RX6) (List.mem_of_getElem? (i := 6) rfl)
  have hl : lv_has ls 1 [(0, .ref hm)] := hl
  have hP : va_P Z.1 vwCl [(hm, .inr (3, [.ref a0, .ref a1, .ref a2, .ref a3, .int (nI rc), .int (nI q), .int (nI u), .int (nI f), .int (nI g)])), (a0, xO Z 6 ru), (a1, xI Z 6 sg), (a2, xI Z 6 wy), (a3, xI Z 6 ts)] s.heap := hP
  have hD : va_D A [(hm, .inr (3, [.ref a0, .ref a1, .ref a2, .ref a3, .int (nI rc), .int (nI q), .int (nI u), .int (nI f), .int (nI g)])), (a0, xO Z 6 ru), (a1, xI Z 6 sg), (a2, xI Z 6 wy), (a3, xI Z 6 ts)] := hD
  obtain ⟨hq1, hq2, hq3, hq4⟩ := id hP0
  dsimp only at hq1 hq2 hq3 hq4
  rcases hcase : R (2 * q + u) with _ | z
  · obtain ⟨hq1, hq2, hq3, hq4⟩ := id hP0
    dsimp only at hq1 hq2 hq3 hq4
    refine lv_aload_n hx hb dX3_isStill_0 rfl (lv_at hl 0 rfl) ?_
    refine va_get (D := Z.1) (ci := 3) (v := .ref a0) (C := RX3) (T := TX3) (N := 9) hx hb hts iX3 hown hK hP 0 rfl rfl 0 (Nat.le_of_ble_eq_true rfl) qq_89 (fun _ h9 => h9) rfl dX3_isStill_1 ?_
    refine lv_aload_n hx hb dX3_isStill_4 rfl (lv_at hl 0 rfl) ?_
    refine va_get (D := Z.1) (ci := 3) (v := .int (nI q)) (C := RX3) (T := TX3) (N := 9) hx hb hts iX3 hown hK hP 0 rfl rfl 5 (Nat.le_of_ble_eq_true rfl) qq_94 (fun _ h9 => h9) rfl dX3_isStill_5 ?_
    refine lv_aload_n hx hb dX3_isStill_8 rfl (lv_at hl 0 rfl) ?_
    refine va_get (D := Z.1) (ci := 3) (v := .int (nI u)) (C := RX3) (T := TX3) (N := 9) hx hb hts iX3 hown hK hP 0 rfl rfl 6 (Nat.le_of_ble_eq_true rfl) qq_96 (fun _ h9 => h9) rfl dX3_isStill_9 ?_
    refine x_SNi (y := yX6_pairOf) (As := [.int (nI q), .int (nI u)]) (wc := []) (wr := [(hm, .inr (3, [.ref a0, .ref a1, .ref a2, .ref a3, .int (nI rc), .int (nI q), .int (nI u), .int (nI f), .int (nI g)])), (a0, xO Z 6 ru), (a1, xI Z 6 sg), (a2, xI Z 6 wy), (a3, xI Z 6 ts)]) hC hP hD hS (c_X6_pairOf l Z q u) (gCo wq_253) qn_41 qq_32 qq_252 rfl ks_X6_pairOf ⟨rfl, rfl⟩ rfl hl.1 rfl ⟨Nat.le_of_ble_eq_true rfl, Nat.le_of_ble_eq_true rfl⟩ ([] : List Nat) [0, 1, 2, 3, 4] rfl rfl (by decide) (by decide) (by decide) rfl dX3_isStill_12 (fun r12 w1 H locs hw hP hD hS => ?_)
    obtain ⟨rfl, rfl⟩ := hw
    have hP : va_P Z.1 vwCl [(hm, .inr (3, [.ref a0, .ref a1, .ref a2, .ref a3, .int (nI rc), .int (nI q), .int (nI u), .int (nI f), .int (nI g)])), (a0, xO Z 6 ru), (a1, xI Z 6 sg), (a2, xI Z 6 wy), (a3, xI Z 6 ts)] H := hP
    have hD : va_D A [(hm, .inr (3, [.ref a0, .ref a1, .ref a2, .ref a3, .int (nI rc), .int (nI q), .int (nI u), .int (nI f), .int (nI g)])), (a0, xO Z 6 ru), (a1, xI Z 6 sg), (a2, xI Z 6 wy), (a3, xI Z 6 ts)] := hD
    refine ln_zald hx hb hK hP 1 rfl (by omega) (by omega) dX3_isStill_15 ?_
    refine ln_top (y := nI 0) (by rw [hM.1 _ (by omega) hcase]) ?_
    refine ln_if_ne (tgt := 23) hx hb dX3_isStill_16 (by decide) (by omega) (fun h16 => False.elim (by omega)) (fun h16 => ?_)
    refine ln_const 1 hx hb dX3_isStill_19 (by decide) ?_
    refine lv_goto (tgt := 24) hx hb dX3_isStill_20 (by decide) ?_
    exact x_zret hC hr rfl hk hP hD hS dX3_isStill_24 ⟨by rw [rone_none hcase], rfl⟩
  · obtain ⟨hq1, hq2, hq3, hq4⟩ := id hP0
    dsimp only at hq1 hq2 hq3 hq4
    refine lv_aload_n hx hb dX3_isStill_0 rfl (lv_at hl 0 rfl) ?_
    refine va_get (D := Z.1) (ci := 3) (v := .ref a0) (C := RX3) (T := TX3) (N := 9) hx hb hts iX3 hown hK hP 0 rfl rfl 0 (Nat.le_of_ble_eq_true rfl) qq_89 (fun _ h9 => h9) rfl dX3_isStill_1 ?_
    refine lv_aload_n hx hb dX3_isStill_4 rfl (lv_at hl 0 rfl) ?_
    refine va_get (D := Z.1) (ci := 3) (v := .int (nI q)) (C := RX3) (T := TX3) (N := 9) hx hb hts iX3 hown hK hP 0 rfl rfl 5 (Nat.le_of_ble_eq_true rfl) qq_94 (fun _ h9 => h9) rfl dX3_isStill_5 ?_
    refine lv_aload_n hx hb dX3_isStill_8 rfl (lv_at hl 0 rfl) ?_
    refine va_get (D := Z.1) (ci := 3) (v := .int (nI u)) (C := RX3) (T := TX3) (N := 9) hx hb hts iX3 hown hK hP 0 rfl rfl 6 (Nat.le_of_ble_eq_true rfl) qq_96 (fun _ h9 => h9) rfl dX3_isStill_9 ?_
    refine x_SNi (y := yX6_pairOf) (As := [.int (nI q), .int (nI u)]) (wc := []) (wr := [(hm, .inr (3, [.ref a0, .ref a1, .ref a2, .ref a3, .int (nI rc), .int (nI q), .int (nI u), .int (nI f), .int (nI g)])), (a0, xO Z 6 ru), (a1, xI Z 6 sg), (a2, xI Z 6 wy), (a3, xI Z 6 ts)]) hC hP hD hS (c_X6_pairOf l Z q u) (gCo wq_253) qn_41 qq_32 qq_252 rfl ks_X6_pairOf ⟨rfl, rfl⟩ rfl hl.1 rfl ⟨Nat.le_of_ble_eq_true rfl, Nat.le_of_ble_eq_true rfl⟩ ([] : List Nat) [0, 1, 2, 3, 4] rfl rfl (by decide) (by decide) (by decide) rfl dX3_isStill_12 (fun r12 w1 H locs hw hP hD hS => ?_)
    obtain ⟨rfl, rfl⟩ := hw
    have hP : va_P Z.1 vwCl [(hm, .inr (3, [.ref a0, .ref a1, .ref a2, .ref a3, .int (nI rc), .int (nI q), .int (nI u), .int (nI f), .int (nI g)])), (a0, xO Z 6 ru), (a1, xI Z 6 sg), (a2, xI Z 6 wy), (a3, xI Z 6 ts)] H := hP
    have hD : va_D A [(hm, .inr (3, [.ref a0, .ref a1, .ref a2, .ref a3, .int (nI rc), .int (nI q), .int (nI u), .int (nI f), .int (nI g)])), (a0, xO Z 6 ru), (a1, xI Z 6 sg), (a2, xI Z 6 wy), (a3, xI Z 6 ts)] := hD
    refine ln_zald hx hb hK hP 1 rfl (by omega) (by omega) dX3_isStill_15 ?_
    refine ln_top (y := nI 1) (by rw [(hM.2 _ z (by omega) hcase).1]) ?_
    refine ln_if_ne (tgt := 23) hx hb dX3_isStill_16 (by decide) (by omega) (fun h16 => ?_) (fun h16 => False.elim (by omega))
    refine ln_const 0 hx hb dX3_isStill_23 (by decide) ?_
    exact x_zret hC hr rfl hk hP hD hS dX3_isStill_24 ⟨by rw [rone_some hcase], rfl⟩

theorem kv_X3_isStill : yX3_isStill.cls = RX3 ∧ yX3_isStill.cls ≠ "java/lang/invoke/MethodHandle" ∧ yX3_isStill.cls ≠ "java/lang/invoke/VarHandle" ∧ (parseMethodDescriptor yX3_isStill.desc).map (fun d => d.parameters.length) = some 0 := by decide +kernel
set_option maxHeartbeats 4000000 in
set_option maxRecDepth 100000 in
theorem c_X3_doStep (l : Launch) (Z : xZ) (hm a0 a1 a2 a3 : Nat) (ru sg wy ts : Nat → Nat) (rc q u f g : Nat) (R : xRl) (hV : RV R) (hM : MR R ru sg wy ts) (hP0 : PV (q, u, f, g)) : xMi l Z yX3_doStep vX3_doStep ({ frames := 2, cells := 0, slots := 0, locals := 41 } : Room) [.ref hm] [(hm, .inr (3, [.ref a0, .ref a1, .ref a2, .ref a3, .int (nI rc), .int (nI q), .int (nI u), .int (nI f), .int (nI g)])), (a0, xO Z 6 ru), (a1, xI Z 6 sg), (a2, xI Z 6 wy), (a3, xI Z 6 ts)] (fun r v => (mstep R (q, u, f, g) = none ∧ r = nI 0 ∧ v = [(hm, .inr (3, [.ref a0, .ref a1, .ref a2, .ref a3, .int (nI rc), .int (nI q), .int (nI u), .int (nI f), .int (nI g)])), (a0, xO Z 6 ru), (a1, xI Z 6 sg), (a2, xI Z 6 wy), (a3, xI Z 6 ts)]) ∨ (∃ P, mstep R (q, u, f, g) = some P ∧ r = nI 1 ∧ v = [(hm, .inr (3, [.ref a0, .ref a1, .ref a2, .ref a3, .int (nI rc), .int (nI P.1), .int (nI P.2.1), .int (nI P.2.2.1), .int (nI P.2.2.2)])), (a0, xO Z 6 ru), (a1, xI Z 6 sg), (a2, xI Z 6 wy), (a3, xI Z 6 ts)])) := by
  refine x_i (by decide) rfl (Nat.le_of_ble_eq_true rfl) ?_
  intro p e s m args below meth c ls A hC hr hk hl hP hD hS
  have hx := hC.1.1
  have hb := hC.1.2.1
  have hml := hC.1.2.2.1
  have hown : s.vm.findClass RX3 = some m.cls := hC.1.2.2.2.1
  have hts := hC.1.2.2.2.2
  have hK := hC.2.1
  have qq_94 := hts (Cond.fieldLink RX3 29 "TagTower$Machine" "state" "I") (List.mem_cons_of_mem _ wq_94)
  have iX3 : ∀ w ∈ wsX30, w ∈ vX3_doStep := fun w h => List.mem_cons_of_mem _ (wi_X3 w h)
  have qq_96 := hts (Cond.fieldLink RX3 32 "TagTower$Machine" "sign" "I") (List.mem_cons_of_mem _ wq_96)
  have qq_32 := hts (Cond.initialized RX6) (List.mem_cons_of_mem _ wq_32)
  have qq_252 := hts (Cond.static yX6_pairOf) (List.mem_cons_of_mem _ wq_252)
  have qn_41 := hC.2.2.2.1.1 (RX3, 41, yX6_pairOf, RX6) (List.mem_of_getElem? (i := 6) rfl)
  have qq_91 := hts (Cond.fieldLink RX3 19 "TagTower$Machine" "ways" "[I") (List.mem_cons_of_mem _ wq_91)
  have qq_100 := hts (Cond.fieldLink RX3 38 "TagTower$Machine" "right" "I") (List.mem_cons_of_mem _ wq_100)
  have qq_90 := hts (Cond.fieldLink RX3 15 "TagTower$Machine" "signs" "[I") (List.mem_cons_of_mem _ wq_90)
  have qq_98 := hts (Cond.fieldLink RX3 35 "TagTower$Machine" "left" "I") (List.mem_cons_of_mem _ wq_98)
  have qq_458 := hts (Cond.constant RX3 52 (100000)) (List.mem_cons_of_mem _ wq_458)
  have qq_92 := hts (Cond.fieldLink RX3 22 "TagTower$Machine" "states" "[I") (List.mem_cons_of_mem _ wq_92)
  have hl : lv_has ls 5 [(0, .ref hm)] := hl
  have hP : va_P Z.1 vwCl [(hm, .inr (3, [.ref a0, .ref a1, .ref a2, .ref a3, .int (nI rc), .int (nI q), .int (nI u), .int (nI f), .int (nI g)])), (a0, xO Z 6 ru), (a1, xI Z 6 sg), (a2, xI Z 6 wy), (a3, xI Z 6 ts)] s.heap := hP
  have hD : va_D A [(hm, .inr (3, [.ref a0, .ref a1, .ref a2, .ref a3, .int (nI rc), .int (nI q), .int (nI u), .int (nI f), .int (nI g)])), (a0, xO Z 6 ru), (a1, xI Z 6 sg), (a2, xI Z 6 wy), (a3, xI Z 6 ts)] := hD
  obtain ⟨hq1, hq2, hq3, hq4⟩ := id hP0
  dsimp only at hq1 hq2 hq3 hq4
  rcases hcase : R (2 * q + u) with _ | ⟨w, y, t⟩
  · obtain ⟨hq1, hq2, hq3, hq4⟩ := id hP0
    dsimp only at hq1 hq2 hq3 hq4
    refine lv_aload_n hx hb dX3_doStep_0 rfl (lv_at hl 0 rfl) ?_
    refine x_Vi (y := yX3_isStill) (As := []) (wc := [(hm, .inr (3, [.ref a0, .ref a1, .ref a2, .ref a3, .int (nI rc), .int (nI q), .int (nI u), .int (nI f), .int (nI g)])), (a0, xO Z 6 ru), (a1, xI Z 6 sg), (a2, xI Z 6 wy), (a3, xI Z 6 ts)]) (wr := []) hC hP hD hS (c_X3_isStill l Z hm a0 a1 a2 a3 ru sg wy ts rc q u f g R hV hM hP0) (gV wq_456 wq_453 wq_454 wq_455 wq_34) rfl kv_X3_isStill rfl rfl ⟨rfl, rfl⟩ rfl hl.1 rfl ⟨Nat.le_of_ble_eq_true rfl, Nat.le_of_ble_eq_true rfl⟩ [0, 1, 2, 3, 4] ([] : List Nat) rfl rfl (by decide) (by decide) (by decide) rfl dX3_doStep_1 (fun r1 w1 H locs hw hP hD hS => ?_)
    obtain ⟨hr1, rfl⟩ := hw
    have hP : va_P Z.1 vwCl [(hm, .inr (3, [.ref a0, .ref a1, .ref a2, .ref a3, .int (nI rc), .int (nI q), .int (nI u), .int (nI f), .int (nI g)])), (a0, xO Z 6 ru), (a1, xI Z 6 sg), (a2, xI Z 6 wy), (a3, xI Z 6 ts)] H := hP
    have hD : va_D A [(hm, .inr (3, [.ref a0, .ref a1, .ref a2, .ref a3, .int (nI rc), .int (nI q), .int (nI u), .int (nI f), .int (nI g)])), (a0, xO Z 6 ru), (a1, xI Z 6 sg), (a2, xI Z 6 wy), (a3, xI Z 6 ts)] := hD
    rw [rone_none hcase] at hr1
    subst hr1
    refine ln_if_eq (tgt := 9) hx hb dX3_doStep_4 (by decide) (by omega) (fun h4 => False.elim (by omega)) (fun h4 => ?_)
    refine ln_const 0 hx hb dX3_doStep_7 (by decide) ?_
    exact x_zret hC hr rfl hk hP hD hS dX3_doStep_8 (Or.inl ⟨by unfold mstep; dsimp only; rw [hcase], rfl, rfl⟩)
  · obtain ⟨v1, v2, v3⟩ := hV _ _ hcase
    dsimp only at v1 v2 v3
    obtain ⟨e0, e1, e2, e3⟩ := hM.2 _ _ (by omega) hcase
    dsimp only at e1 e2 e3
    obtain ⟨hq1, hq2, hq3, hq4⟩ := id hP0
    dsimp only at hq1 hq2 hq3 hq4
    refine lv_aload_n hx hb dX3_doStep_0 rfl (lv_at hl 0 rfl) ?_
    refine x_Vi (y := yX3_isStill) (As := []) (wc := [(hm, .inr (3, [.ref a0, .ref a1, .ref a2, .ref a3, .int (nI rc), .int (nI q), .int (nI u), .int (nI f), .int (nI g)])), (a0, xO Z 6 ru), (a1, xI Z 6 sg), (a2, xI Z 6 wy), (a3, xI Z 6 ts)]) (wr := []) hC hP hD hS (c_X3_isStill l Z hm a0 a1 a2 a3 ru sg wy ts rc q u f g R hV hM hP0) (gV wq_456 wq_453 wq_454 wq_455 wq_34) rfl kv_X3_isStill rfl rfl ⟨rfl, rfl⟩ rfl hl.1 rfl ⟨Nat.le_of_ble_eq_true rfl, Nat.le_of_ble_eq_true rfl⟩ [0, 1, 2, 3, 4] ([] : List Nat) rfl rfl (by decide) (by decide) (by decide) rfl dX3_doStep_1 (fun r1 w1 H locs hw hP hD hS => ?_)
    obtain ⟨hr1, rfl⟩ := hw
    have hP : va_P Z.1 vwCl [(hm, .inr (3, [.ref a0, .ref a1, .ref a2, .ref a3, .int (nI rc), .int (nI q), .int (nI u), .int (nI f), .int (nI g)])), (a0, xO Z 6 ru), (a1, xI Z 6 sg), (a2, xI Z 6 wy), (a3, xI Z 6 ts)] H := hP
    have hD : va_D A [(hm, .inr (3, [.ref a0, .ref a1, .ref a2, .ref a3, .int (nI rc), .int (nI q), .int (nI u), .int (nI f), .int (nI g)])), (a0, xO Z 6 ru), (a1, xI Z 6 sg), (a2, xI Z 6 wy), (a3, xI Z 6 ts)] := hD
    rw [rone_some hcase] at hr1
    subst hr1
    refine ln_if_eq (tgt := 9) hx hb dX3_doStep_4 (by decide) (by omega) (fun h4 => ?_) (fun h4 => False.elim (by omega))
    refine lv_aload_n hx hb dX3_doStep_9 rfl (lv_at hl 0 rfl) ?_
    refine va_get (D := Z.1) (ci := 3) (v := .int (nI q)) (C := RX3) (T := TX3) (N := 9) hx hb hts iX3 hown hK hP 0 rfl rfl 5 (Nat.le_of_ble_eq_true rfl) qq_94 (fun _ h9 => h9) rfl dX3_doStep_10 ?_
    refine lv_aload_n hx hb dX3_doStep_13 rfl (lv_at hl 0 rfl) ?_
    refine va_get (D := Z.1) (ci := 3) (v := .int (nI u)) (C := RX3) (T := TX3) (N := 9) hx hb hts iX3 hown hK hP 0 rfl rfl 6 (Nat.le_of_ble_eq_true rfl) qq_96 (fun _ h9 => h9) rfl dX3_doStep_14 ?_
    refine x_SNi (y := yX6_pairOf) (As := [.int (nI q), .int (nI u)]) (wc := []) (wr := [(hm, .inr (3, [.ref a0, .ref a1, .ref a2, .ref a3, .int (nI rc), .int (nI q), .int (nI u), .int (nI f), .int (nI g)])), (a0, xO Z 6 ru), (a1, xI Z 6 sg), (a2, xI Z 6 wy), (a3, xI Z 6 ts)]) hC hP hD hS (c_X6_pairOf l Z q u) (gCo wq_253) qn_41 qq_32 qq_252 rfl ks_X6_pairOf ⟨rfl, rfl⟩ rfl hl.1 rfl ⟨Nat.le_of_ble_eq_true rfl, Nat.le_of_ble_eq_true rfl⟩ ([] : List Nat) [0, 1, 2, 3, 4] rfl rfl (by decide) (by decide) (by decide) rfl dX3_doStep_17 (fun r17 w1 H locs hw hP hD hS => ?_)
    obtain ⟨rfl, rfl⟩ := hw
    have hP : va_P Z.1 vwCl [(hm, .inr (3, [.ref a0, .ref a1, .ref a2, .ref a3, .int (nI rc), .int (nI q), .int (nI u), .int (nI f), .int (nI g)])), (a0, xO Z 6 ru), (a1, xI Z 6 sg), (a2, xI Z 6 wy), (a3, xI Z 6 ts)] H := hP
    have hD : va_D A [(hm, .inr (3, [.ref a0, .ref a1, .ref a2, .ref a3, .int (nI rc), .int (nI q), .int (nI u), .int (nI f), .int (nI g)])), (a0, xO Z 6 ru), (a1, xI Z 6 sg), (a2, xI Z 6 wy), (a3, xI Z 6 ts)] := hD
    refine lv_istore_n (lv' := [(1, .int (nI (2 * q + u))), (0, .ref hm)]) hx hb dX3_doStep_20 rfl hl (by decide) rfl (fun ls hl => ?_)
    refine lv_aload_n hx hb dX3_doStep_21 rfl (lv_at hl 1 rfl) ?_
    refine va_get (D := Z.1) (ci := 3) (v := .ref a2) (C := RX3) (T := TX3) (N := 9) hx hb hts iX3 hown hK hP 0 rfl rfl 2 (Nat.le_of_ble_eq_true rfl) qq_91 (fun _ h9 => h9) rfl dX3_doStep_22 ?_
    refine lv_iload_n hx hb dX3_doStep_25 rfl (lv_at hl 0 rfl) ?_
    refine ln_iald hx hb hK hP 3 rfl (by omega) (by omega) dX3_doStep_26 ?_
    refine ln_top (y := nI y) (by rw [e2]) ?_
    refine ln_const 1 hx hb dX3_doStep_27 (by decide) ?_
    refine ln_icmp_ne (tgt := 35) hx hb dX3_doStep_28 (by decide) (by omega) (by omega) (fun h28 => ?_) (fun h28 => ?_)
    · refine ln_const 0 hx hb dX3_doStep_35 (by decide) ?_
      refine lv_istore_n (lv' := [(2, .int (nI 0)), (1, .int (nI (2 * q + u))), (0, .ref hm)]) hx hb dX3_doStep_36 rfl hl (by decide) rfl (fun ls hl => ?_)
      refine ln_const 2 hx hb dX3_doStep_37 (by decide) ?_
      refine lv_iload_n hx hb dX3_doStep_38 rfl (lv_at hl 0 rfl) ?_
      refine ln_if_eq (tgt := 49) hx hb dX3_doStep_39 (by decide) (by omega) (fun h39 => ?_) (fun h39 => False.elim (by omega))
      refine lv_aload_n hx hb dX3_doStep_49 rfl (lv_at hl 2 rfl) ?_
      refine va_get (D := Z.1) (ci := 3) (v := .int (nI g)) (C := RX3) (T := TX3) (N := 9) hx hb hts iX3 hown hK hP 0 rfl rfl 8 (Nat.le_of_ble_eq_true rfl) qq_100 (fun _ h9 => h9) rfl dX3_doStep_50 ?_
      refine ln_imul (2 * g) hx hb dX3_doStep_53 (by first | rfl | omega) ?_
      refine lv_aload_n hx hb dX3_doStep_54 rfl (lv_at hl 2 rfl) ?_
      refine va_get (D := Z.1) (ci := 3) (v := .ref a1) (C := RX3) (T := TX3) (N := 9) hx hb hts iX3 hown hK hP 0 rfl rfl 1 (Nat.le_of_ble_eq_true rfl) qq_90 (fun _ h9 => h9) rfl dX3_doStep_55 ?_
      refine lv_iload_n hx hb dX3_doStep_58 rfl (lv_at hl 1 rfl) ?_
      refine ln_iald hx hb hK hP 2 rfl (by omega) (by omega) dX3_doStep_59 ?_
      refine ln_top (y := nI w) (by rw [e1]) ?_
      refine ln_iadd ((2 * g) + w) hx hb dX3_doStep_60 (by first | rfl | omega) ?_
      refine lv_istore_n (lv' := [(3, .int (nI ((2 * g) + w))), (2, .int (nI 0)), (1, .int (nI (2 * q + u))), (0, .ref hm)]) hx hb dX3_doStep_61 rfl hl (by decide) rfl (fun ls hl => ?_)
      refine lv_iload_n hx hb dX3_doStep_62 rfl (lv_at hl 1 rfl) ?_
      refine ln_if_eq (tgt := 73) hx hb dX3_doStep_63 (by decide) (by omega) (fun h63 => ?_) (fun h63 => False.elim (by omega))
      refine lv_aload_n hx hb dX3_doStep_73 rfl (lv_at hl 3 rfl) ?_
      refine va_get (D := Z.1) (ci := 3) (v := .int (nI f)) (C := RX3) (T := TX3) (N := 9) hx hb hts iX3 hown hK hP 0 rfl rfl 7 (Nat.le_of_ble_eq_true rfl) qq_98 (fun _ h9 => h9) rfl dX3_doStep_74 ?_
      refine lv_istore (lv' := [(4, .int (nI f)), (3, .int (nI ((2 * g) + w))), (2, .int (nI 0)), (1, .int (nI (2 * q + u))), (0, .ref hm)]) hx hb dX3_doStep_77 hl (by decide) rfl (fun ls hl => ?_)
      refine lv_iload_n hx hb dX3_doStep_79 rfl (lv_at hl 1 rfl) ?_
      refine lv_ldc (v := nI 100000) hx hb hown qq_458 dX3_doStep_80 ?_
      refine ln_icmp_le (tgt := 87) hx hb dX3_doStep_82 (by decide) (by omega) (by omega) (fun h82 => ?_) (fun h82 => ?_)
      · refine lv_aload_n hx hb dX3_doStep_87 rfl (lv_at hl 4 rfl) ?_
        refine lv_iload_n hx hb dX3_doStep_88 rfl (lv_at hl 2 rfl) ?_
        refine ln_if_eq (tgt := 96) hx hb dX3_doStep_89 (by decide) (by omega) (fun h89 => ?_) (fun h89 => False.elim (by omega))
        refine lv_iload hx hb dX3_doStep_96 (lv_at hl 0 rfl) ?_
        refine ln_const 2 hx hb dX3_doStep_98 (by decide) ?_
        refine ln_idiv (f / 2) hx hb dX3_doStep_99 (by omega) (by omega) (by omega) (by first | rfl | omega) ?_
        refine va_put (D := Z.1) (ci := 3) (v := .int (nI (f / 2))) (ty := tyX3 7) (C := RX3) (T := TX3) (N := 9) hx hb hts iX3 tyX3 tyX3_ok nmX3 hown hK hP hD hS 0 rfl rfl 7 (Nat.le_of_ble_eq_true rfl) qq_98 (fun _ h9 => h9) rfl (tyX3_ok 7 (Nat.le_of_ble_eq_true rfl)) rfl rfl (Nat.le_of_ble_eq_true rfl) dX3_doStep_100 (fun H locs hP hD hS => ?_)
        have hP : va_P Z.1 vwCl [(hm, .inr (3, [.ref a0, .ref a1, .ref a2, .ref a3, .int (nI rc), .int (nI q), .int (nI u), .int (nI (f / 2)), .int (nI g)])), (a0, xO Z 6 ru), (a1, xI Z 6 sg), (a2, xI Z 6 wy), (a3, xI Z 6 ts)] H := hP
        have hD : va_D A [(hm, .inr (3, [.ref a0, .ref a1, .ref a2, .ref a3, .int (nI rc), .int (nI q), .int (nI u), .int (nI (f / 2)), .int (nI g)])), (a0, xO Z 6 ru), (a1, xI Z 6 sg), (a2, xI Z 6 wy), (a3, xI Z 6 ts)] := hD
        refine lv_aload_n hx hb dX3_doStep_103 rfl (lv_at hl 4 rfl) ?_
        refine lv_iload_n hx hb dX3_doStep_104 rfl (lv_at hl 2 rfl) ?_
        refine ln_if_eq (tgt := 115) hx hb dX3_doStep_105 (by decide) (by omega) (fun h105 => ?_) (fun h105 => False.elim (by omega))
        refine lv_iload_n hx hb dX3_doStep_115 rfl (lv_at hl 1 rfl) ?_
        refine va_put (D := Z.1) (ci := 3) (v := .int (nI ((2 * g) + w))) (ty := tyX3 8) (C := RX3) (T := TX3) (N := 9) hx hb hts iX3 tyX3 tyX3_ok nmX3 hown hK hP hD hS 0 rfl rfl 8 (Nat.le_of_ble_eq_true rfl) qq_100 (fun _ h9 => h9) rfl (tyX3_ok 8 (Nat.le_of_ble_eq_true rfl)) rfl rfl (Nat.le_of_ble_eq_true rfl) dX3_doStep_116 (fun H locs hP hD hS => ?_)
        have hP : va_P Z.1 vwCl [(hm, .inr (3, [.ref a0, .ref a1, .ref a2, .ref a3, .int (nI rc), .int (nI q), .int (nI u), .int (nI (f / 2)), .int (nI ((2 * g) + w))])), (a0, xO Z 6 ru), (a1, xI Z 6 sg), (a2, xI Z 6 wy), (a3, xI Z 6 ts)] H := hP
        have hD : va_D A [(hm, .inr (3, [.ref a0, .ref a1, .ref a2, .ref a3, .int (nI rc), .int (nI q), .int (nI u), .int (nI (f / 2)), .int (nI ((2 * g) + w))])), (a0, xO Z 6 ru), (a1, xI Z 6 sg), (a2, xI Z 6 wy), (a3, xI Z 6 ts)] := hD
        refine lv_aload_n hx hb dX3_doStep_119 rfl (lv_at hl 4 rfl) ?_
        refine lv_iload hx hb dX3_doStep_120 (lv_at hl 0 rfl) ?_
        refine ln_const 2 hx hb dX3_doStep_122 (by decide) ?_
        refine ln_irem (f % 2) hx hb dX3_doStep_123 (by omega) (by omega) (by omega) (by first | rfl | omega) ?_
        refine va_put (D := Z.1) (ci := 3) (v := .int (nI (f % 2))) (ty := tyX3 6) (C := RX3) (T := TX3) (N := 9) hx hb hts iX3 tyX3 tyX3_ok nmX3 hown hK hP hD hS 0 rfl rfl 6 (Nat.le_of_ble_eq_true rfl) qq_96 (fun _ h9 => h9) rfl (tyX3_ok 6 (Nat.le_of_ble_eq_true rfl)) rfl rfl (Nat.le_of_ble_eq_true rfl) dX3_doStep_124 (fun H locs hP hD hS => ?_)
        have hP : va_P Z.1 vwCl [(hm, .inr (3, [.ref a0, .ref a1, .ref a2, .ref a3, .int (nI rc), .int (nI q), .int (nI (f % 2)), .int (nI (f / 2)), .int (nI ((2 * g) + w))])), (a0, xO Z 6 ru), (a1, xI Z 6 sg), (a2, xI Z 6 wy), (a3, xI Z 6 ts)] H := hP
        have hD : va_D A [(hm, .inr (3, [.ref a0, .ref a1, .ref a2, .ref a3, .int (nI rc), .int (nI q), .int (nI (f % 2)), .int (nI (f / 2)), .int (nI ((2 * g) + w))])), (a0, xO Z 6 ru), (a1, xI Z 6 sg), (a2, xI Z 6 wy), (a3, xI Z 6 ts)] := hD
        refine lv_aload_n hx hb dX3_doStep_127 rfl (lv_at hl 4 rfl) ?_
        refine lv_aload_n hx hb dX3_doStep_128 rfl (lv_at hl 4 rfl) ?_
        refine va_get (D := Z.1) (ci := 3) (v := .ref a3) (C := RX3) (T := TX3) (N := 9) hx hb hts iX3 hown hK hP 0 rfl rfl 3 (Nat.le_of_ble_eq_true rfl) qq_92 (fun _ h9 => h9) rfl dX3_doStep_129 ?_
        refine lv_iload_n hx hb dX3_doStep_132 rfl (lv_at hl 3 rfl) ?_
        refine ln_iald hx hb hK hP 4 rfl (by omega) (by omega) dX3_doStep_133 ?_
        refine ln_top (y := nI t) (by rw [e3]) ?_
        refine va_put (D := Z.1) (ci := 3) (v := .int (nI t)) (ty := tyX3 5) (C := RX3) (T := TX3) (N := 9) hx hb hts iX3 tyX3 tyX3_ok nmX3 hown hK hP hD hS 0 rfl rfl 5 (Nat.le_of_ble_eq_true rfl) qq_94 (fun _ h9 => h9) rfl (tyX3_ok 5 (Nat.le_of_ble_eq_true rfl)) rfl rfl (Nat.le_of_ble_eq_true rfl) dX3_doStep_134 (fun H locs hP hD hS => ?_)
        have hP : va_P Z.1 vwCl [(hm, .inr (3, [.ref a0, .ref a1, .ref a2, .ref a3, .int (nI rc), .int (nI t), .int (nI (f % 2)), .int (nI (f / 2)), .int (nI ((2 * g) + w))])), (a0, xO Z 6 ru), (a1, xI Z 6 sg), (a2, xI Z 6 wy), (a3, xI Z 6 ts)] H := hP
        have hD : va_D A [(hm, .inr (3, [.ref a0, .ref a1, .ref a2, .ref a3, .int (nI rc), .int (nI t), .int (nI (f % 2)), .int (nI (f / 2)), .int (nI ((2 * g) + w))])), (a0, xO Z 6 ru), (a1, xI Z 6 sg), (a2, xI Z 6 wy), (a3, xI Z 6 ts)] := hD
        refine ln_const 1 hx hb dX3_doStep_137 (by decide) ?_
        exact x_zret hC hr rfl hk hP hD hS dX3_doStep_138 (Or.inr ⟨_, by unfold mstep; dsimp only; rw [hcase]; dsimp only; rw [if_neg (by omega), if_pos (by omega)], rfl, rfl⟩)
      · refine ln_const 0 hx hb dX3_doStep_85 (by decide) ?_
        exact x_zret hC hr rfl hk hP hD hS dX3_doStep_86 (Or.inl ⟨by unfold mstep; dsimp only; rw [hcase]; dsimp only; rw [if_neg (by omega), if_neg (by omega)], rfl, rfl⟩)
    · refine ln_const 1 hx hb dX3_doStep_31 (by decide) ?_
      refine lv_goto (tgt := 36) hx hb dX3_doStep_32 (by decide) ?_
      refine lv_istore_n (lv' := [(2, .int (nI 1)), (1, .int (nI (2 * q + u))), (0, .ref hm)]) hx hb dX3_doStep_36 rfl hl (by decide) rfl (fun ls hl => ?_)
      refine ln_const 2 hx hb dX3_doStep_37 (by decide) ?_
      refine lv_iload_n hx hb dX3_doStep_38 rfl (lv_at hl 0 rfl) ?_
      refine ln_if_eq (tgt := 49) hx hb dX3_doStep_39 (by decide) (by omega) (fun h39 => False.elim (by omega)) (fun h39 => ?_)
      refine lv_aload_n hx hb dX3_doStep_42 rfl (lv_at hl 2 rfl) ?_
      refine va_get (D := Z.1) (ci := 3) (v := .int (nI f)) (C := RX3) (T := TX3) (N := 9) hx hb hts iX3 hown hK hP 0 rfl rfl 7 (Nat.le_of_ble_eq_true rfl) qq_98 (fun _ h9 => h9) rfl dX3_doStep_43 ?_
      refine lv_goto (tgt := 53) hx hb dX3_doStep_46 (by decide) ?_
      refine ln_imul (2 * f) hx hb dX3_doStep_53 (by first | rfl | omega) ?_
      refine lv_aload_n hx hb dX3_doStep_54 rfl (lv_at hl 2 rfl) ?_
      refine va_get (D := Z.1) (ci := 3) (v := .ref a1) (C := RX3) (T := TX3) (N := 9) hx hb hts iX3 hown hK hP 0 rfl rfl 1 (Nat.le_of_ble_eq_true rfl) qq_90 (fun _ h9 => h9) rfl dX3_doStep_55 ?_
      refine lv_iload_n hx hb dX3_doStep_58 rfl (lv_at hl 1 rfl) ?_
      refine ln_iald hx hb hK hP 2 rfl (by omega) (by omega) dX3_doStep_59 ?_
      refine ln_top (y := nI w) (by rw [e1]) ?_
      refine ln_iadd ((2 * f) + w) hx hb dX3_doStep_60 (by first | rfl | omega) ?_
      refine lv_istore_n (lv' := [(3, .int (nI ((2 * f) + w))), (2, .int (nI 1)), (1, .int (nI (2 * q + u))), (0, .ref hm)]) hx hb dX3_doStep_61 rfl hl (by decide) rfl (fun ls hl => ?_)
      refine lv_iload_n hx hb dX3_doStep_62 rfl (lv_at hl 1 rfl) ?_
      refine ln_if_eq (tgt := 73) hx hb dX3_doStep_63 (by decide) (by omega) (fun h63 => False.elim (by omega)) (fun h63 => ?_)
      refine lv_aload_n hx hb dX3_doStep_66 rfl (lv_at hl 3 rfl) ?_
      refine va_get (D := Z.1) (ci := 3) (v := .int (nI g)) (C := RX3) (T := TX3) (N := 9) hx hb hts iX3 hown hK hP 0 rfl rfl 8 (Nat.le_of_ble_eq_true rfl) qq_100 (fun _ h9 => h9) rfl dX3_doStep_67 ?_
      refine lv_goto (tgt := 77) hx hb dX3_doStep_70 (by decide) ?_
      refine lv_istore (lv' := [(4, .int (nI g)), (3, .int (nI ((2 * f) + w))), (2, .int (nI 1)), (1, .int (nI (2 * q + u))), (0, .ref hm)]) hx hb dX3_doStep_77 hl (by decide) rfl (fun ls hl => ?_)
      refine lv_iload_n hx hb dX3_doStep_79 rfl (lv_at hl 1 rfl) ?_
      refine lv_ldc (v := nI 100000) hx hb hown qq_458 dX3_doStep_80 ?_
      refine ln_icmp_le (tgt := 87) hx hb dX3_doStep_82 (by decide) (by omega) (by omega) (fun h82 => ?_) (fun h82 => ?_)
      · refine lv_aload_n hx hb dX3_doStep_87 rfl (lv_at hl 4 rfl) ?_
        refine lv_iload_n hx hb dX3_doStep_88 rfl (lv_at hl 2 rfl) ?_
        refine ln_if_eq (tgt := 96) hx hb dX3_doStep_89 (by decide) (by omega) (fun h89 => False.elim (by omega)) (fun h89 => ?_)
        refine lv_iload_n hx hb dX3_doStep_92 rfl (lv_at hl 1 rfl) ?_
        refine lv_goto (tgt := 100) hx hb dX3_doStep_93 (by decide) ?_
        refine va_put (D := Z.1) (ci := 3) (v := .int (nI ((2 * f) + w))) (ty := tyX3 7) (C := RX3) (T := TX3) (N := 9) hx hb hts iX3 tyX3 tyX3_ok nmX3 hown hK hP hD hS 0 rfl rfl 7 (Nat.le_of_ble_eq_true rfl) qq_98 (fun _ h9 => h9) rfl (tyX3_ok 7 (Nat.le_of_ble_eq_true rfl)) rfl rfl (Nat.le_of_ble_eq_true rfl) dX3_doStep_100 (fun H locs hP hD hS => ?_)
        have hP : va_P Z.1 vwCl [(hm, .inr (3, [.ref a0, .ref a1, .ref a2, .ref a3, .int (nI rc), .int (nI q), .int (nI u), .int (nI ((2 * f) + w)), .int (nI g)])), (a0, xO Z 6 ru), (a1, xI Z 6 sg), (a2, xI Z 6 wy), (a3, xI Z 6 ts)] H := hP
        have hD : va_D A [(hm, .inr (3, [.ref a0, .ref a1, .ref a2, .ref a3, .int (nI rc), .int (nI q), .int (nI u), .int (nI ((2 * f) + w)), .int (nI g)])), (a0, xO Z 6 ru), (a1, xI Z 6 sg), (a2, xI Z 6 wy), (a3, xI Z 6 ts)] := hD
        refine lv_aload_n hx hb dX3_doStep_103 rfl (lv_at hl 4 rfl) ?_
        refine lv_iload_n hx hb dX3_doStep_104 rfl (lv_at hl 2 rfl) ?_
        refine ln_if_eq (tgt := 115) hx hb dX3_doStep_105 (by decide) (by omega) (fun h105 => False.elim (by omega)) (fun h105 => ?_)
        refine lv_iload hx hb dX3_doStep_108 (lv_at hl 0 rfl) ?_
        refine ln_const 2 hx hb dX3_doStep_110 (by decide) ?_
        refine ln_idiv (g / 2) hx hb dX3_doStep_111 (by omega) (by omega) (by omega) (by first | rfl | omega) ?_
        refine lv_goto (tgt := 116) hx hb dX3_doStep_112 (by decide) ?_
        refine va_put (D := Z.1) (ci := 3) (v := .int (nI (g / 2))) (ty := tyX3 8) (C := RX3) (T := TX3) (N := 9) hx hb hts iX3 tyX3 tyX3_ok nmX3 hown hK hP hD hS 0 rfl rfl 8 (Nat.le_of_ble_eq_true rfl) qq_100 (fun _ h9 => h9) rfl (tyX3_ok 8 (Nat.le_of_ble_eq_true rfl)) rfl rfl (Nat.le_of_ble_eq_true rfl) dX3_doStep_116 (fun H locs hP hD hS => ?_)
        have hP : va_P Z.1 vwCl [(hm, .inr (3, [.ref a0, .ref a1, .ref a2, .ref a3, .int (nI rc), .int (nI q), .int (nI u), .int (nI ((2 * f) + w)), .int (nI (g / 2))])), (a0, xO Z 6 ru), (a1, xI Z 6 sg), (a2, xI Z 6 wy), (a3, xI Z 6 ts)] H := hP
        have hD : va_D A [(hm, .inr (3, [.ref a0, .ref a1, .ref a2, .ref a3, .int (nI rc), .int (nI q), .int (nI u), .int (nI ((2 * f) + w)), .int (nI (g / 2))])), (a0, xO Z 6 ru), (a1, xI Z 6 sg), (a2, xI Z 6 wy), (a3, xI Z 6 ts)] := hD
        refine lv_aload_n hx hb dX3_doStep_119 rfl (lv_at hl 4 rfl) ?_
        refine lv_iload hx hb dX3_doStep_120 (lv_at hl 0 rfl) ?_
        refine ln_const 2 hx hb dX3_doStep_122 (by decide) ?_
        refine ln_irem (g % 2) hx hb dX3_doStep_123 (by omega) (by omega) (by omega) (by first | rfl | omega) ?_
        refine va_put (D := Z.1) (ci := 3) (v := .int (nI (g % 2))) (ty := tyX3 6) (C := RX3) (T := TX3) (N := 9) hx hb hts iX3 tyX3 tyX3_ok nmX3 hown hK hP hD hS 0 rfl rfl 6 (Nat.le_of_ble_eq_true rfl) qq_96 (fun _ h9 => h9) rfl (tyX3_ok 6 (Nat.le_of_ble_eq_true rfl)) rfl rfl (Nat.le_of_ble_eq_true rfl) dX3_doStep_124 (fun H locs hP hD hS => ?_)
        have hP : va_P Z.1 vwCl [(hm, .inr (3, [.ref a0, .ref a1, .ref a2, .ref a3, .int (nI rc), .int (nI q), .int (nI (g % 2)), .int (nI ((2 * f) + w)), .int (nI (g / 2))])), (a0, xO Z 6 ru), (a1, xI Z 6 sg), (a2, xI Z 6 wy), (a3, xI Z 6 ts)] H := hP
        have hD : va_D A [(hm, .inr (3, [.ref a0, .ref a1, .ref a2, .ref a3, .int (nI rc), .int (nI q), .int (nI (g % 2)), .int (nI ((2 * f) + w)), .int (nI (g / 2))])), (a0, xO Z 6 ru), (a1, xI Z 6 sg), (a2, xI Z 6 wy), (a3, xI Z 6 ts)] := hD
        refine lv_aload_n hx hb dX3_doStep_127 rfl (lv_at hl 4 rfl) ?_
        refine lv_aload_n hx hb dX3_doStep_128 rfl (lv_at hl 4 rfl) ?_
        refine va_get (D := Z.1) (ci := 3) (v := .ref a3) (C := RX3) (T := TX3) (N := 9) hx hb hts iX3 hown hK hP 0 rfl rfl 3 (Nat.le_of_ble_eq_true rfl) qq_92 (fun _ h9 => h9) rfl dX3_doStep_129 ?_
        refine lv_iload_n hx hb dX3_doStep_132 rfl (lv_at hl 3 rfl) ?_
        refine ln_iald hx hb hK hP 4 rfl (by omega) (by omega) dX3_doStep_133 ?_
        refine ln_top (y := nI t) (by rw [e3]) ?_
        refine va_put (D := Z.1) (ci := 3) (v := .int (nI t)) (ty := tyX3 5) (C := RX3) (T := TX3) (N := 9) hx hb hts iX3 tyX3 tyX3_ok nmX3 hown hK hP hD hS 0 rfl rfl 5 (Nat.le_of_ble_eq_true rfl) qq_94 (fun _ h9 => h9) rfl (tyX3_ok 5 (Nat.le_of_ble_eq_true rfl)) rfl rfl (Nat.le_of_ble_eq_true rfl) dX3_doStep_134 (fun H locs hP hD hS => ?_)
        have hP : va_P Z.1 vwCl [(hm, .inr (3, [.ref a0, .ref a1, .ref a2, .ref a3, .int (nI rc), .int (nI t), .int (nI (g % 2)), .int (nI ((2 * f) + w)), .int (nI (g / 2))])), (a0, xO Z 6 ru), (a1, xI Z 6 sg), (a2, xI Z 6 wy), (a3, xI Z 6 ts)] H := hP
        have hD : va_D A [(hm, .inr (3, [.ref a0, .ref a1, .ref a2, .ref a3, .int (nI rc), .int (nI t), .int (nI (g % 2)), .int (nI ((2 * f) + w)), .int (nI (g / 2))])), (a0, xO Z 6 ru), (a1, xI Z 6 sg), (a2, xI Z 6 wy), (a3, xI Z 6 ts)] := hD
        refine ln_const 1 hx hb dX3_doStep_137 (by decide) ?_
        exact x_zret hC hr rfl hk hP hD hS dX3_doStep_138 (Or.inr ⟨_, by unfold mstep; dsimp only; rw [hcase]; dsimp only; rw [if_pos (by omega), if_pos (by omega)], rfl, rfl⟩)
      · refine ln_const 0 hx hb dX3_doStep_85 (by decide) ?_
        exact x_zret hC hr rfl hk hP hD hS dX3_doStep_86 (Or.inl ⟨by unfold mstep; dsimp only; rw [hcase]; dsimp only; rw [if_pos (by omega), if_neg (by omega)], rfl, rfl⟩)

theorem kv_X3_doStep : yX3_doStep.cls = RX3 ∧ yX3_doStep.cls ≠ "java/lang/invoke/MethodHandle" ∧ yX3_doStep.cls ≠ "java/lang/invoke/VarHandle" ∧ (parseMethodDescriptor yX3_doStep.desc).map (fun d => d.parameters.length) = some 0 := by decide +kernel
set_option maxHeartbeats 4000000 in
set_option maxRecDepth 100000 in
theorem c_X3_doSteps (l : Launch) (Z : xZ) (hm a0 a1 a2 a3 : Nat) (ru sg wy ts : Nat → Nat) (rc q u f g : Nat) (R : xRl) (hV : RV R) (hM : MR R ru sg wy ts) (hP0 : PV (q, u, f, g)) (n : Nat) (hn : n ≤ 5000) : xMi l Z yX3_doSteps vX3_doSteps ({ frames := 3, cells := 0, slots := 0, locals := 65 } : Room) [.ref hm, .int (nI n)] [(hm, .inr (3, [.ref a0, .ref a1, .ref a2, .ref a3, .int (nI rc), .int (nI q), .int (nI u), .int (nI f), .int (nI g)])), (a0, xO Z 6 ru), (a1, xI Z 6 sg), (a2, xI Z 6 wy), (a3, xI Z 6 ts)] (fun r v => ∃ k P, xrun (mstep R) n (q, u, f, g) = (k, P) ∧ r = nI k ∧ v = [(hm, .inr (3, [.ref a0, .ref a1, .ref a2, .ref a3, .int (nI rc), .int (nI P.1), .int (nI P.2.1), .int (nI P.2.2.1), .int (nI P.2.2.2)])), (a0, xO Z 6 ru), (a1, xI Z 6 sg), (a2, xI Z 6 wy), (a3, xI Z 6 ts)]) := by
  refine x_i (by decide) rfl (Nat.le_of_ble_eq_true rfl) ?_
  intro p e s m args below meth c ls A hC hr hk hl hP hD hS
  have hx := hC.1.1
  have hb := hC.1.2.1
  have hml := hC.1.2.2.1
  have hown : s.vm.findClass RX3 = some m.cls := hC.1.2.2.2.1
  have hts := hC.1.2.2.2.2
  have hK := hC.2.1
  have hl : lv_has ls 3 [(0, .ref hm), (1, .int (nI n))] := hl
  have hP : va_P Z.1 vwCl [(hm, .inr (3, [.ref a0, .ref a1, .ref a2, .ref a3, .int (nI rc), .int (nI q), .int (nI u), .int (nI f), .int (nI g)])), (a0, xO Z 6 ru), (a1, xI Z 6 sg), (a2, xI Z 6 wy), (a3, xI Z 6 ts)] s.heap := hP
  have hD : va_D A [(hm, .inr (3, [.ref a0, .ref a1, .ref a2, .ref a3, .int (nI rc), .int (nI q), .int (nI u), .int (nI f), .int (nI g)])), (a0, xO Z 6 ru), (a1, xI Z 6 sg), (a2, xI Z 6 wy), (a3, xI Z 6 ts)] := hD
  refine ln_const 0 hx hb dX3_doSteps_0 (by decide) ?_
  refine lv_istore_n (lv' := [(2, .int (nI 0)), (0, .ref hm), (1, .int (nI n))]) hx hb dX3_doSteps_1 rfl hl (by decide) rfl (fun ls hl => ?_)
  have hloop2 : ∀ (nn : Nat) (k q1 u1 f1 g1 : Nat) (H : Heap) (locs : List Loc) (ls : Array Slot) (hX : XR (mstep R) n (q, u, f, g) k (q1, u1, f1, g1)) (hP1 : PV (q1, u1, f1, g1)) (hmu : n - k < nn) (hP : va_P Z.1 vwCl [(hm, .inr (3, [.ref a0, .ref a1, .ref a2, .ref a3, .int (nI rc), .int (nI q1), .int (nI u1), .int (nI f1), .int (nI g1)])), (a0, xO Z 6 ru), (a1, xI Z 6 sg), (a2, xI Z 6 wy), (a3, xI Z 6 ts)] H) (hD : va_D A [(hm, .inr (3, [.ref a0, .ref a1, .ref a2, .ref a3, .int (nI rc), .int (nI q1), .int (nI u1), .int (nI f1), .int (nI g1)])), (a0, xO Z 6 ru), (a1, xI Z 6 sg), (a2, xI Z 6 wy), (a3, xI Z 6 ts)]) (hS : va_S A s.heap H locs) (hl : lv_has ls 3 [(0, .ref hm), (1, .int (nI n)), (2, .int (nI k))]), W p l e ({ frames := 3, cells := 0, slots := 0, locals := 65 } : Room) s m args below meth c H locs 0 0 (MQ below (va_Qi (fun r v => ∃ k P, xrun (mstep R) n (q, u, f, g) = (k, P) ∧ r = nI k ∧ v = [(hm, .inr (3, [.ref a0, .ref a1, .ref a2, .ref a3, .int (nI rc), .int (nI P.1), .int (nI P.2.1), .int (nI P.2.2.1), .int (nI P.2.2.2)])), (a0, xO Z 6 ru), (a1, xI Z 6 sg), (a2, xI Z 6 wy), (a3, xI Z 6 ts)]) (xB Z A) A) args s ({ frames := 3, cells := 0, slots := 0, locals := 65 } : Room).cells ({ frames := 3, cells := 0, slots := 0, locals := 65 } : Room).slots A) (F0 m 2 ls []) := by
    intro nn
    induction nn with
    | zero => intro k q1 u1 f1 g1 H locs ls hX hP1 hmu; exact absurd hmu (Nat.not_lt_zero _)
    | succ nn ih =>
      intro k q1 u1 f1 g1 H locs ls hX hP1 hmu hP hD hS hl
      have hk1 := hX.1
      refine lv_iload_n hx hb dX3_doSteps_2 rfl (lv_at hl 2 rfl) ?_
      refine lv_iload_n hx hb dX3_doSteps_3 rfl (lv_at hl 1 rfl) ?_
      refine ln_icmp_ge (tgt := 20) hx hb dX3_doSteps_4 (by decide) (by omega) (by omega) (fun h4 => ?_) (fun h4 => ?_)
      · refine lv_iload_n hx hb dX3_doSteps_20 rfl (lv_at hl 2 rfl) ?_
        exact x_iret hC hr hk hP hD hS dX3_doSteps_21 ⟨k, _, hX.full (by omega), rfl, rfl⟩
      · refine lv_aload_n hx hb dX3_doSteps_7 rfl (lv_at hl 0 rfl) ?_
        refine x_Vi (y := yX3_doStep) (As := []) (wc := [(hm, .inr (3, [.ref a0, .ref a1, .ref a2, .ref a3, .int (nI rc), .int (nI q1), .int (nI u1), .int (nI f1), .int (nI g1)])), (a0, xO Z 6 ru), (a1, xI Z 6 sg), (a2, xI Z 6 wy), (a3, xI Z 6 ts)]) (wr := []) hC hP hD hS (c_X3_doStep l Z hm a0 a1 a2 a3 ru sg wy ts rc q1 u1 f1 g1 R hV hM hP1) (gV wq_452 wq_449 wq_451 wq_5 wq_34) rfl kv_X3_doStep rfl rfl ⟨rfl, rfl⟩ rfl hl.1 rfl ⟨Nat.le_of_ble_eq_true rfl, Nat.le_of_ble_eq_true rfl⟩ [0, 1, 2, 3, 4] ([] : List Nat) rfl rfl (by decide) (by decide) (by decide) rfl dX3_doSteps_8 (fun r8 w1 H locs hw hP hD hS => ?_)
        rcases hw with ⟨hst, rfl, rfl⟩ | ⟨P, hst, rfl, rfl⟩
        · have hP : va_P Z.1 vwCl [(hm, .inr (3, [.ref a0, .ref a1, .ref a2, .ref a3, .int (nI rc), .int (nI q1), .int (nI u1), .int (nI f1), .int (nI g1)])), (a0, xO Z 6 ru), (a1, xI Z 6 sg), (a2, xI Z 6 wy), (a3, xI Z 6 ts)] H := hP
          have hD : va_D A [(hm, .inr (3, [.ref a0, .ref a1, .ref a2, .ref a3, .int (nI rc), .int (nI q1), .int (nI u1), .int (nI f1), .int (nI g1)])), (a0, xO Z 6 ru), (a1, xI Z 6 sg), (a2, xI Z 6 wy), (a3, xI Z 6 ts)] := hD
          refine ln_if_eq (tgt := 20) hx hb dX3_doSteps_11 (by decide) (by omega) (fun h11 => ?_) (fun h11 => False.elim (by omega))
          refine lv_iload_n hx hb dX3_doSteps_20 rfl (lv_at hl 2 rfl) ?_
          exact x_iret hC hr hk hP hD hS dX3_doSteps_21 ⟨k, _, hX.stop hst, rfl, rfl⟩
        · have hP : va_P Z.1 vwCl [(hm, .inr (3, [.ref a0, .ref a1, .ref a2, .ref a3, .int (nI rc), .int (nI P.1), .int (nI P.2.1), .int (nI P.2.2.1), .int (nI P.2.2.2)])), (a0, xO Z 6 ru), (a1, xI Z 6 sg), (a2, xI Z 6 wy), (a3, xI Z 6 ts)] H := hP
          have hD : va_D A [(hm, .inr (3, [.ref a0, .ref a1, .ref a2, .ref a3, .int (nI rc), .int (nI P.1), .int (nI P.2.1), .int (nI P.2.2.1), .int (nI P.2.2.2)])), (a0, xO Z 6 ru), (a1, xI Z 6 sg), (a2, xI Z 6 wy), (a3, xI Z 6 ts)] := hD
          refine ln_if_eq (tgt := 20) hx hb dX3_doSteps_11 (by decide) (by omega) (fun h11 => False.elim (by omega)) (fun h11 => ?_)
          refine ln_iinc (k0 := 2) (k := 1) (k + 1) (lv' := [(2, .int (nI (k + 1))), (0, .ref hm), (1, .int (nI n))]) hx hb dX3_doSteps_14 hl rfl rfl (by first | rfl | omega) (by decide) rfl (fun ls hl => ?_)
          refine lv_goto (tgt := 2) hx hb dX3_doSteps_17 (by decide) ?_
          exact ih  (k + 1) P.1 P.2.1 P.2.2.1 P.2.2.2 _ _ _ (hX.step (by omega) hst) (mstep_ok hV hP1 hst) (by omega) hP hD hS (lv_sub hl [1, 2, 0] rfl)
  exact hloop2 ((n - 0) + 1) 0 q u f g _ _ _ (XR.beg _ _ _) hP0 (Nat.lt_succ_self _) hP hD hS (lv_sub hl [1, 2, 0] rfl)

/-- the program and the counters as they can be -/
def CV (nl : Nat) (op wk on iz : Nat → Nat) (S : (Nat → Nat) × Nat) : Prop := nl ≤ 24 ∧ (∀ j, j < nl → op j ≤ 2 ∧ wk j ≤ 3 ∧ on j ≤ 24 ∧ iz j ≤ 24) ∧ (∀ j, j < 4 → S.1 j ≤ 1000) ∧ S.2 ≤ 24
theorem cstep_ok {nl : Nat} {op wk on iz : Nat → Nat} {S S' : (Nat → Nat) × Nat} (h : CV nl op wk on iz S) (e : cstep nl op wk on iz S = some S') : CV nl op wk on iz S' := by
  obtain ⟨v, now⟩ := S
  obtain ⟨h1, h2, h3, h4⟩ := h
  dsimp only at h3 h4
  unfold cstep at e
  dsimp only at e
  split at e
  · next hn =>
    obtain ⟨p1, p2, p3, p4⟩ := h2 now hn
    split at e
    · split at e
      · cases e
        refine ⟨h1, h2, fun j hj => ?_, p3⟩
        dsimp only
        unfold va_up
        split
        · omega
        · exact h3 j hj
      · cases e
    · split at e
      · split at e
        · cases e; exact ⟨h1, h2, h3, p4⟩
        · cases e
          refine ⟨h1, h2, fun j hj => ?_, p3⟩
          dsimp only
          unfold va_up
          split
          · have := h3 (wk now) (by omega); omega
          · exact h3 j hj
      · cases e
  · cases e

set_option maxHeartbeats 4000000 in
set_option maxRecDepth 100000 in
theorem c_X1_addLine (l : Launch) (Z : xZ) (hc b0 b1 b2 b3 b4 : Nat) (v op wk on iz : Nat → Nat) (nl now : Nat) (o1 w1 n1 z1 : Nat) (hnl : nl < 24) : xMi l Z yX1_addLine vX1_addLine ({ frames := 0, cells := 0, slots := 0, locals := 0 } : Room) [.ref hc, .int (nI o1), .int (nI w1), .int (nI n1), .int (nI z1)] [(hc, .inr (1, [.ref b0, .ref b1, .ref b2, .ref b3, .ref b4, .int (nI nl), .int (nI now)])), (b0, xI Z 4 v), (b1, xI Z 24 op), (b2, xI Z 24 wk), (b3, xI Z 24 on), (b4, xI Z 24 iz)] (fun r w => r = nI (nl + 1) ∧ w = [(hc, .inr (1, [.ref b0, .ref b1, .ref b2, .ref b3, .ref b4, .int (nI (nl + 1)), .int (nI now)])), (b0, xI Z 4 v), (b1, xI Z 24 (va_up op nl o1)), (b2, xI Z 24 (va_up wk nl w1)), (b3, xI Z 24 (va_up on nl n1)), (b4, xI Z 24 (va_up iz nl z1))]) := by
  refine x_i (by decide) rfl (Nat.le_of_ble_eq_true rfl) ?_
  intro p e s m args below meth c ls A hC hr hk hl hP hD hS
  have hx := hC.1.1
  have hb := hC.1.2.1
  have hml := hC.1.2.2.1
  have hown : s.vm.findClass RX1 = some m.cls := hC.1.2.2.2.1
  have hts := hC.1.2.2.2.2
  have hK := hC.2.1
  have qq_65 := hts (Cond.fieldLink RX1 27 "TagTower$Counters" "lines" "I") (List.mem_cons_of_mem _ wq_65)
  have iX1 : ∀ w ∈ wsX10, w ∈ vX1_addLine := fun w h => List.mem_cons_of_mem _ (wi_X1 w h)
  have qq_61 := hts (Cond.fieldLink RX1 15 "TagTower$Counters" "ops" "[I") (List.mem_cons_of_mem _ wq_61)
  have qq_62 := hts (Cond.fieldLink RX1 18 "TagTower$Counters" "worked" "[I") (List.mem_cons_of_mem _ wq_62)
  have qq_63 := hts (Cond.fieldLink RX1 21 "TagTower$Counters" "onward" "[I") (List.mem_cons_of_mem _ wq_63)
  have qq_64 := hts (Cond.fieldLink RX1 24 "TagTower$Counters" "ifZero" "[I") (List.mem_cons_of_mem _ wq_64)
  have hl : lv_has ls 5 [(0, .ref hc), (1, .int (nI o1)), (2, .int (nI w1)), (3, .int (nI n1)), (4, .int (nI z1))] := hl
  have hP : va_P Z.1 vwCl [(hc, .inr (1, [.ref b0, .ref b1, .ref b2, .ref b3, .ref b4, .int (nI nl), .int (nI now)])), (b0, xI Z 4 v), (b1, xI Z 24 op), (b2, xI Z 24 wk), (b3, xI Z 24 on), (b4, xI Z 24 iz)] s.heap := hP
  have hD : va_D A [(hc, .inr (1, [.ref b0, .ref b1, .ref b2, .ref b3, .ref b4, .int (nI nl), .int (nI now)])), (b0, xI Z 4 v), (b1, xI Z 24 op), (b2, xI Z 24 wk), (b3, xI Z 24 on), (b4, xI Z 24 iz)] := hD
  refine lv_aload_n hx hb dX1_addLine_0 rfl (lv_at hl 0 rfl) ?_
  refine va_get (D := Z.1) (ci := 1) (v := .int (nI nl)) (C := RX1) (T := TX1) (N := 7) hx hb hts iX1 hown hK hP 0 rfl rfl 5 (Nat.le_of_ble_eq_true rfl) qq_65 (fun _ h9 => h9) rfl dX1_addLine_1 ?_
  refine ln_bipush 24 hx hb dX1_addLine_4 (by decide) ?_
  refine ln_icmp_lt (tgt := 12) hx hb dX1_addLine_6 (by decide) (by omega) (by omega) (fun h6 => ?_) (fun h6 => False.elim (by omega))
  refine lv_aload_n hx hb dX1_addLine_12 rfl (lv_at hl 0 rfl) ?_
  refine va_get (D := Z.1) (ci := 1) (v := .ref b1) (C := RX1) (T := TX1) (N := 7) hx hb hts iX1 hown hK hP 0 rfl rfl 1 (Nat.le_of_ble_eq_true rfl) qq_61 (fun _ h9 => h9) rfl dX1_addLine_13 ?_
  refine lv_aload_n hx hb dX1_addLine_16 rfl (lv_at hl 0 rfl) ?_
  refine va_get (D := Z.1) (ci := 1) (v := .int (nI nl)) (C := RX1) (T := TX1) (N := 7) hx hb hts iX1 hown hK hP 0 rfl rfl 5 (Nat.le_of_ble_eq_true rfl) qq_65 (fun _ h9 => h9) rfl dX1_addLine_17 ?_
  refine lv_iload_n hx hb dX1_addLine_20 rfl (lv_at hl 1 rfl) ?_
  refine ln_iast hx hb hK hP hD hS 2 rfl (by omega) (by omega) dX1_addLine_21 (fun H locs hP hD hS => ?_)
  have hP : va_P Z.1 vwCl [(hc, .inr (1, [.ref b0, .ref b1, .ref b2, .ref b3, .ref b4, .int (nI nl), .int (nI now)])), (b0, xI Z 4 v), (b1, xI Z 24 (va_up op nl o1)), (b2, xI Z 24 wk), (b3, xI Z 24 on), (b4, xI Z 24 iz)] H := hP
  have hD : va_D A [(hc, .inr (1, [.ref b0, .ref b1, .ref b2, .ref b3, .ref b4, .int (nI nl), .int (nI now)])), (b0, xI Z 4 v), (b1, xI Z 24 (va_up op nl o1)), (b2, xI Z 24 wk), (b3, xI Z 24 on), (b4, xI Z 24 iz)] := hD
  refine lv_aload_n hx hb dX1_addLine_22 rfl (lv_at hl 0 rfl) ?_
  refine va_get (D := Z.1) (ci := 1) (v := .ref b2) (C := RX1) (T := TX1) (N := 7) hx hb hts iX1 hown hK hP 0 rfl rfl 2 (Nat.le_of_ble_eq_true rfl) qq_62 (fun _ h9 => h9) rfl dX1_addLine_23 ?_
  refine lv_aload_n hx hb dX1_addLine_26 rfl (lv_at hl 0 rfl) ?_
  refine va_get (D := Z.1) (ci := 1) (v := .int (nI nl)) (C := RX1) (T := TX1) (N := 7) hx hb hts iX1 hown hK hP 0 rfl rfl 5 (Nat.le_of_ble_eq_true rfl) qq_65 (fun _ h9 => h9) rfl dX1_addLine_27 ?_
  refine lv_iload_n hx hb dX1_addLine_30 rfl (lv_at hl 2 rfl) ?_
  refine ln_iast hx hb hK hP hD hS 3 rfl (by omega) (by omega) dX1_addLine_31 (fun H locs hP hD hS => ?_)
  have hP : va_P Z.1 vwCl [(hc, .inr (1, [.ref b0, .ref b1, .ref b2, .ref b3, .ref b4, .int (nI nl), .int (nI now)])), (b0, xI Z 4 v), (b1, xI Z 24 (va_up op nl o1)), (b2, xI Z 24 (va_up wk nl w1)), (b3, xI Z 24 on), (b4, xI Z 24 iz)] H := hP
  have hD : va_D A [(hc, .inr (1, [.ref b0, .ref b1, .ref b2, .ref b3, .ref b4, .int (nI nl), .int (nI now)])), (b0, xI Z 4 v), (b1, xI Z 24 (va_up op nl o1)), (b2, xI Z 24 (va_up wk nl w1)), (b3, xI Z 24 on), (b4, xI Z 24 iz)] := hD
  refine lv_aload_n hx hb dX1_addLine_32 rfl (lv_at hl 0 rfl) ?_
  refine va_get (D := Z.1) (ci := 1) (v := .ref b3) (C := RX1) (T := TX1) (N := 7) hx hb hts iX1 hown hK hP 0 rfl rfl 3 (Nat.le_of_ble_eq_true rfl) qq_63 (fun _ h9 => h9) rfl dX1_addLine_33 ?_
  refine lv_aload_n hx hb dX1_addLine_36 rfl (lv_at hl 0 rfl) ?_
  refine va_get (D := Z.1) (ci := 1) (v := .int (nI nl)) (C := RX1) (T := TX1) (N := 7) hx hb hts iX1 hown hK hP 0 rfl rfl 5 (Nat.le_of_ble_eq_true rfl) qq_65 (fun _ h9 => h9) rfl dX1_addLine_37 ?_
  refine lv_iload_n hx hb dX1_addLine_40 rfl (lv_at hl 3 rfl) ?_
  refine ln_iast hx hb hK hP hD hS 4 rfl (by omega) (by omega) dX1_addLine_41 (fun H locs hP hD hS => ?_)
  have hP : va_P Z.1 vwCl [(hc, .inr (1, [.ref b0, .ref b1, .ref b2, .ref b3, .ref b4, .int (nI nl), .int (nI now)])), (b0, xI Z 4 v), (b1, xI Z 24 (va_up op nl o1)), (b2, xI Z 24 (va_up wk nl w1)), (b3, xI Z 24 (va_up on nl n1)), (b4, xI Z 24 iz)] H := hP
  have hD : va_D A [(hc, .inr (1, [.ref b0, .ref b1, .ref b2, .ref b3, .ref b4, .int (nI nl), .int (nI now)])), (b0, xI Z 4 v), (b1, xI Z 24 (va_up op nl o1)), (b2, xI Z 24 (va_up wk nl w1)), (b3, xI Z 24 (va_up on nl n1)), (b4, xI Z 24 iz)] := hD
  refine lv_aload_n hx hb dX1_addLine_42 rfl (lv_at hl 0 rfl) ?_
  refine va_get (D := Z.1) (ci := 1) (v := .ref b4) (C := RX1) (T := TX1) (N := 7) hx hb hts iX1 hown hK hP 0 rfl rfl 4 (Nat.le_of_ble_eq_true rfl) qq_64 (fun _ h9 => h9) rfl dX1_addLine_43 ?_
  refine lv_aload_n hx hb dX1_addLine_46 rfl (lv_at hl 0 rfl) ?_
  refine va_get (D := Z.1) (ci := 1) (v := .int (nI nl)) (C := RX1) (T := TX1) (N := 7) hx hb hts iX1 hown hK hP 0 rfl rfl 5 (Nat.le_of_ble_eq_true rfl) qq_65 (fun _ h9 => h9) rfl dX1_addLine_47 ?_
  refine lv_iload hx hb dX1_addLine_50 (lv_at hl 4 rfl) ?_
  refine ln_iast hx hb hK hP hD hS 5 rfl (by omega) (by omega) dX1_addLine_52 (fun H locs hP hD hS => ?_)
  have hP : va_P Z.1 vwCl [(hc, .inr (1, [.ref b0, .ref b1, .ref b2, .ref b3, .ref b4, .int (nI nl), .int (nI now)])), (b0, xI Z 4 v), (b1, xI Z 24 (va_up op nl o1)), (b2, xI Z 24 (va_up wk nl w1)), (b3, xI Z 24 (va_up on nl n1)), (b4, xI Z 24 (va_up iz nl z1))] H := hP
  have hD : va_D A [(hc, .inr (1, [.ref b0, .ref b1, .ref b2, .ref b3, .ref b4, .int (nI nl), .int (nI now)])), (b0, xI Z 4 v), (b1, xI Z 24 (va_up op nl o1)), (b2, xI Z 24 (va_up wk nl w1)), (b3, xI Z 24 (va_up on nl n1)), (b4, xI Z 24 (va_up iz nl z1))] := hD
  refine lv_aload_n hx hb dX1_addLine_53 rfl (lv_at hl 0 rfl) ?_
  refine lv_dup hx hb dX1_addLine_54 rfl ?_
  refine va_get (D := Z.1) (ci := 1) (v := .int (nI nl)) (C := RX1) (T := TX1) (N := 7) hx hb hts iX1 hown hK hP 0 rfl rfl 5 (Nat.le_of_ble_eq_true rfl) qq_65 (fun _ h9 => h9) rfl dX1_addLine_55 ?_
  refine ln_const 1 hx hb dX1_addLine_58 (by decide) ?_
  refine ln_iadd (nl + 1) hx hb dX1_addLine_59 (by first | rfl | omega) ?_
  refine va_put (D := Z.1) (ci := 1) (v := .int (nI (nl + 1))) (ty := tyX1 5) (C := RX1) (T := TX1) (N := 7) hx hb hts iX1 tyX1 tyX1_ok nmX1 hown hK hP hD hS 0 rfl rfl 5 (Nat.le_of_ble_eq_true rfl) qq_65 (fun _ h9 => h9) rfl (tyX1_ok 5 (Nat.le_of_ble_eq_true rfl)) rfl rfl (Nat.le_of_ble_eq_true rfl) dX1_addLine_60 (fun H locs hP hD hS => ?_)
  have hP : va_P Z.1 vwCl [(hc, .inr (1, [.ref b0, .ref b1, .ref b2, .ref b3, .ref b4, .int (nI (nl + 1)), .int (nI now)])), (b0, xI Z 4 v), (b1, xI Z 24 (va_up op nl o1)), (b2, xI Z 24 (va_up wk nl w1)), (b3, xI Z 24 (va_up on nl n1)), (b4, xI Z 24 (va_up iz nl z1))] H := hP
  have hD : va_D A [(hc, .inr (1, [.ref b0, .ref b1, .ref b2, .ref b3, .ref b4, .int (nI (nl + 1)), .int (nI now)])), (b0, xI Z 4 v), (b1, xI Z 24 (va_up op nl o1)), (b2, xI Z 24 (va_up wk nl w1)), (b3, xI Z 24 (va_up on nl n1)), (b4, xI Z 24 (va_up iz nl z1))] := hD
  refine lv_aload_n hx hb dX1_addLine_63 rfl (lv_at hl 0 rfl) ?_
  refine va_get (D := Z.1) (ci := 1) (v := .int (nI (nl + 1))) (C := RX1) (T := TX1) (N := 7) hx hb hts iX1 hown hK hP 0 rfl rfl 5 (Nat.le_of_ble_eq_true rfl) qq_65 (fun _ h9 => h9) rfl dX1_addLine_64 ?_
  exact x_iret hC hr hk hP hD hS dX1_addLine_67 ⟨rfl, rfl⟩

set_option maxHeartbeats 4000000 in
set_option maxRecDepth 100000 in
theorem c_X1_addLine_full (l : Launch) (Z : xZ) (hc b0 b1 b2 b3 b4 : Nat) (v op wk on iz : Nat → Nat) (nl now : Nat) (o1 w1 n1 z1 : Nat) (hnl : 24 ≤ nl) (hnl2 : nl < 1000) : xMi l Z yX1_addLine vX1_addLine ({ frames := 0, cells := 0, slots := 0, locals := 0 } : Room) [.ref hc, .int (nI o1), .int (nI w1), .int (nI n1), .int (nI z1)] [(hc, .inr (1, [.ref b0, .ref b1, .ref b2, .ref b3, .ref b4, .int (nI nl), .int (nI now)])), (b0, xI Z 4 v), (b1, xI Z 24 op), (b2, xI Z 24 wk), (b3, xI Z 24 on), (b4, xI Z 24 iz)] (fun r w => r = -3 ∧ w = [(hc, .inr (1, [.ref b0, .ref b1, .ref b2, .ref b3, .ref b4, .int (nI nl), .int (nI now)])), (b0, xI Z 4 v), (b1, xI Z 24 op), (b2, xI Z 24 wk), (b3, xI Z 24 on), (b4, xI Z 24 iz)]) := by
  refine x_i (by decide) rfl (Nat.le_of_ble_eq_true rfl) ?_
  intro p e s m args below meth c ls A hC hr hk hl hP hD hS
  have hx := hC.1.1
  have hb := hC.1.2.1
  have hml := hC.1.2.2.1
  have hown : s.vm.findClass RX1 = some m.cls := hC.1.2.2.2.1
  have hts := hC.1.2.2.2.2
  have hK := hC.2.1
  have qq_65 := hts (Cond.fieldLink RX1 27 "TagTower$Counters" "lines" "I") (List.mem_cons_of_mem _ wq_65)
  have iX1 : ∀ w ∈ wsX10, w ∈ vX1_addLine := fun w h => List.mem_cons_of_mem _ (wi_X1 w h)
  have hl : lv_has ls 5 [(0, .ref hc), (1, .int (nI o1)), (2, .int (nI w1)), (3, .int (nI n1)), (4, .int (nI z1))] := hl
  have hP : va_P Z.1 vwCl [(hc, .inr (1, [.ref b0, .ref b1, .ref b2, .ref b3, .ref b4, .int (nI nl), .int (nI now)])), (b0, xI Z 4 v), (b1, xI Z 24 op), (b2, xI Z 24 wk), (b3, xI Z 24 on), (b4, xI Z 24 iz)] s.heap := hP
  have hD : va_D A [(hc, .inr (1, [.ref b0, .ref b1, .ref b2, .ref b3, .ref b4, .int (nI nl), .int (nI now)])), (b0, xI Z 4 v), (b1, xI Z 24 op), (b2, xI Z 24 wk), (b3, xI Z 24 on), (b4, xI Z 24 iz)] := hD
  refine lv_aload_n hx hb dX1_addLine_0 rfl (lv_at hl 0 rfl) ?_
  refine va_get (D := Z.1) (ci := 1) (v := .int (nI nl)) (C := RX1) (T := TX1) (N := 7) hx hb hts iX1 hown hK hP 0 rfl rfl 5 (Nat.le_of_ble_eq_true rfl) qq_65 (fun _ h9 => h9) rfl dX1_addLine_1 ?_
  refine ln_bipush 24 hx hb dX1_addLine_4 (by decide) ?_
  refine ln_icmp_lt (tgt := 12) hx hb dX1_addLine_6 (by decide) (by omega) (by omega) (fun h6 => False.elim (by omega)) (fun h6 => ?_)
  refine lv_bipush (v := (-3)) hx hb dX1_addLine_9 (by decide) ?_
  exact x_iret hC hr hk hP hD hS dX1_addLine_11 ⟨rfl, rfl⟩

set_option maxHeartbeats 4000000 in
set_option maxRecDepth 100000 in
theorem c_X1_forgetLines (l : Launch) (Z : xZ) (hc b0 b1 b2 b3 b4 : Nat) (v op wk on iz : Nat → Nat) (nl now : Nat) : xMi l Z yX1_forgetLines vX1_forgetLines ({ frames := 0, cells := 0, slots := 0, locals := 0 } : Room) [.ref hc] [(hc, .inr (1, [.ref b0, .ref b1, .ref b2, .ref b3, .ref b4, .int (nI nl), .int (nI now)])), (b0, xI Z 4 v), (b1, xI Z 24 op), (b2, xI Z 24 wk), (b3, xI Z 24 on), (b4, xI Z 24 iz)] (fun r w => r = nI nl ∧ w = [(hc, .inr (1, [.ref b0, .ref b1, .ref b2, .ref b3, .ref b4, .int (nI 0), .int (nI 0)])), (b0, xI Z 4 v), (b1, xI Z 24 op), (b2, xI Z 24 wk), (b3, xI Z 24 on), (b4, xI Z 24 iz)]) := by
  refine x_i (by decide) rfl (Nat.le_of_ble_eq_true rfl) ?_
  intro p e s m args below meth c ls A hC hr hk hl hP hD hS
  have hx := hC.1.1
  have hb := hC.1.2.1
  have hml := hC.1.2.2.1
  have hown : s.vm.findClass RX1 = some m.cls := hC.1.2.2.2.1
  have hts := hC.1.2.2.2.2
  have hK := hC.2.1
  have qq_65 := hts (Cond.fieldLink RX1 27 "TagTower$Counters" "lines" "I") (List.mem_cons_of_mem _ wq_65)
  have iX1 : ∀ w ∈ wsX10, w ∈ vX1_forgetLines := fun w h => List.mem_cons_of_mem _ (wi_X1 w h)
  have qq_66 := hts (Cond.fieldLink RX1 31 "TagTower$Counters" "now" "I") (List.mem_cons_of_mem _ wq_66)
  have hl : lv_has ls 2 [(0, .ref hc)] := hl
  have hP : va_P Z.1 vwCl [(hc, .inr (1, [.ref b0, .ref b1, .ref b2, .ref b3, .ref b4, .int (nI nl), .int (nI now)])), (b0, xI Z 4 v), (b1, xI Z 24 op), (b2, xI Z 24 wk), (b3, xI Z 24 on), (b4, xI Z 24 iz)] s.heap := hP
  have hD : va_D A [(hc, .inr (1, [.ref b0, .ref b1, .ref b2, .ref b3, .ref b4, .int (nI nl), .int (nI now)])), (b0, xI Z 4 v), (b1, xI Z 24 op), (b2, xI Z 24 wk), (b3, xI Z 24 on), (b4, xI Z 24 iz)] := hD
  refine lv_aload_n hx hb dX1_forgetLines_0 rfl (lv_at hl 0 rfl) ?_
  refine va_get (D := Z.1) (ci := 1) (v := .int (nI nl)) (C := RX1) (T := TX1) (N := 7) hx hb hts iX1 hown hK hP 0 rfl rfl 5 (Nat.le_of_ble_eq_true rfl) qq_65 (fun _ h9 => h9) rfl dX1_forgetLines_1 ?_
  refine lv_istore_n (lv' := [(1, .int (nI nl)), (0, .ref hc)]) hx hb dX1_forgetLines_4 rfl hl (by decide) rfl (fun ls hl => ?_)
  refine lv_aload_n hx hb dX1_forgetLines_5 rfl (lv_at hl 1 rfl) ?_
  refine ln_const 0 hx hb dX1_forgetLines_6 (by decide) ?_
  refine va_put (D := Z.1) (ci := 1) (v := .int (nI 0)) (ty := tyX1 5) (C := RX1) (T := TX1) (N := 7) hx hb hts iX1 tyX1 tyX1_ok nmX1 hown hK hP hD hS 0 rfl rfl 5 (Nat.le_of_ble_eq_true rfl) qq_65 (fun _ h9 => h9) rfl (tyX1_ok 5 (Nat.le_of_ble_eq_true rfl)) rfl rfl (Nat.le_of_ble_eq_true rfl) dX1_forgetLines_7 (fun H locs hP hD hS => ?_)
  have hP : va_P Z.1 vwCl [(hc, .inr (1, [.ref b0, .ref b1, .ref b2, .ref b3, .ref b4, .int (nI 0), .int (nI now)])), (b0, xI Z 4 v), (b1, xI Z 24 op), (b2, xI Z 24 wk), (b3, xI Z 24 on), (b4, xI Z 24 iz)] H := hP
  have hD : va_D A [(hc, .inr (1, [.ref b0, .ref b1, .ref b2, .ref b3, .ref b4, .int (nI 0), .int (nI now)])), (b0, xI Z 4 v), (b1, xI Z 24 op), (b2, xI Z 24 wk), (b3, xI Z 24 on), (b4, xI Z 24 iz)] := hD
  refine lv_aload_n hx hb dX1_forgetLines_10 rfl (lv_at hl 1 rfl) ?_
  refine ln_const 0 hx hb dX1_forgetLines_11 (by decide) ?_
  refine va_put (D := Z.1) (ci := 1) (v := .int (nI 0)) (ty := tyX1 6) (C := RX1) (T := TX1) (N := 7) hx hb hts iX1 tyX1 tyX1_ok nmX1 hown hK hP hD hS 0 rfl rfl 6 (Nat.le_of_ble_eq_true rfl) qq_66 (fun _ h9 => h9) rfl (tyX1_ok 6 (Nat.le_of_ble_eq_true rfl)) rfl rfl (Nat.le_of_ble_eq_true rfl) dX1_forgetLines_12 (fun H locs hP hD hS => ?_)
  have hP : va_P Z.1 vwCl [(hc, .inr (1, [.ref b0, .ref b1, .ref b2, .ref b3, .ref b4, .int (nI 0), .int (nI 0)])), (b0, xI Z 4 v), (b1, xI Z 24 op), (b2, xI Z 24 wk), (b3, xI Z 24 on), (b4, xI Z 24 iz)] H := hP
  have hD : va_D A [(hc, .inr (1, [.ref b0, .ref b1, .ref b2, .ref b3, .ref b4, .int (nI 0), .int (nI 0)])), (b0, xI Z 4 v), (b1, xI Z 24 op), (b2, xI Z 24 wk), (b3, xI Z 24 on), (b4, xI Z 24 iz)] := hD
  refine lv_iload_n hx hb dX1_forgetLines_15 rfl (lv_at hl 0 rfl) ?_
  exact x_iret hC hr hk hP hD hS dX1_forgetLines_16 ⟨rfl, rfl⟩

set_option maxHeartbeats 4000000 in
set_option maxRecDepth 100000 in
theorem c_X1_value (l : Launch) (Z : xZ) (hc b0 b1 b2 b3 b4 : Nat) (v op wk on iz : Nat → Nat) (nl now : Nat) (j : Nat) (hj : j < 4) : xMi l Z yX1_value vX1_value ({ frames := 0, cells := 0, slots := 0, locals := 0 } : Room) [.ref hc, .int (nI j)] [(hc, .inr (1, [.ref b0, .ref b1, .ref b2, .ref b3, .ref b4, .int (nI nl), .int (nI now)])), (b0, xI Z 4 v), (b1, xI Z 24 op), (b2, xI Z 24 wk), (b3, xI Z 24 on), (b4, xI Z 24 iz)] (fun r w => r = nI (v j) ∧ w = [(hc, .inr (1, [.ref b0, .ref b1, .ref b2, .ref b3, .ref b4, .int (nI nl), .int (nI now)])), (b0, xI Z 4 v), (b1, xI Z 24 op), (b2, xI Z 24 wk), (b3, xI Z 24 on), (b4, xI Z 24 iz)]) := by
  refine x_i (by decide) rfl (Nat.le_of_ble_eq_true rfl) ?_
  intro p e s m args below meth c ls A hC hr hk hl hP hD hS
  have hx := hC.1.1
  have hb := hC.1.2.1
  have hml := hC.1.2.2.1
  have hown : s.vm.findClass RX1 = some m.cls := hC.1.2.2.2.1
  have hts := hC.1.2.2.2.2
  have hK := hC.2.1
  have qq_60 := hts (Cond.fieldLink RX1 9 "TagTower$Counters" "values" "[I") (List.mem_cons_of_mem _ wq_60)
  have iX1 : ∀ w ∈ wsX10, w ∈ vX1_value := fun w h => List.mem_cons_of_mem _ (wi_X1 w h)
  have hl : lv_has ls 2 [(0, .ref hc), (1, .int (nI j))] := hl
  have hP : va_P Z.1 vwCl [(hc, .inr (1, [.ref b0, .ref b1, .ref b2, .ref b3, .ref b4, .int (nI nl), .int (nI now)])), (b0, xI Z 4 v), (b1, xI Z 24 op), (b2, xI Z 24 wk), (b3, xI Z 24 on), (b4, xI Z 24 iz)] s.heap := hP
  have hD : va_D A [(hc, .inr (1, [.ref b0, .ref b1, .ref b2, .ref b3, .ref b4, .int (nI nl), .int (nI now)])), (b0, xI Z 4 v), (b1, xI Z 24 op), (b2, xI Z 24 wk), (b3, xI Z 24 on), (b4, xI Z 24 iz)] := hD
  refine lv_aload_n hx hb dX1_value_0 rfl (lv_at hl 0 rfl) ?_
  refine va_get (D := Z.1) (ci := 1) (v := .ref b0) (C := RX1) (T := TX1) (N := 7) hx hb hts iX1 hown hK hP 0 rfl rfl 0 (Nat.le_of_ble_eq_true rfl) qq_60 (fun _ h9 => h9) rfl dX1_value_1 ?_
  refine lv_iload_n hx hb dX1_value_4 rfl (lv_at hl 1 rfl) ?_
  refine ln_iald hx hb hK hP 1 rfl (by omega) (by omega) dX1_value_5 ?_
  exact x_iret hC hr hk hP hD hS dX1_value_6 ⟨rfl, rfl⟩

set_option maxHeartbeats 4000000 in
set_option maxRecDepth 100000 in
theorem c_X1_putValue (l : Launch) (Z : xZ) (hc b0 b1 b2 b3 b4 : Nat) (v op wk on iz : Nat → Nat) (nl now : Nat) (j y : Nat) (hj : j < 4) : xMi l Z yX1_putValue vX1_putValue ({ frames := 0, cells := 0, slots := 0, locals := 0 } : Room) [.ref hc, .int (nI j), .int (nI y)] [(hc, .inr (1, [.ref b0, .ref b1, .ref b2, .ref b3, .ref b4, .int (nI nl), .int (nI now)])), (b0, xI Z 4 v), (b1, xI Z 24 op), (b2, xI Z 24 wk), (b3, xI Z 24 on), (b4, xI Z 24 iz)] (fun r w => r = nI (v j) ∧ w = [(hc, .inr (1, [.ref b0, .ref b1, .ref b2, .ref b3, .ref b4, .int (nI nl), .int (nI now)])), (b0, xI Z 4 (va_up v j y)), (b1, xI Z 24 op), (b2, xI Z 24 wk), (b3, xI Z 24 on), (b4, xI Z 24 iz)]) := by
  refine x_i (by decide) rfl (Nat.le_of_ble_eq_true rfl) ?_
  intro p e s m args below meth c ls A hC hr hk hl hP hD hS
  have hx := hC.1.1
  have hb := hC.1.2.1
  have hml := hC.1.2.2.1
  have hown : s.vm.findClass RX1 = some m.cls := hC.1.2.2.2.1
  have hts := hC.1.2.2.2.2
  have hK := hC.2.1
  have qq_60 := hts (Cond.fieldLink RX1 9 "TagTower$Counters" "values" "[I") (List.mem_cons_of_mem _ wq_60)
  have iX1 : ∀ w ∈ wsX10, w ∈ vX1_putValue := fun w h => List.mem_cons_of_mem _ (wi_X1 w h)
  have hl : lv_has ls 4 [(0, .ref hc), (1, .int (nI j)), (2, .int (nI y))] := hl
  have hP : va_P Z.1 vwCl [(hc, .inr (1, [.ref b0, .ref b1, .ref b2, .ref b3, .ref b4, .int (nI nl), .int (nI now)])), (b0, xI Z 4 v), (b1, xI Z 24 op), (b2, xI Z 24 wk), (b3, xI Z 24 on), (b4, xI Z 24 iz)] s.heap := hP
  have hD : va_D A [(hc, .inr (1, [.ref b0, .ref b1, .ref b2, .ref b3, .ref b4, .int (nI nl), .int (nI now)])), (b0, xI Z 4 v), (b1, xI Z 24 op), (b2, xI Z 24 wk), (b3, xI Z 24 on), (b4, xI Z 24 iz)] := hD
  refine lv_aload_n hx hb dX1_putValue_0 rfl (lv_at hl 0 rfl) ?_
  refine va_get (D := Z.1) (ci := 1) (v := .ref b0) (C := RX1) (T := TX1) (N := 7) hx hb hts iX1 hown hK hP 0 rfl rfl 0 (Nat.le_of_ble_eq_true rfl) qq_60 (fun _ h9 => h9) rfl dX1_putValue_1 ?_
  refine lv_iload_n hx hb dX1_putValue_4 rfl (lv_at hl 1 rfl) ?_
  refine ln_iald hx hb hK hP 1 rfl (by omega) (by omega) dX1_putValue_5 ?_
  refine lv_istore_n (lv' := [(3, .int (nI (v j))), (0, .ref hc), (1, .int (nI j)), (2, .int (nI y))]) hx hb dX1_putValue_6 rfl hl (by decide) rfl (fun ls hl => ?_)
  refine lv_aload_n hx hb dX1_putValue_7 rfl (lv_at hl 1 rfl) ?_
  refine va_get (D := Z.1) (ci := 1) (v := .ref b0) (C := RX1) (T := TX1) (N := 7) hx hb hts iX1 hown hK hP 0 rfl rfl 0 (Nat.le_of_ble_eq_true rfl) qq_60 (fun _ h9 => h9) rfl dX1_putValue_8 ?_
  refine lv_iload_n hx hb dX1_putValue_11 rfl (lv_at hl 2 rfl) ?_
  refine lv_iload_n hx hb dX1_putValue_12 rfl (lv_at hl 3 rfl) ?_
  refine ln_iast hx hb hK hP hD hS 1 rfl (by omega) (by omega) dX1_putValue_13 (fun H locs hP hD hS => ?_)
  have hP : va_P Z.1 vwCl [(hc, .inr (1, [.ref b0, .ref b1, .ref b2, .ref b3, .ref b4, .int (nI nl), .int (nI now)])), (b0, xI Z 4 (va_up v j y)), (b1, xI Z 24 op), (b2, xI Z 24 wk), (b3, xI Z 24 on), (b4, xI Z 24 iz)] H := hP
  have hD : va_D A [(hc, .inr (1, [.ref b0, .ref b1, .ref b2, .ref b3, .ref b4, .int (nI nl), .int (nI now)])), (b0, xI Z 4 (va_up v j y)), (b1, xI Z 24 op), (b2, xI Z 24 wk), (b3, xI Z 24 on), (b4, xI Z 24 iz)] := hD
  refine lv_iload_n hx hb dX1_putValue_14 rfl (lv_at hl 0 rfl) ?_
  exact x_iret hC hr hk hP hD hS dX1_putValue_15 ⟨rfl, rfl⟩

set_option maxHeartbeats 4000000 in
set_option maxRecDepth 100000 in
theorem c_X1_lineNow (l : Launch) (Z : xZ) (hc b0 b1 b2 b3 b4 : Nat) (v op wk on iz : Nat → Nat) (nl now : Nat) : xMi l Z yX1_lineNow vX1_lineNow ({ frames := 0, cells := 0, slots := 0, locals := 0 } : Room) [.ref hc] [(hc, .inr (1, [.ref b0, .ref b1, .ref b2, .ref b3, .ref b4, .int (nI nl), .int (nI now)])), (b0, xI Z 4 v), (b1, xI Z 24 op), (b2, xI Z 24 wk), (b3, xI Z 24 on), (b4, xI Z 24 iz)] (fun r w => r = nI now ∧ w = [(hc, .inr (1, [.ref b0, .ref b1, .ref b2, .ref b3, .ref b4, .int (nI nl), .int (nI now)])), (b0, xI Z 4 v), (b1, xI Z 24 op), (b2, xI Z 24 wk), (b3, xI Z 24 on), (b4, xI Z 24 iz)]) := by
  refine x_i (by decide) rfl (Nat.le_of_ble_eq_true rfl) ?_
  intro p e s m args below meth c ls A hC hr hk hl hP hD hS
  have hx := hC.1.1
  have hb := hC.1.2.1
  have hml := hC.1.2.2.1
  have hown : s.vm.findClass RX1 = some m.cls := hC.1.2.2.2.1
  have hts := hC.1.2.2.2.2
  have hK := hC.2.1
  have qq_66 := hts (Cond.fieldLink RX1 31 "TagTower$Counters" "now" "I") (List.mem_cons_of_mem _ wq_66)
  have iX1 : ∀ w ∈ wsX10, w ∈ vX1_lineNow := fun w h => List.mem_cons_of_mem _ (wi_X1 w h)
  have hl : lv_has ls 1 [(0, .ref hc)] := hl
  have hP : va_P Z.1 vwCl [(hc, .inr (1, [.ref b0, .ref b1, .ref b2, .ref b3, .ref b4, .int (nI nl), .int (nI now)])), (b0, xI Z 4 v), (b1, xI Z 24 op), (b2, xI Z 24 wk), (b3, xI Z 24 on), (b4, xI Z 24 iz)] s.heap := hP
  have hD : va_D A [(hc, .inr (1, [.ref b0, .ref b1, .ref b2, .ref b3, .ref b4, .int (nI nl), .int (nI now)])), (b0, xI Z 4 v), (b1, xI Z 24 op), (b2, xI Z 24 wk), (b3, xI Z 24 on), (b4, xI Z 24 iz)] := hD
  refine lv_aload_n hx hb dX1_lineNow_0 rfl (lv_at hl 0 rfl) ?_
  refine va_get (D := Z.1) (ci := 1) (v := .int (nI now)) (C := RX1) (T := TX1) (N := 7) hx hb hts iX1 hown hK hP 0 rfl rfl 6 (Nat.le_of_ble_eq_true rfl) qq_66 (fun _ h9 => h9) rfl dX1_lineNow_1 ?_
  exact x_iret hC hr hk hP hD hS dX1_lineNow_4 ⟨rfl, rfl⟩

set_option maxHeartbeats 4000000 in
set_option maxRecDepth 100000 in
theorem c_X1_jump (l : Launch) (Z : xZ) (hc b0 b1 b2 b3 b4 : Nat) (v op wk on iz : Nat → Nat) (nl now : Nat) (y : Nat) : xMi l Z yX1_jump vX1_jump ({ frames := 0, cells := 0, slots := 0, locals := 0 } : Room) [.ref hc, .int (nI y)] [(hc, .inr (1, [.ref b0, .ref b1, .ref b2, .ref b3, .ref b4, .int (nI nl), .int (nI now)])), (b0, xI Z 4 v), (b1, xI Z 24 op), (b2, xI Z 24 wk), (b3, xI Z 24 on), (b4, xI Z 24 iz)] (fun r w => r = nI now ∧ w = [(hc, .inr (1, [.ref b0, .ref b1, .ref b2, .ref b3, .ref b4, .int (nI nl), .int (nI y)])), (b0, xI Z 4 v), (b1, xI Z 24 op), (b2, xI Z 24 wk), (b3, xI Z 24 on), (b4, xI Z 24 iz)]) := by
  refine x_i (by decide) rfl (Nat.le_of_ble_eq_true rfl) ?_
  intro p e s m args below meth c ls A hC hr hk hl hP hD hS
  have hx := hC.1.1
  have hb := hC.1.2.1
  have hml := hC.1.2.2.1
  have hown : s.vm.findClass RX1 = some m.cls := hC.1.2.2.2.1
  have hts := hC.1.2.2.2.2
  have hK := hC.2.1
  have qq_66 := hts (Cond.fieldLink RX1 31 "TagTower$Counters" "now" "I") (List.mem_cons_of_mem _ wq_66)
  have iX1 : ∀ w ∈ wsX10, w ∈ vX1_jump := fun w h => List.mem_cons_of_mem _ (wi_X1 w h)
  have hl : lv_has ls 3 [(0, .ref hc), (1, .int (nI y))] := hl
  have hP : va_P Z.1 vwCl [(hc, .inr (1, [.ref b0, .ref b1, .ref b2, .ref b3, .ref b4, .int (nI nl), .int (nI now)])), (b0, xI Z 4 v), (b1, xI Z 24 op), (b2, xI Z 24 wk), (b3, xI Z 24 on), (b4, xI Z 24 iz)] s.heap := hP
  have hD : va_D A [(hc, .inr (1, [.ref b0, .ref b1, .ref b2, .ref b3, .ref b4, .int (nI nl), .int (nI now)])), (b0, xI Z 4 v), (b1, xI Z 24 op), (b2, xI Z 24 wk), (b3, xI Z 24 on), (b4, xI Z 24 iz)] := hD
  refine lv_aload_n hx hb dX1_jump_0 rfl (lv_at hl 0 rfl) ?_
  refine va_get (D := Z.1) (ci := 1) (v := .int (nI now)) (C := RX1) (T := TX1) (N := 7) hx hb hts iX1 hown hK hP 0 rfl rfl 6 (Nat.le_of_ble_eq_true rfl) qq_66 (fun _ h9 => h9) rfl dX1_jump_1 ?_
  refine lv_istore_n (lv' := [(2, .int (nI now)), (0, .ref hc), (1, .int (nI y))]) hx hb dX1_jump_4 rfl hl (by decide) rfl (fun ls hl => ?_)
  refine lv_aload_n hx hb dX1_jump_5 rfl (lv_at hl 1 rfl) ?_
  refine lv_iload_n hx hb dX1_jump_6 rfl (lv_at hl 2 rfl) ?_
  refine va_put (D := Z.1) (ci := 1) (v := .int (nI y)) (ty := tyX1 6) (C := RX1) (T := TX1) (N := 7) hx hb hts iX1 tyX1 tyX1_ok nmX1 hown hK hP hD hS 0 rfl rfl 6 (Nat.le_of_ble_eq_true rfl) qq_66 (fun _ h9 => h9) rfl (tyX1_ok 6 (Nat.le_of_ble_eq_true rfl)) rfl rfl (Nat.le_of_ble_eq_true rfl) dX1_jump_7 (fun H locs hP hD hS => ?_)
  have hP : va_P Z.1 vwCl [(hc, .inr (1, [.ref b0, .ref b1, .ref b2, .ref b3, .ref b4, .int (nI nl), .int (nI y)])), (b0, xI Z 4 v), (b1, xI Z 24 op), (b2, xI Z 24 wk), (b3, xI Z 24 on), (b4, xI Z 24 iz)] H := hP
  have hD : va_D A [(hc, .inr (1, [.ref b0, .ref b1, .ref b2, .ref b3, .ref b4, .int (nI nl), .int (nI y)])), (b0, xI Z 4 v), (b1, xI Z 24 op), (b2, xI Z 24 wk), (b3, xI Z 24 on), (b4, xI Z 24 iz)] := hD
  refine lv_iload_n hx hb dX1_jump_10 rfl (lv_at hl 0 rfl) ?_
  exact x_iret hC hr hk hP hD hS dX1_jump_11 ⟨rfl, rfl⟩

set_option maxHeartbeats 4000000 in
set_option maxRecDepth 100000 in
theorem c_X1_countUp (l : Launch) (Z : xZ) (hc b0 b1 b2 b3 b4 : Nat) (v op wk on iz : Nat → Nat) (nl now : Nat) (hV : CV nl op wk on iz (v, now)) (hnow : now < nl) (hop : op now = 0) : xMi l Z yX1_countUp vX1_countUp ({ frames := 0, cells := 0, slots := 0, locals := 0 } : Room) [.ref hc, .int (nI (wk now))] [(hc, .inr (1, [.ref b0, .ref b1, .ref b2, .ref b3, .ref b4, .int (nI nl), .int (nI now)])), (b0, xI Z 4 v), (b1, xI Z 24 op), (b2, xI Z 24 wk), (b3, xI Z 24 on), (b4, xI Z 24 iz)] (fun r w => (cstep nl op wk on iz (v, now) = none ∧ r = nI 0 ∧ w = [(hc, .inr (1, [.ref b0, .ref b1, .ref b2, .ref b3, .ref b4, .int (nI nl), .int (nI now)])), (b0, xI Z 4 v), (b1, xI Z 24 op), (b2, xI Z 24 wk), (b3, xI Z 24 on), (b4, xI Z 24 iz)]) ∨ (∃ S, cstep nl op wk on iz (v, now) = some S ∧ r = nI 1 ∧ w = [(hc, .inr (1, [.ref b0, .ref b1, .ref b2, .ref b3, .ref b4, .int (nI nl), .int (nI S.2)])), (b0, xI Z 4 S.1), (b1, xI Z 24 op), (b2, xI Z 24 wk), (b3, xI Z 24 on), (b4, xI Z 24 iz)])) := by
  refine x_i (by decide) rfl (Nat.le_of_ble_eq_true rfl) ?_
  intro p e s m args below meth c ls A hC hr hk hl hP hD hS
  have hx := hC.1.1
  have hb := hC.1.2.1
  have hml := hC.1.2.2.1
  have hown : s.vm.findClass RX1 = some m.cls := hC.1.2.2.2.1
  have hts := hC.1.2.2.2.2
  have hK := hC.2.1
  have qq_60 := hts (Cond.fieldLink RX1 9 "TagTower$Counters" "values" "[I") (List.mem_cons_of_mem _ wq_60)
  have iX1 : ∀ w ∈ wsX10, w ∈ vX1_countUp := fun w h => List.mem_cons_of_mem _ (wi_X1 w h)
  have qq_63 := hts (Cond.fieldLink RX1 21 "TagTower$Counters" "onward" "[I") (List.mem_cons_of_mem _ wq_63)
  have qq_66 := hts (Cond.fieldLink RX1 31 "TagTower$Counters" "now" "I") (List.mem_cons_of_mem _ wq_66)
  have hl : lv_has ls 2 [(0, .ref hc), (1, .int (nI (wk now)))] := hl
  have hP : va_P Z.1 vwCl [(hc, .inr (1, [.ref b0, .ref b1, .ref b2, .ref b3, .ref b4, .int (nI nl), .int (nI now)])), (b0, xI Z 4 v), (b1, xI Z 24 op), (b2, xI Z 24 wk), (b3, xI Z 24 on), (b4, xI Z 24 iz)] s.heap := hP
  have hD : va_D A [(hc, .inr (1, [.ref b0, .ref b1, .ref b2, .ref b3, .ref b4, .int (nI nl), .int (nI now)])), (b0, xI Z 4 v), (b1, xI Z 24 op), (b2, xI Z 24 wk), (b3, xI Z 24 on), (b4, xI Z 24 iz)] := hD
  obtain ⟨g1, g2, g3, g4⟩ := id hV
  obtain ⟨g5, g6, g7, g8⟩ := g2 now hnow
  dsimp only at g3 g4
  have g9 := g3 (wk now) (by omega)
  refine lv_aload_n hx hb dX1_countUp_0 rfl (lv_at hl 0 rfl) ?_
  refine va_get (D := Z.1) (ci := 1) (v := .ref b0) (C := RX1) (T := TX1) (N := 7) hx hb hts iX1 hown hK hP 0 rfl rfl 0 (Nat.le_of_ble_eq_true rfl) qq_60 (fun _ h9 => h9) rfl dX1_countUp_1 ?_
  refine lv_iload_n hx hb dX1_countUp_4 rfl (lv_at hl 1 rfl) ?_
  refine ln_iald hx hb hK hP 1 rfl (by omega) (by omega) dX1_countUp_5 ?_
  refine ln_sipush 1000 hx hb dX1_countUp_6 (by decide) ?_
  refine ln_icmp_lt (tgt := 14) hx hb dX1_countUp_9 (by decide) (by omega) (by omega) (fun h9 => ?_) (fun h9 => ?_)
  · refine lv_aload_n hx hb dX1_countUp_14 rfl (lv_at hl 0 rfl) ?_
    refine va_get (D := Z.1) (ci := 1) (v := .ref b0) (C := RX1) (T := TX1) (N := 7) hx hb hts iX1 hown hK hP 0 rfl rfl 0 (Nat.le_of_ble_eq_true rfl) qq_60 (fun _ h9 => h9) rfl dX1_countUp_15 ?_
    refine lv_iload_n hx hb dX1_countUp_18 rfl (lv_at hl 1 rfl) ?_
    refine lv_dup2_11 hx hb dX1_countUp_19 rfl rfl ?_
    refine ln_iald hx hb hK hP 1 rfl (by omega) (by omega) dX1_countUp_20 ?_
    refine ln_const 1 hx hb dX1_countUp_21 (by decide) ?_
    refine ln_iadd ((v (wk now)) + 1) hx hb dX1_countUp_22 (by first | rfl | omega) ?_
    refine ln_iast hx hb hK hP hD hS 1 rfl (by omega) (by omega) dX1_countUp_23 (fun H locs hP hD hS => ?_)
    have hP : va_P Z.1 vwCl [(hc, .inr (1, [.ref b0, .ref b1, .ref b2, .ref b3, .ref b4, .int (nI nl), .int (nI now)])), (b0, xI Z 4 (va_up v (wk now) ((v (wk now)) + 1))), (b1, xI Z 24 op), (b2, xI Z 24 wk), (b3, xI Z 24 on), (b4, xI Z 24 iz)] H := hP
    have hD : va_D A [(hc, .inr (1, [.ref b0, .ref b1, .ref b2, .ref b3, .ref b4, .int (nI nl), .int (nI now)])), (b0, xI Z 4 (va_up v (wk now) ((v (wk now)) + 1))), (b1, xI Z 24 op), (b2, xI Z 24 wk), (b3, xI Z 24 on), (b4, xI Z 24 iz)] := hD
    refine lv_aload_n hx hb dX1_countUp_24 rfl (lv_at hl 0 rfl) ?_
    refine lv_aload_n hx hb dX1_countUp_25 rfl (lv_at hl 0 rfl) ?_
    refine va_get (D := Z.1) (ci := 1) (v := .ref b3) (C := RX1) (T := TX1) (N := 7) hx hb hts iX1 hown hK hP 0 rfl rfl 3 (Nat.le_of_ble_eq_true rfl) qq_63 (fun _ h9 => h9) rfl dX1_countUp_26 ?_
    refine lv_aload_n hx hb dX1_countUp_29 rfl (lv_at hl 0 rfl) ?_
    refine va_get (D := Z.1) (ci := 1) (v := .int (nI now)) (C := RX1) (T := TX1) (N := 7) hx hb hts iX1 hown hK hP 0 rfl rfl 6 (Nat.le_of_ble_eq_true rfl) qq_66 (fun _ h9 => h9) rfl dX1_countUp_30 ?_
    refine ln_iald hx hb hK hP 4 rfl (by omega) (by omega) dX1_countUp_33 ?_
    refine va_put (D := Z.1) (ci := 1) (v := .int (nI (on now))) (ty := tyX1 6) (C := RX1) (T := TX1) (N := 7) hx hb hts iX1 tyX1 tyX1_ok nmX1 hown hK hP hD hS 0 rfl rfl 6 (Nat.le_of_ble_eq_true rfl) qq_66 (fun _ h9 => h9) rfl (tyX1_ok 6 (Nat.le_of_ble_eq_true rfl)) rfl rfl (Nat.le_of_ble_eq_true rfl) dX1_countUp_34 (fun H locs hP hD hS => ?_)
    have hP : va_P Z.1 vwCl [(hc, .inr (1, [.ref b0, .ref b1, .ref b2, .ref b3, .ref b4, .int (nI nl), .int (nI (on now))])), (b0, xI Z 4 (va_up v (wk now) ((v (wk now)) + 1))), (b1, xI Z 24 op), (b2, xI Z 24 wk), (b3, xI Z 24 on), (b4, xI Z 24 iz)] H := hP
    have hD : va_D A [(hc, .inr (1, [.ref b0, .ref b1, .ref b2, .ref b3, .ref b4, .int (nI nl), .int (nI (on now))])), (b0, xI Z 4 (va_up v (wk now) ((v (wk now)) + 1))), (b1, xI Z 24 op), (b2, xI Z 24 wk), (b3, xI Z 24 on), (b4, xI Z 24 iz)] := hD
    refine ln_const 1 hx hb dX1_countUp_37 (by decide) ?_
    exact x_zret hC hr rfl hk hP hD hS dX1_countUp_38 (Or.inr ⟨_, by unfold cstep; dsimp only; rw [if_pos hnow, if_pos hop, if_pos (by omega)], rfl, rfl⟩)
  · refine ln_const 0 hx hb dX1_countUp_12 (by decide) ?_
    exact x_zret hC hr rfl hk hP hD hS dX1_countUp_13 (Or.inl ⟨by unfold cstep; dsimp only; rw [if_pos hnow, if_pos hop, if_neg (by omega)], rfl, rfl⟩)

set_option maxHeartbeats 4000000 in
set_option maxRecDepth 100000 in
theorem c_X1_countDown (l : Launch) (Z : xZ) (hc b0 b1 b2 b3 b4 : Nat) (v op wk on iz : Nat → Nat) (nl now : Nat) (hV : CV nl op wk on iz (v, now)) (hnow : now < nl) (hop : op now = 1) : xMi l Z yX1_countDown vX1_countDown ({ frames := 0, cells := 0, slots := 0, locals := 0 } : Room) [.ref hc, .int (nI (wk now))] [(hc, .inr (1, [.ref b0, .ref b1, .ref b2, .ref b3, .ref b4, .int (nI nl), .int (nI now)])), (b0, xI Z 4 v), (b1, xI Z 24 op), (b2, xI Z 24 wk), (b3, xI Z 24 on), (b4, xI Z 24 iz)] (fun r w => ∃ S, cstep nl op wk on iz (v, now) = some S ∧ r = nI 1 ∧ w = [(hc, .inr (1, [.ref b0, .ref b1, .ref b2, .ref b3, .ref b4, .int (nI nl), .int (nI S.2)])), (b0, xI Z 4 S.1), (b1, xI Z 24 op), (b2, xI Z 24 wk), (b3, xI Z 24 on), (b4, xI Z 24 iz)]) := by
  refine x_i (by decide) rfl (Nat.le_of_ble_eq_true rfl) ?_
  intro p e s m args below meth c ls A hC hr hk hl hP hD hS
  have hx := hC.1.1
  have hb := hC.1.2.1
  have hml := hC.1.2.2.1
  have hown : s.vm.findClass RX1 = some m.cls := hC.1.2.2.2.1
  have hts := hC.1.2.2.2.2
  have hK := hC.2.1
  have qq_60 := hts (Cond.fieldLink RX1 9 "TagTower$Counters" "values" "[I") (List.mem_cons_of_mem _ wq_60)
  have iX1 : ∀ w ∈ wsX10, w ∈ vX1_countDown := fun w h => List.mem_cons_of_mem _ (wi_X1 w h)
  have qq_63 := hts (Cond.fieldLink RX1 21 "TagTower$Counters" "onward" "[I") (List.mem_cons_of_mem _ wq_63)
  have qq_66 := hts (Cond.fieldLink RX1 31 "TagTower$Counters" "now" "I") (List.mem_cons_of_mem _ wq_66)
  have qq_64 := hts (Cond.fieldLink RX1 24 "TagTower$Counters" "ifZero" "[I") (List.mem_cons_of_mem _ wq_64)
  have hl : lv_has ls 2 [(0, .ref hc), (1, .int (nI (wk now)))] := hl
  have hP : va_P Z.1 vwCl [(hc, .inr (1, [.ref b0, .ref b1, .ref b2, .ref b3, .ref b4, .int (nI nl), .int (nI now)])), (b0, xI Z 4 v), (b1, xI Z 24 op), (b2, xI Z 24 wk), (b3, xI Z 24 on), (b4, xI Z 24 iz)] s.heap := hP
  have hD : va_D A [(hc, .inr (1, [.ref b0, .ref b1, .ref b2, .ref b3, .ref b4, .int (nI nl), .int (nI now)])), (b0, xI Z 4 v), (b1, xI Z 24 op), (b2, xI Z 24 wk), (b3, xI Z 24 on), (b4, xI Z 24 iz)] := hD
  obtain ⟨g1, g2, g3, g4⟩ := id hV
  obtain ⟨g5, g6, g7, g8⟩ := g2 now hnow
  dsimp only at g3 g4
  have g9 := g3 (wk now) (by omega)
  refine lv_aload_n hx hb dX1_countDown_0 rfl (lv_at hl 0 rfl) ?_
  refine va_get (D := Z.1) (ci := 1) (v := .ref b0) (C := RX1) (T := TX1) (N := 7) hx hb hts iX1 hown hK hP 0 rfl rfl 0 (Nat.le_of_ble_eq_true rfl) qq_60 (fun _ h9 => h9) rfl dX1_countDown_1 ?_
  refine lv_iload_n hx hb dX1_countDown_4 rfl (lv_at hl 1 rfl) ?_
  refine ln_iald hx hb hK hP 1 rfl (by omega) (by omega) dX1_countDown_5 ?_
  refine ln_if_ne (tgt := 25) hx hb dX1_countDown_6 (by decide) (by omega) (fun h6 => ?_) (fun h6 => ?_)
  · refine lv_aload_n hx hb dX1_countDown_25 rfl (lv_at hl 0 rfl) ?_
    refine va_get (D := Z.1) (ci := 1) (v := .ref b0) (C := RX1) (T := TX1) (N := 7) hx hb hts iX1 hown hK hP 0 rfl rfl 0 (Nat.le_of_ble_eq_true rfl) qq_60 (fun _ h9 => h9) rfl dX1_countDown_26 ?_
    refine lv_iload_n hx hb dX1_countDown_29 rfl (lv_at hl 1 rfl) ?_
    refine lv_dup2_11 hx hb dX1_countDown_30 rfl rfl ?_
    refine ln_iald hx hb hK hP 1 rfl (by omega) (by omega) dX1_countDown_31 ?_
    refine ln_const 1 hx hb dX1_countDown_32 (by decide) ?_
    refine ln_isub ((v (wk now)) - 1) hx hb dX1_countDown_33 (by omega) (by first | rfl | omega) ?_
    refine ln_iast hx hb hK hP hD hS 1 rfl (by omega) (by omega) dX1_countDown_34 (fun H locs hP hD hS => ?_)
    have hP : va_P Z.1 vwCl [(hc, .inr (1, [.ref b0, .ref b1, .ref b2, .ref b3, .ref b4, .int (nI nl), .int (nI now)])), (b0, xI Z 4 (va_up v (wk now) ((v (wk now)) - 1))), (b1, xI Z 24 op), (b2, xI Z 24 wk), (b3, xI Z 24 on), (b4, xI Z 24 iz)] H := hP
    have hD : va_D A [(hc, .inr (1, [.ref b0, .ref b1, .ref b2, .ref b3, .ref b4, .int (nI nl), .int (nI now)])), (b0, xI Z 4 (va_up v (wk now) ((v (wk now)) - 1))), (b1, xI Z 24 op), (b2, xI Z 24 wk), (b3, xI Z 24 on), (b4, xI Z 24 iz)] := hD
    refine lv_aload_n hx hb dX1_countDown_35 rfl (lv_at hl 0 rfl) ?_
    refine lv_aload_n hx hb dX1_countDown_36 rfl (lv_at hl 0 rfl) ?_
    refine va_get (D := Z.1) (ci := 1) (v := .ref b3) (C := RX1) (T := TX1) (N := 7) hx hb hts iX1 hown hK hP 0 rfl rfl 3 (Nat.le_of_ble_eq_true rfl) qq_63 (fun _ h9 => h9) rfl dX1_countDown_37 ?_
    refine lv_aload_n hx hb dX1_countDown_40 rfl (lv_at hl 0 rfl) ?_
    refine va_get (D := Z.1) (ci := 1) (v := .int (nI now)) (C := RX1) (T := TX1) (N := 7) hx hb hts iX1 hown hK hP 0 rfl rfl 6 (Nat.le_of_ble_eq_true rfl) qq_66 (fun _ h9 => h9) rfl dX1_countDown_41 ?_
    refine ln_iald hx hb hK hP 4 rfl (by omega) (by omega) dX1_countDown_44 ?_
    refine va_put (D := Z.1) (ci := 1) (v := .int (nI (on now))) (ty := tyX1 6) (C := RX1) (T := TX1) (N := 7) hx hb hts iX1 tyX1 tyX1_ok nmX1 hown hK hP hD hS 0 rfl rfl 6 (Nat.le_of_ble_eq_true rfl) qq_66 (fun _ h9 => h9) rfl (tyX1_ok 6 (Nat.le_of_ble_eq_true rfl)) rfl rfl (Nat.le_of_ble_eq_true rfl) dX1_countDown_45 (fun H locs hP hD hS => ?_)
    have hP : va_P Z.1 vwCl [(hc, .inr (1, [.ref b0, .ref b1, .ref b2, .ref b3, .ref b4, .int (nI nl), .int (nI (on now))])), (b0, xI Z 4 (va_up v (wk now) ((v (wk now)) - 1))), (b1, xI Z 24 op), (b2, xI Z 24 wk), (b3, xI Z 24 on), (b4, xI Z 24 iz)] H := hP
    have hD : va_D A [(hc, .inr (1, [.ref b0, .ref b1, .ref b2, .ref b3, .ref b4, .int (nI nl), .int (nI (on now))])), (b0, xI Z 4 (va_up v (wk now) ((v (wk now)) - 1))), (b1, xI Z 24 op), (b2, xI Z 24 wk), (b3, xI Z 24 on), (b4, xI Z 24 iz)] := hD
    refine ln_const 1 hx hb dX1_countDown_48 (by decide) ?_
    exact x_zret hC hr rfl hk hP hD hS dX1_countDown_49 ⟨_, by unfold cstep; dsimp only; rw [if_pos hnow, if_neg (by omega), if_pos hop, if_neg (by omega)], rfl, rfl⟩
  · refine lv_aload_n hx hb dX1_countDown_9 rfl (lv_at hl 0 rfl) ?_
    refine lv_aload_n hx hb dX1_countDown_10 rfl (lv_at hl 0 rfl) ?_
    refine va_get (D := Z.1) (ci := 1) (v := .ref b4) (C := RX1) (T := TX1) (N := 7) hx hb hts iX1 hown hK hP 0 rfl rfl 4 (Nat.le_of_ble_eq_true rfl) qq_64 (fun _ h9 => h9) rfl dX1_countDown_11 ?_
    refine lv_aload_n hx hb dX1_countDown_14 rfl (lv_at hl 0 rfl) ?_
    refine va_get (D := Z.1) (ci := 1) (v := .int (nI now)) (C := RX1) (T := TX1) (N := 7) hx hb hts iX1 hown hK hP 0 rfl rfl 6 (Nat.le_of_ble_eq_true rfl) qq_66 (fun _ h9 => h9) rfl dX1_countDown_15 ?_
    refine ln_iald hx hb hK hP 5 rfl (by omega) (by omega) dX1_countDown_18 ?_
    refine va_put (D := Z.1) (ci := 1) (v := .int (nI (iz now))) (ty := tyX1 6) (C := RX1) (T := TX1) (N := 7) hx hb hts iX1 tyX1 tyX1_ok nmX1 hown hK hP hD hS 0 rfl rfl 6 (Nat.le_of_ble_eq_true rfl) qq_66 (fun _ h9 => h9) rfl (tyX1_ok 6 (Nat.le_of_ble_eq_true rfl)) rfl rfl (Nat.le_of_ble_eq_true rfl) dX1_countDown_19 (fun H locs hP hD hS => ?_)
    have hP : va_P Z.1 vwCl [(hc, .inr (1, [.ref b0, .ref b1, .ref b2, .ref b3, .ref b4, .int (nI nl), .int (nI (iz now))])), (b0, xI Z 4 v), (b1, xI Z 24 op), (b2, xI Z 24 wk), (b3, xI Z 24 on), (b4, xI Z 24 iz)] H := hP
    have hD : va_D A [(hc, .inr (1, [.ref b0, .ref b1, .ref b2, .ref b3, .ref b4, .int (nI nl), .int (nI (iz now))])), (b0, xI Z 4 v), (b1, xI Z 24 op), (b2, xI Z 24 wk), (b3, xI Z 24 on), (b4, xI Z 24 iz)] := hD
    refine lv_goto (tgt := 48) hx hb dX1_countDown_22 (by decide) ?_
    refine ln_const 1 hx hb dX1_countDown_48 (by decide) ?_
    exact x_zret hC hr rfl hk hP hD hS dX1_countDown_49 ⟨_, by unfold cstep; dsimp only; rw [if_pos hnow, if_neg (by omega), if_pos hop, if_pos (by omega)], rfl, rfl⟩

theorem kv_X1_countUp : yX1_countUp.cls = RX1 ∧ yX1_countUp.cls ≠ "java/lang/invoke/MethodHandle" ∧ yX1_countUp.cls ≠ "java/lang/invoke/VarHandle" ∧ (parseMethodDescriptor yX1_countUp.desc).map (fun d => d.parameters.length) = some 1 := by decide +kernel
theorem kv_X1_countDown : yX1_countDown.cls = RX1 ∧ yX1_countDown.cls ≠ "java/lang/invoke/MethodHandle" ∧ yX1_countDown.cls ≠ "java/lang/invoke/VarHandle" ∧ (parseMethodDescriptor yX1_countDown.desc).map (fun d => d.parameters.length) = some 1 := by decide +kernel
set_option maxHeartbeats 4000000 in
set_option maxRecDepth 100000 in
theorem c_X1_doLine (l : Launch) (Z : xZ) (hc b0 b1 b2 b3 b4 : Nat) (v op wk on iz : Nat → Nat) (nl now : Nat) (hV : CV nl op wk on iz (v, now)) : xMi l Z yX1_doLine vX1_doLine ({ frames := 1, cells := 0, slots := 0, locals := 22 } : Room) [.ref hc] [(hc, .inr (1, [.ref b0, .ref b1, .ref b2, .ref b3, .ref b4, .int (nI nl), .int (nI now)])), (b0, xI Z 4 v), (b1, xI Z 24 op), (b2, xI Z 24 wk), (b3, xI Z 24 on), (b4, xI Z 24 iz)] (fun r w => (cstep nl op wk on iz (v, now) = none ∧ r = nI 0 ∧ w = [(hc, .inr (1, [.ref b0, .ref b1, .ref b2, .ref b3, .ref b4, .int (nI nl), .int (nI now)])), (b0, xI Z 4 v), (b1, xI Z 24 op), (b2, xI Z 24 wk), (b3, xI Z 24 on), (b4, xI Z 24 iz)]) ∨ (∃ S, cstep nl op wk on iz (v, now) = some S ∧ r = nI 1 ∧ w = [(hc, .inr (1, [.ref b0, .ref b1, .ref b2, .ref b3, .ref b4, .int (nI nl), .int (nI S.2)])), (b0, xI Z 4 S.1), (b1, xI Z 24 op), (b2, xI Z 24 wk), (b3, xI Z 24 on), (b4, xI Z 24 iz)])) := by
  refine x_i (by decide) rfl (Nat.le_of_ble_eq_true rfl) ?_
  intro p e s m args below meth c ls A hC hr hk hl hP hD hS
  have hx := hC.1.1
  have hb := hC.1.2.1
  have hml := hC.1.2.2.1
  have hown : s.vm.findClass RX1 = some m.cls := hC.1.2.2.2.1
  have hts := hC.1.2.2.2.2
  have hK := hC.2.1
  have qq_66 := hts (Cond.fieldLink RX1 31 "TagTower$Counters" "now" "I") (List.mem_cons_of_mem _ wq_66)
  have iX1 : ∀ w ∈ wsX10, w ∈ vX1_doLine := fun w h => List.mem_cons_of_mem _ (wi_X1 w h)
  have qq_65 := hts (Cond.fieldLink RX1 27 "TagTower$Counters" "lines" "I") (List.mem_cons_of_mem _ wq_65)
  have qq_32 := hts (Cond.initialized RX6) (List.mem_cons_of_mem _ wq_32)
  have qq_338 := hts (Cond.static yX6_outside) (List.mem_cons_of_mem _ wq_338)
  have qn_38 := hC.2.2.2.1.1 (RX1, 38, yX6_outside, RX6) (List.mem_of_getElem? (i := 5) rfl)
  have qq_61 := hts (Cond.fieldLink RX1 15 "TagTower$Counters" "ops" "[I") (List.mem_cons_of_mem _ wq_61)
  have qq_62 := hts (Cond.fieldLink RX1 18 "TagTower$Counters" "worked" "[I") (List.mem_cons_of_mem _ wq_62)
  have hl : lv_has ls 1 [(0, .ref hc)] := hl
  have hP : va_P Z.1 vwCl [(hc, .inr (1, [.ref b0, .ref b1, .ref b2, .ref b3, .ref b4, .int (nI nl), .int (nI now)])), (b0, xI Z 4 v), (b1, xI Z 24 op), (b2, xI Z 24 wk), (b3, xI Z 24 on), (b4, xI Z 24 iz)] s.heap := hP
  have hD : va_D A [(hc, .inr (1, [.ref b0, .ref b1, .ref b2, .ref b3, .ref b4, .int (nI nl), .int (nI now)])), (b0, xI Z 4 v), (b1, xI Z 24 op), (b2, xI Z 24 wk), (b3, xI Z 24 on), (b4, xI Z 24 iz)] := hD
  obtain ⟨g1, g2, g3, g4⟩ := id hV
  dsimp only at g3 g4
  rcases Nat.lt_or_ge now nl with hn1 | hn1
  · obtain ⟨g5, g6, g7, g8⟩ := g2 now hn1
    obtain ⟨g1, g2, g3, g4⟩ := id hV
    dsimp only at g3 g4
    refine lv_aload_n hx hb dX1_doLine_0 rfl (lv_at hl 0 rfl) ?_
    refine va_get (D := Z.1) (ci := 1) (v := .int (nI now)) (C := RX1) (T := TX1) (N := 7) hx hb hts iX1 hown hK hP 0 rfl rfl 6 (Nat.le_of_ble_eq_true rfl) qq_66 (fun _ h9 => h9) rfl dX1_doLine_1 ?_
    refine ln_const 0 hx hb dX1_doLine_4 (by decide) ?_
    refine lv_aload_n hx hb dX1_doLine_5 rfl (lv_at hl 0 rfl) ?_
    refine va_get (D := Z.1) (ci := 1) (v := .int (nI nl)) (C := RX1) (T := TX1) (N := 7) hx hb hts iX1 hown hK hP 0 rfl rfl 5 (Nat.le_of_ble_eq_true rfl) qq_65 (fun _ h9 => h9) rfl dX1_doLine_6 ?_
    refine ln_const 1 hx hb dX1_doLine_9 (by decide) ?_
    refine ln_isub (nl - 1) hx hb dX1_doLine_10 (by omega) (by first | rfl | omega) ?_
    refine x_SNi (y := yX6_outside) (As := [.int (nI now), .int (nI 0), .int (nI (nl - 1))]) (wc := []) (wr := [(hc, .inr (1, [.ref b0, .ref b1, .ref b2, .ref b3, .ref b4, .int (nI nl), .int (nI now)])), (b0, xI Z 4 v), (b1, xI Z 24 op), (b2, xI Z 24 wk), (b3, xI Z 24 on), (b4, xI Z 24 iz)]) hC hP hD hS (c_out_in l Z (nI now) (nI 0) (nI (nl - 1)) (o_in (by omega) (by omega) (by omega))) (gCo wq_339) qn_38 qq_32 qq_338 rfl ks_X6_outside ⟨rfl, rfl⟩ rfl hl.1 rfl ⟨Nat.le_of_ble_eq_true rfl, Nat.le_of_ble_eq_true rfl⟩ ([] : List Nat) [0, 1, 2, 3, 4, 5] rfl rfl (by decide) (by decide) (by decide) rfl dX1_doLine_11 (fun r11 w1 H locs hw hP hD hS => ?_)
    obtain ⟨rfl, rfl⟩ := hw
    have hP : va_P Z.1 vwCl [(hc, .inr (1, [.ref b0, .ref b1, .ref b2, .ref b3, .ref b4, .int (nI nl), .int (nI now)])), (b0, xI Z 4 v), (b1, xI Z 24 op), (b2, xI Z 24 wk), (b3, xI Z 24 on), (b4, xI Z 24 iz)] H := hP
    have hD : va_D A [(hc, .inr (1, [.ref b0, .ref b1, .ref b2, .ref b3, .ref b4, .int (nI nl), .int (nI now)])), (b0, xI Z 4 v), (b1, xI Z 24 op), (b2, xI Z 24 wk), (b3, xI Z 24 on), (b4, xI Z 24 iz)] := hD
    refine ln_if_eq (tgt := 19) hx hb dX1_doLine_14 (by decide) (by omega) (fun h14 => ?_) (fun h14 => False.elim (by omega))
    refine lv_aload_n hx hb dX1_doLine_19 rfl (lv_at hl 0 rfl) ?_
    refine va_get (D := Z.1) (ci := 1) (v := .ref b1) (C := RX1) (T := TX1) (N := 7) hx hb hts iX1 hown hK hP 0 rfl rfl 1 (Nat.le_of_ble_eq_true rfl) qq_61 (fun _ h9 => h9) rfl dX1_doLine_20 ?_
    refine lv_aload_n hx hb dX1_doLine_23 rfl (lv_at hl 0 rfl) ?_
    refine va_get (D := Z.1) (ci := 1) (v := .int (nI now)) (C := RX1) (T := TX1) (N := 7) hx hb hts iX1 hown hK hP 0 rfl rfl 6 (Nat.le_of_ble_eq_true rfl) qq_66 (fun _ h9 => h9) rfl dX1_doLine_24 ?_
    refine ln_iald hx hb hK hP 2 rfl (by omega) (by omega) dX1_doLine_27 ?_
    obtain ⟨oo, hoo⟩ : ∃ z, z = op now := ⟨_, rfl⟩
    rw [← hoo]
    rcases (show oo = 0 ∨ oo = 1 ∨ oo = 2 by omega) with rfl | rfl | rfl
    · refine lv_lookup (off := 28) (tgt := 56) hx hb dX1_doLine_28 (by decide) (by decide) (by decide) ?_
      have hop : op now = 0 := hoo.symm
      refine lv_aload_n hx hb dX1_doLine_56 rfl (lv_at hl 0 rfl) ?_
      refine lv_aload_n hx hb dX1_doLine_57 rfl (lv_at hl 0 rfl) ?_
      refine va_get (D := Z.1) (ci := 1) (v := .ref b2) (C := RX1) (T := TX1) (N := 7) hx hb hts iX1 hown hK hP 0 rfl rfl 2 (Nat.le_of_ble_eq_true rfl) qq_62 (fun _ h9 => h9) rfl dX1_doLine_58 ?_
      refine lv_aload_n hx hb dX1_doLine_61 rfl (lv_at hl 0 rfl) ?_
      refine va_get (D := Z.1) (ci := 1) (v := .int (nI now)) (C := RX1) (T := TX1) (N := 7) hx hb hts iX1 hown hK hP 0 rfl rfl 6 (Nat.le_of_ble_eq_true rfl) qq_66 (fun _ h9 => h9) rfl dX1_doLine_62 ?_
      refine ln_iald hx hb hK hP 3 rfl (by omega) (by omega) dX1_doLine_65 ?_
      refine x_Vi (y := yX1_countUp) (As := [.int (nI (wk now))]) (wc := [(hc, .inr (1, [.ref b0, .ref b1, .ref b2, .ref b3, .ref b4, .int (nI nl), .int (nI now)])), (b0, xI Z 4 v), (b1, xI Z 24 op), (b2, xI Z 24 wk), (b3, xI Z 24 on), (b4, xI Z 24 iz)]) (wr := []) hC hP hD hS (c_X1_countUp l Z hc b0 b1 b2 b3 b4 v op wk on iz nl now hV hn1 hop) (gV wq_384 wq_381 wq_383 wq_3 wq_33) rfl kv_X1_countUp rfl rfl ⟨rfl, rfl⟩ rfl hl.1 rfl ⟨Nat.le_of_ble_eq_true rfl, Nat.le_of_ble_eq_true rfl⟩ [0, 1, 2, 3, 4, 5] ([] : List Nat) rfl rfl (by decide) (by decide) (by decide) rfl dX1_doLine_66 (fun r66 w1 H locs hw hP hD hS => ?_)
      rcases hw with ⟨hst, rfl, rfl⟩ | ⟨S, hst, rfl, rfl⟩
      · have hP : va_P Z.1 vwCl [(hc, .inr (1, [.ref b0, .ref b1, .ref b2, .ref b3, .ref b4, .int (nI nl), .int (nI now)])), (b0, xI Z 4 v), (b1, xI Z 24 op), (b2, xI Z 24 wk), (b3, xI Z 24 on), (b4, xI Z 24 iz)] H := hP
        have hD : va_D A [(hc, .inr (1, [.ref b0, .ref b1, .ref b2, .ref b3, .ref b4, .int (nI nl), .int (nI now)])), (b0, xI Z 4 v), (b1, xI Z 24 op), (b2, xI Z 24 wk), (b3, xI Z 24 on), (b4, xI Z 24 iz)] := hD
        exact x_zret hC hr rfl hk hP hD hS dX1_doLine_69 (Or.inl ⟨hst, rfl, rfl⟩)
      · have hP : va_P Z.1 vwCl [(hc, .inr (1, [.ref b0, .ref b1, .ref b2, .ref b3, .ref b4, .int (nI nl), .int (nI S.2)])), (b0, xI Z 4 S.1), (b1, xI Z 24 op), (b2, xI Z 24 wk), (b3, xI Z 24 on), (b4, xI Z 24 iz)] H := hP
        have hD : va_D A [(hc, .inr (1, [.ref b0, .ref b1, .ref b2, .ref b3, .ref b4, .int (nI nl), .int (nI S.2)])), (b0, xI Z 4 S.1), (b1, xI Z 24 op), (b2, xI Z 24 wk), (b3, xI Z 24 on), (b4, xI Z 24 iz)] := hD
        exact x_zret hC hr rfl hk hP hD hS dX1_doLine_69 (Or.inr ⟨S, hst, rfl, rfl⟩)
    · refine lv_lookup (off := 42) (tgt := 70) hx hb dX1_doLine_28 (by decide) (by decide) (by decide) ?_
      have hop : op now = 1 := hoo.symm
      refine lv_aload_n hx hb dX1_doLine_70 rfl (lv_at hl 0 rfl) ?_
      refine lv_aload_n hx hb dX1_doLine_71 rfl (lv_at hl 0 rfl) ?_
      refine va_get (D := Z.1) (ci := 1) (v := .ref b2) (C := RX1) (T := TX1) (N := 7) hx hb hts iX1 hown hK hP 0 rfl rfl 2 (Nat.le_of_ble_eq_true rfl) qq_62 (fun _ h9 => h9) rfl dX1_doLine_72 ?_
      refine lv_aload_n hx hb dX1_doLine_75 rfl (lv_at hl 0 rfl) ?_
      refine va_get (D := Z.1) (ci := 1) (v := .int (nI now)) (C := RX1) (T := TX1) (N := 7) hx hb hts iX1 hown hK hP 0 rfl rfl 6 (Nat.le_of_ble_eq_true rfl) qq_66 (fun _ h9 => h9) rfl dX1_doLine_76 ?_
      refine ln_iald hx hb hK hP 3 rfl (by omega) (by omega) dX1_doLine_79 ?_
      refine x_Vi (y := yX1_countDown) (As := [.int (nI (wk now))]) (wc := [(hc, .inr (1, [.ref b0, .ref b1, .ref b2, .ref b3, .ref b4, .int (nI nl), .int (nI now)])), (b0, xI Z 4 v), (b1, xI Z 24 op), (b2, xI Z 24 wk), (b3, xI Z 24 on), (b4, xI Z 24 iz)]) (wr := []) hC hP hD hS (c_X1_countDown l Z hc b0 b1 b2 b3 b4 v op wk on iz nl now hV hn1 hop) (gV wq_388 wq_385 wq_387 wq_4 wq_33) rfl kv_X1_countDown rfl rfl ⟨rfl, rfl⟩ rfl hl.1 rfl ⟨Nat.le_of_ble_eq_true rfl, Nat.le_of_ble_eq_true rfl⟩ [0, 1, 2, 3, 4, 5] ([] : List Nat) rfl rfl (by decide) (by decide) (by decide) rfl dX1_doLine_80 (fun r80 w1 H locs hw hP hD hS => ?_)
      obtain ⟨S, hst, rfl, rfl⟩ := hw
      have hP : va_P Z.1 vwCl [(hc, .inr (1, [.ref b0, .ref b1, .ref b2, .ref b3, .ref b4, .int (nI nl), .int (nI S.2)])), (b0, xI Z 4 S.1), (b1, xI Z 24 op), (b2, xI Z 24 wk), (b3, xI Z 24 on), (b4, xI Z 24 iz)] H := hP
      have hD : va_D A [(hc, .inr (1, [.ref b0, .ref b1, .ref b2, .ref b3, .ref b4, .int (nI nl), .int (nI S.2)])), (b0, xI Z 4 S.1), (b1, xI Z 24 op), (b2, xI Z 24 wk), (b3, xI Z 24 on), (b4, xI Z 24 iz)] := hD
      exact x_zret hC hr rfl hk hP hD hS dX1_doLine_83 (Or.inr ⟨S, hst, rfl, rfl⟩)
    · refine lv_lookup (off := 56) (tgt := 84) hx hb dX1_doLine_28 (by decide) (by decide) (by decide) ?_
      have hop : op now = 2 := hoo.symm
      refine ln_const 0 hx hb dX1_doLine_84 (by decide) ?_
      exact x_zret hC hr rfl hk hP hD hS dX1_doLine_85 (Or.inl ⟨by unfold cstep; dsimp only; rw [if_pos hn1, if_neg (by omega), if_neg (by omega)], rfl, rfl⟩)
  · obtain ⟨g1, g2, g3, g4⟩ := id hV
    dsimp only at g3 g4
    refine lv_aload_n hx hb dX1_doLine_0 rfl (lv_at hl 0 rfl) ?_
    refine va_get (D := Z.1) (ci := 1) (v := .int (nI now)) (C := RX1) (T := TX1) (N := 7) hx hb hts iX1 hown hK hP 0 rfl rfl 6 (Nat.le_of_ble_eq_true rfl) qq_66 (fun _ h9 => h9) rfl dX1_doLine_1 ?_
    refine ln_const 0 hx hb dX1_doLine_4 (by decide) ?_
    refine lv_aload_n hx hb dX1_doLine_5 rfl (lv_at hl 0 rfl) ?_
    refine va_get (D := Z.1) (ci := 1) (v := .int (nI nl)) (C := RX1) (T := TX1) (N := 7) hx hb hts iX1 hown hK hP 0 rfl rfl 5 (Nat.le_of_ble_eq_true rfl) qq_65 (fun _ h9 => h9) rfl dX1_doLine_6 ?_
    refine ln_const 1 hx hb dX1_doLine_9 (by decide) ?_
    refine lv_isub hx hb dX1_doLine_10 ?_
    refine x_SNi (y := yX6_outside) (As := [.int (nI now), .int (nI 0), .int ((nI nl) - (nI 1))]) (wc := []) (wr := [(hc, .inr (1, [.ref b0, .ref b1, .ref b2, .ref b3, .ref b4, .int (nI nl), .int (nI now)])), (b0, xI Z 4 v), (b1, xI Z 24 op), (b2, xI Z 24 wk), (b3, xI Z 24 on), (b4, xI Z 24 iz)]) hC hP hD hS (c_out_out l Z (nI now) (nI 0) ((nI nl) - (nI 1)) (by rw [nI_toInt (by omega), pk_sub_toInt (by omega) (by omega)]; omega)) (gCo wq_339) qn_38 qq_32 qq_338 rfl ks_X6_outside ⟨rfl, rfl⟩ rfl hl.1 rfl ⟨Nat.le_of_ble_eq_true rfl, Nat.le_of_ble_eq_true rfl⟩ ([] : List Nat) [0, 1, 2, 3, 4, 5] rfl rfl (by decide) (by decide) (by decide) rfl dX1_doLine_11 (fun r11 w1 H locs hw hP hD hS => ?_)
    obtain ⟨rfl, rfl⟩ := hw
    have hP : va_P Z.1 vwCl [(hc, .inr (1, [.ref b0, .ref b1, .ref b2, .ref b3, .ref b4, .int (nI nl), .int (nI now)])), (b0, xI Z 4 v), (b1, xI Z 24 op), (b2, xI Z 24 wk), (b3, xI Z 24 on), (b4, xI Z 24 iz)] H := hP
    have hD : va_D A [(hc, .inr (1, [.ref b0, .ref b1, .ref b2, .ref b3, .ref b4, .int (nI nl), .int (nI now)])), (b0, xI Z 4 v), (b1, xI Z 24 op), (b2, xI Z 24 wk), (b3, xI Z 24 on), (b4, xI Z 24 iz)] := hD
    refine ln_if_eq (tgt := 19) hx hb dX1_doLine_14 (by decide) (by omega) (fun h14 => False.elim (by omega)) (fun h14 => ?_)
    refine ln_const 0 hx hb dX1_doLine_17 (by decide) ?_
    exact x_zret hC hr rfl hk hP hD hS dX1_doLine_18 (Or.inl ⟨by unfold cstep; dsimp only; rw [if_neg (by omega)], rfl, rfl⟩)

theorem kv_X1_doLine : yX1_doLine.cls = RX1 ∧ yX1_doLine.cls ≠ "java/lang/invoke/MethodHandle" ∧ yX1_doLine.cls ≠ "java/lang/invoke/VarHandle" ∧ (parseMethodDescriptor yX1_doLine.desc).map (fun d => d.parameters.length) = some 0 := by decide +kernel
set_option maxHeartbeats 4000000 in
set_option maxRecDepth 100000 in
theorem c_X1_doLines (l : Launch) (Z : xZ) (hc b0 b1 b2 b3 b4 : Nat) (v op wk on iz : Nat → Nat) (nl now : Nat) (hV : CV nl op wk on iz (v, now)) (n : Nat) (hn : n ≤ 5000) : xMi l Z yX1_doLines vX1_doLines ({ frames := 2, cells := 0, slots := 0, locals := 42 } : Room) [.ref hc, .int (nI n)] [(hc, .inr (1, [.ref b0, .ref b1, .ref b2, .ref b3, .ref b4, .int (nI nl), .int (nI now)])), (b0, xI Z 4 v), (b1, xI Z 24 op), (b2, xI Z 24 wk), (b3, xI Z 24 on), (b4, xI Z 24 iz)] (fun r w => ∃ k S, xrun (cstep nl op wk on iz) n (v, now) = (k, S) ∧ r = nI k ∧ w = [(hc, .inr (1, [.ref b0, .ref b1, .ref b2, .ref b3, .ref b4, .int (nI nl), .int (nI S.2)])), (b0, xI Z 4 S.1), (b1, xI Z 24 op), (b2, xI Z 24 wk), (b3, xI Z 24 on), (b4, xI Z 24 iz)]) := by
  refine x_i (by decide) rfl (Nat.le_of_ble_eq_true rfl) ?_
  intro p e s m args below meth c ls A hC hr hk hl hP hD hS
  have hx := hC.1.1
  have hb := hC.1.2.1
  have hml := hC.1.2.2.1
  have hown : s.vm.findClass RX1 = some m.cls := hC.1.2.2.2.1
  have hts := hC.1.2.2.2.2
  have hK := hC.2.1
  have hl : lv_has ls 3 [(0, .ref hc), (1, .int (nI n))] := hl
  have hP : va_P Z.1 vwCl [(hc, .inr (1, [.ref b0, .ref b1, .ref b2, .ref b3, .ref b4, .int (nI nl), .int (nI now)])), (b0, xI Z 4 v), (b1, xI Z 24 op), (b2, xI Z 24 wk), (b3, xI Z 24 on), (b4, xI Z 24 iz)] s.heap := hP
  have hD : va_D A [(hc, .inr (1, [.ref b0, .ref b1, .ref b2, .ref b3, .ref b4, .int (nI nl), .int (nI now)])), (b0, xI Z 4 v), (b1, xI Z 24 op), (b2, xI Z 24 wk), (b3, xI Z 24 on), (b4, xI Z 24 iz)] := hD
  refine ln_const 0 hx hb dX1_doLines_0 (by decide) ?_
  refine lv_istore_n (lv' := [(2, .int (nI 0)), (0, .ref hc), (1, .int (nI n))]) hx hb dX1_doLines_1 rfl hl (by decide) rfl (fun ls hl => ?_)
  have hloop2 : ∀ (nn : Nat) (k : Nat) (S1 : Nat → Nat) (now1 : Nat) (H : Heap) (locs : List Loc) (ls : Array Slot) (hX : XR (cstep nl op wk on iz) n (v, now) k (S1, now1)) (hV1 : CV nl op wk on iz (S1, now1)) (hmu : n - k < nn) (hP : va_P Z.1 vwCl [(hc, .inr (1, [.ref b0, .ref b1, .ref b2, .ref b3, .ref b4, .int (nI nl), .int (nI now1)])), (b0, xI Z 4 S1), (b1, xI Z 24 op), (b2, xI Z 24 wk), (b3, xI Z 24 on), (b4, xI Z 24 iz)] H) (hD : va_D A [(hc, .inr (1, [.ref b0, .ref b1, .ref b2, .ref b3, .ref b4, .int (nI nl), .int (nI now1)])), (b0, xI Z 4 S1), (b1, xI Z 24 op), (b2, xI Z 24 wk), (b3, xI Z 24 on), (b4, xI Z 24 iz)]) (hS : va_S A s.heap H locs) (hl : lv_has ls 3 [(0, .ref hc), (1, .int (nI n)), (2, .int (nI k))]), W p l e ({ frames := 2, cells := 0, slots := 0, locals := 42 } : Room) s m args below meth c H locs 0 0 (MQ below (va_Qi (fun r w => ∃ k S, xrun (cstep nl op wk on iz) n (v, now) = (k, S) ∧ r = nI k ∧ w = [(hc, .inr (1, [.ref b0, .ref b1, .ref b2, .ref b3, .ref b4, .int (nI nl), .int (nI S.2)])), (b0, xI Z 4 S.1), (b1, xI Z 24 op), (b2, xI Z 24 wk), (b3, xI Z 24 on), (b4, xI Z 24 iz)]) (xB Z A) A) args s ({ frames := 2, cells := 0, slots := 0, locals := 42 } : Room).cells ({ frames := 2, cells := 0, slots := 0, locals := 42 } : Room).slots A) (F0 m 2 ls []) := by
    intro nn
    induction nn with
    | zero => intro k S1 now1 H locs ls hX hV1 hmu; exact absurd hmu (Nat.not_lt_zero _)
    | succ nn ih =>
      intro k S1 now1 H locs ls hX hV1 hmu hP hD hS hl
      have hk1 := hX.1
      refine lv_iload_n hx hb dX1_doLines_2 rfl (lv_at hl 2 rfl) ?_
      refine lv_iload_n hx hb dX1_doLines_3 rfl (lv_at hl 1 rfl) ?_
      refine ln_icmp_ge (tgt := 20) hx hb dX1_doLines_4 (by decide) (by omega) (by omega) (fun h4 => ?_) (fun h4 => ?_)
      · refine lv_iload_n hx hb dX1_doLines_20 rfl (lv_at hl 2 rfl) ?_
        exact x_iret hC hr hk hP hD hS dX1_doLines_21 ⟨k, _, hX.full (by omega), rfl, rfl⟩
      · refine lv_aload_n hx hb dX1_doLines_7 rfl (lv_at hl 0 rfl) ?_
        refine x_Vi (y := yX1_doLine) (As := []) (wc := [(hc, .inr (1, [.ref b0, .ref b1, .ref b2, .ref b3, .ref b4, .int (nI nl), .int (nI now1)])), (b0, xI Z 4 S1), (b1, xI Z 24 op), (b2, xI Z 24 wk), (b3, xI Z 24 on), (b4, xI Z 24 iz)]) (wr := []) hC hP hD hS (c_X1_doLine l Z hc b0 b1 b2 b3 b4 S1 op wk on iz nl now1 hV1) (gV wq_379 wq_376 wq_378 wq_2 wq_33) rfl kv_X1_doLine rfl rfl ⟨rfl, rfl⟩ rfl hl.1 rfl ⟨Nat.le_of_ble_eq_true rfl, Nat.le_of_ble_eq_true rfl⟩ [0, 1, 2, 3, 4, 5] ([] : List Nat) rfl rfl (by decide) (by decide) (by decide) rfl dX1_doLines_8 (fun r8 w1 H locs hw hP hD hS => ?_)
        rcases hw with ⟨hst, rfl, rfl⟩ | ⟨S, hst, rfl, rfl⟩
        · have hP : va_P Z.1 vwCl [(hc, .inr (1, [.ref b0, .ref b1, .ref b2, .ref b3, .ref b4, .int (nI nl), .int (nI now1)])), (b0, xI Z 4 S1), (b1, xI Z 24 op), (b2, xI Z 24 wk), (b3, xI Z 24 on), (b4, xI Z 24 iz)] H := hP
          have hD : va_D A [(hc, .inr (1, [.ref b0, .ref b1, .ref b2, .ref b3, .ref b4, .int (nI nl), .int (nI now1)])), (b0, xI Z 4 S1), (b1, xI Z 24 op), (b2, xI Z 24 wk), (b3, xI Z 24 on), (b4, xI Z 24 iz)] := hD
          refine ln_if_eq (tgt := 20) hx hb dX1_doLines_11 (by decide) (by omega) (fun h11 => ?_) (fun h11 => False.elim (by omega))
          refine lv_iload_n hx hb dX1_doLines_20 rfl (lv_at hl 2 rfl) ?_
          exact x_iret hC hr hk hP hD hS dX1_doLines_21 ⟨k, _, hX.stop hst, rfl, rfl⟩
        · have hP : va_P Z.1 vwCl [(hc, .inr (1, [.ref b0, .ref b1, .ref b2, .ref b3, .ref b4, .int (nI nl), .int (nI S.2)])), (b0, xI Z 4 S.1), (b1, xI Z 24 op), (b2, xI Z 24 wk), (b3, xI Z 24 on), (b4, xI Z 24 iz)] H := hP
          have hD : va_D A [(hc, .inr (1, [.ref b0, .ref b1, .ref b2, .ref b3, .ref b4, .int (nI nl), .int (nI S.2)])), (b0, xI Z 4 S.1), (b1, xI Z 24 op), (b2, xI Z 24 wk), (b3, xI Z 24 on), (b4, xI Z 24 iz)] := hD
          refine ln_if_eq (tgt := 20) hx hb dX1_doLines_11 (by decide) (by omega) (fun h11 => False.elim (by omega)) (fun h11 => ?_)
          refine ln_iinc (k0 := 2) (k := 1) (k + 1) (lv' := [(2, .int (nI (k + 1))), (0, .ref hc), (1, .int (nI n))]) hx hb dX1_doLines_14 hl rfl rfl (by first | rfl | omega) (by decide) rfl (fun ls hl => ?_)
          refine lv_goto (tgt := 2) hx hb dX1_doLines_17 (by decide) ?_
          exact ih  (k + 1) S.1 S.2 _ _ _ (hX.step (by omega) hst) (cstep_ok hV1 hst) (by omega) hP hD hS (lv_sub hl [1, 2, 0] rfl)
  exact hloop2 ((n - 0) + 1) 0 v now _ _ _ (XR.beg _ _ _) hV (Nat.lt_succ_self _) hP hD hS (lv_sub hl [1, 2, 0] rfl)
end
section
def xby (i j : Nat) : Nat := (xTb.getD i []).getD j 0
theorem xby_all : ∀ i, i < 7 → ∀ j, j < xTl.getD i 0 → (xTi.getD i []).getD j 0 = nI (xby i j) ∧ xby i j < 128 := by decide +kernel
theorem xTl_le : ∀ i, i < 7 → xTl.getD i 0 < 100 := by decide +kernel
theorem xTl_len : ∀ i, i < 7 → (xTb.getD i []).length = xTl.getD i 0 := by decide +kernel
theorem ch_and : ∀ b, b < 128 → nI b &&& nI 255 = nI b := by decide +kernel
theorem ch_i2c : ∀ b, b < 128 → ((nI b).toUInt32 % 65536).toInt32 = nI b := by decide +kernel
theorem ch_i2b : ∀ b, b < 128 → (nI b).toInt8.toInt32 = nI b := by decide +kernel
theorem ch_nar : ∀ b, b < 128 → narrow .char (.int (nI b)) = .int (nI b) := fun b h => (pk_charN (by omega)).1
/-- the first place of c among the signs; 100: none -/
def xfn (c : Nat) : Nat → Nat → Nat
  | 0, _ => 100
  | n + 1, j => if xby 0 j = c then j else xfn c n (j + 1)
def xfv (k : Nat) : Int32 := if k = 100 then -1 else nI k

set_option maxHeartbeats 4000000 in
set_option maxRecDepth 100000 in
theorem c_coder (l : Launch) (Z : xZ) (i : Nat) (hi : i < 7) : xMi l Z yJ0_coder_7d493 vJ0_coder_7d493 ({ frames := 0, cells := 0, slots := 0, locals := 0 } : Room) [.ref (Z.2.1.1 i)] [] (fun r w => r = nI 0 ∧ w = []) := by
  refine x_i (by decide) rfl (Nat.le_of_ble_eq_true rfl) ?_
  intro p e s m args below meth c ls A hC hr hk hl hP hD hS
  have hx := hC.1.1
  have hb := hC.1.2.1
  have hml := hC.1.2.2.1
  have hown : s.vm.findClass RJ0 = some m.cls := hC.1.2.2.2.1
  have hts := hC.1.2.2.2.2
  have hK := hC.2.1
  have qq_145 := hts (Cond.fieldLink RJ0 38 "java/lang/String" "COMPACT_STRINGS" "Z") (List.mem_cons_of_mem _ wq_145)
  have qq_956 := hts (Cond.fieldLink RJ0 15 "java/lang/String" "coder" "B") (List.mem_cons_of_mem _ wq_956)
  have hl : lv_has ls 1 [(0, .ref (Z.2.1.1 i))] := hl
  have hP : va_P Z.1 vwCl [] s.heap := hP
  have hD : va_D A [] := hD
  refine va_gets hx hb hC.2.2.2.2.2.2.1 hS hown qq_145 (fun _ h9 => h9) dJ0_coder_7d493_0 ?_
  refine ln_top (y := nI 1) rfl ?_
  refine ln_if_eq (tgt := 13) hx hb dJ0_coder_7d493_3 (by decide) (by omega) (fun h3 => False.elim (by omega)) (fun h3 => ?_)
  refine lv_aload_n hx hb dJ0_coder_7d493_6 rfl (lv_at hl 0 rfl) ?_
  refine vk_getf hx hb (hC.2.2.2.2.1.1 i hi).2.1 hS hown qq_956 (fun _ h9 => h9) dJ0_coder_7d493_7 ?_
  refine ln_top (y := nI 0) rfl ?_
  refine lv_goto (tgt := 14) hx hb dJ0_coder_7d493_10 (by decide) ?_
  exact x_zret hC hr rfl hk hP hD hS dJ0_coder_7d493_14 ⟨rfl, rfl⟩

set_option maxHeartbeats 4000000 in
set_option maxRecDepth 100000 in
theorem c_isLatin1 (l : Launch) (Z : xZ) (i : Nat) (hi : i < 7) : xMi l Z yJ0_isLatin1_aae02 vJ0_isLatin1_aae02 ({ frames := 0, cells := 0, slots := 0, locals := 0 } : Room) [.ref (Z.2.1.1 i)] [] (fun r w => r = nI 1 ∧ w = []) := by
  refine x_i (by decide) rfl (Nat.le_of_ble_eq_true rfl) ?_
  intro p e s m args below meth c ls A hC hr hk hl hP hD hS
  have hx := hC.1.1
  have hb := hC.1.2.1
  have hml := hC.1.2.2.1
  have hown : s.vm.findClass RJ0 = some m.cls := hC.1.2.2.2.1
  have hts := hC.1.2.2.2.2
  have hK := hC.2.1
  have qq_145 := hts (Cond.fieldLink RJ0 38 "java/lang/String" "COMPACT_STRINGS" "Z") (List.mem_cons_of_mem _ wq_145)
  have qq_956 := hts (Cond.fieldLink RJ0 15 "java/lang/String" "coder" "B") (List.mem_cons_of_mem _ wq_956)
  have hl : lv_has ls 1 [(0, .ref (Z.2.1.1 i))] := hl
  have hP : va_P Z.1 vwCl [] s.heap := hP
  have hD : va_D A [] := hD
  refine va_gets hx hb hC.2.2.2.2.2.2.1 hS hown qq_145 (fun _ h9 => h9) dJ0_isLatin1_aae02_0 ?_
  refine ln_top (y := nI 1) rfl ?_
  refine ln_if_eq (tgt := 17) hx hb dJ0_isLatin1_aae02_3 (by decide) (by omega) (fun h3 => False.elim (by omega)) (fun h3 => ?_)
  refine lv_aload_n hx hb dJ0_isLatin1_aae02_6 rfl (lv_at hl 0 rfl) ?_
  refine vk_getf hx hb (hC.2.2.2.2.1.1 i hi).2.1 hS hown qq_956 (fun _ h9 => h9) dJ0_isLatin1_aae02_7 ?_
  refine ln_top (y := nI 0) rfl ?_
  refine ln_if_ne (tgt := 17) hx hb dJ0_isLatin1_aae02_10 (by decide) (by omega) (fun h10 => False.elim (by omega)) (fun h10 => ?_)
  refine ln_const 1 hx hb dJ0_isLatin1_aae02_13 (by decide) ?_
  refine lv_goto (tgt := 18) hx hb dJ0_isLatin1_aae02_14 (by decide) ?_
  exact x_zret hC hr rfl hk hP hD hS dJ0_isLatin1_aae02_18 ⟨rfl, rfl⟩

theorem kv_J0_coder_7d493 : yJ0_coder_7d493.cls = RJ0 ∧ yJ0_coder_7d493.cls ≠ "java/lang/invoke/MethodHandle" ∧ yJ0_coder_7d493.cls ≠ "java/lang/invoke/VarHandle" ∧ (parseMethodDescriptor yJ0_coder_7d493.desc).map (fun d => d.parameters.length) = some 0 := by decide +kernel
set_option maxHeartbeats 4000000 in
set_option maxRecDepth 100000 in
theorem c_slen (l : Launch) (Z : xZ) (i : Nat) (hi : i < 7) : xMi l Z yJ0_length_8abf5 vJ0_length_8abf5 ({ frames := 1, cells := 0, slots := 0, locals := 20 } : Room) [.ref (Z.2.1.1 i)] [] (fun r w => r = nI (xTl.getD i 0) ∧ w = []) := by
  refine x_i (by decide) rfl (Nat.le_of_ble_eq_true rfl) ?_
  intro p e s m args below meth c ls A hC hr hk hl hP hD hS
  have hx := hC.1.1
  have hb := hC.1.2.1
  have hml := hC.1.2.2.1
  have hown : s.vm.findClass RJ0 = some m.cls := hC.1.2.2.2.1
  have hts := hC.1.2.2.2.2
  have hK := hC.2.1
  have qq_955 := hts (Cond.fieldLink RJ0 9 "java/lang/String" "value" "[B") (List.mem_cons_of_mem _ wq_955)
  have hl : lv_has ls 1 [(0, .ref (Z.2.1.1 i))] := hl
  have hP : va_P Z.1 vwCl [] s.heap := hP
  have hD : va_D A [] := hD
  refine lv_aload_n hx hb dJ0_length_8abf5_0 rfl (lv_at hl 0 rfl) ?_
  refine vk_getf hx hb (hC.2.2.2.2.1.1 i hi).2.2.1 hS hown qq_955 (fun _ h9 => h9) dJ0_length_8abf5_1 ?_
  refine va_tlen (v := nI (xTl.getD i 0)) hx hb (hC.2.2.2.2.1.1 i hi).2.2.2 hS rfl dJ0_length_8abf5_4 ?_
  refine lv_aload_n hx hb dJ0_length_8abf5_5 rfl (lv_at hl 0 rfl) ?_
  refine x_Ri (y := yJ0_coder_7d493) (As := []) (wc := []) (wr := []) hC hP hD hS (c_coder l Z i hi) (gV wq_144 wq_141 wq_142 wq_143 wq_36) rfl kv_J0_coder_7d493 (vk_recv hC.2.2.2.2.1 hi hS) ⟨rfl, rfl⟩ rfl hl.1 rfl ⟨Nat.le_of_ble_eq_true rfl, Nat.le_of_ble_eq_true rfl⟩ ([] : List Nat) ([] : List Nat) rfl rfl (by decide) (by decide) (by decide) rfl dJ0_length_8abf5_6 (fun r6 w1 H locs hw hP hD hS => ?_)
  obtain ⟨rfl, rfl⟩ := hw
  have hP : va_P Z.1 vwCl [] H := hP
  have hD : va_D A [] := hD
  refine lv_ishr hx hb dJ0_length_8abf5_9 ?_
  refine ln_top (y := nI (xTl.getD i 0)) (sc_shr0 (by have := xTl_le i hi; omega)) ?_
  exact x_iret hC hr hk hP hD hS dJ0_length_8abf5_10 ⟨rfl, rfl⟩

set_option maxHeartbeats 4000000 in
set_option maxRecDepth 100000 in
theorem c_pci_n (l : Launch) (Z : xZ) (j N : Nat) (hj : j < N) (hN : N < 1000) : xMi l Z yJ3_checkIndex_8e157 vJ3_checkIndex_8e157 ({ frames := 0, cells := 0, slots := 0, locals := 0 } : Room) [.int (nI j), .int (nI N), .null] [] (fun r w => r = nI j ∧ w = []) := by
  refine x_i (by decide) rfl (Nat.le_of_ble_eq_true rfl) ?_
  intro p e s m args below meth c ls A hC hr hk hl hP hD hS
  have hx := hC.1.1
  have hb := hC.1.2.1
  have hml := hC.1.2.2.1
  have hown : s.vm.findClass RJ3 = some m.cls := hC.1.2.2.2.1
  have hts := hC.1.2.2.2.2
  have hK := hC.2.1
  have hl : lv_has ls 3 [(0, .int (nI j)), (1, .int (nI N)), (2, .null)] := hl
  have hP : va_P Z.1 vwCl [] s.heap := hP
  have hD : va_D A [] := hD
  refine lv_iload_n hx hb dJ3_checkIndex_8e157_0 rfl (lv_at hl 0 rfl) ?_
  refine ln_if_lt (tgt := 9) hx hb dJ3_checkIndex_8e157_1 (by decide) (by omega) ?_
  refine lv_iload_n hx hb dJ3_checkIndex_8e157_4 rfl (lv_at hl 0 rfl) ?_
  refine lv_iload_n hx hb dJ3_checkIndex_8e157_5 rfl (lv_at hl 1 rfl) ?_
  refine ln_icmp_lt (tgt := 16) hx hb dJ3_checkIndex_8e157_6 (by decide) (by omega) (by omega) (fun h6 => ?_) (fun h6 => False.elim (by omega))
  refine lv_iload_n hx hb dJ3_checkIndex_8e157_16 rfl (lv_at hl 0 rfl) ?_
  exact x_iret hC hr hk hP hD hS dJ3_checkIndex_8e157_17 ⟨rfl, rfl⟩

set_option maxHeartbeats 4000000 in
set_option maxRecDepth 100000 in
theorem c_pci_r (l : Launch) (Z : xZ) (j N : Nat) (hj : j < N) (hN : N < 1000) (t : Nat) : xMi l Z yJ3_checkIndex_8e157 vJ3_checkIndex_8e157 ({ frames := 0, cells := 0, slots := 0, locals := 0 } : Room) [.int (nI j), .int (nI N), .ref t] [] (fun r w => r = nI j ∧ w = []) := by
  refine x_i (by decide) rfl (Nat.le_of_ble_eq_true rfl) ?_
  intro p e s m args below meth c ls A hC hr hk hl hP hD hS
  have hx := hC.1.1
  have hb := hC.1.2.1
  have hml := hC.1.2.2.1
  have hown : s.vm.findClass RJ3 = some m.cls := hC.1.2.2.2.1
  have hts := hC.1.2.2.2.2
  have hK := hC.2.1
  have hl : lv_has ls 3 [(0, .int (nI j)), (1, .int (nI N)), (2, .ref t)] := hl
  have hP : va_P Z.1 vwCl [] s.heap := hP
  have hD : va_D A [] := hD
  refine lv_iload_n hx hb dJ3_checkIndex_8e157_0 rfl (lv_at hl 0 rfl) ?_
  refine ln_if_lt (tgt := 9) hx hb dJ3_checkIndex_8e157_1 (by decide) (by omega) ?_
  refine lv_iload_n hx hb dJ3_checkIndex_8e157_4 rfl (lv_at hl 0 rfl) ?_
  refine lv_iload_n hx hb dJ3_checkIndex_8e157_5 rfl (lv_at hl 1 rfl) ?_
  refine ln_icmp_lt (tgt := 16) hx hb dJ3_checkIndex_8e157_6 (by decide) (by omega) (by omega) (fun h6 => ?_) (fun h6 => False.elim (by omega))
  refine lv_iload_n hx hb dJ3_checkIndex_8e157_16 rfl (lv_at hl 0 rfl) ?_
  exact x_iret hC hr hk hP hD hS dJ3_checkIndex_8e157_17 ⟨rfl, rfl⟩

theorem ks_J3_checkIndex_8e157 : yJ3_checkIndex_8e157.cls ≠ "java/lang/invoke/MethodHandle" ∧ yJ3_checkIndex_8e157.cls ≠ "java/lang/invoke/VarHandle" ∧ (parseMethodDescriptor yJ3_checkIndex_8e157.desc).map (fun d => d.parameters.length) = some 3 := by decide +kernel
set_option maxHeartbeats 4000000 in
set_option maxRecDepth 100000 in
theorem c_sci (l : Launch) (Z : xZ) (j N : Nat) (hj : j < N) (hN : N < 1000) : xMv l Z yJ0_checkIndex_df160 vJ0_checkIndex_df160 ({ frames := 1, cells := 0, slots := 0, locals := 22 } : Room) [.int (nI j), .int (nI N)] [] (fun w => w = []) := by
  refine x_v (by decide) rfl (Nat.le_of_ble_eq_true rfl) ?_
  intro p e s m args below meth c ls A hC hr hk hname hl hP hD hS
  have hx := hC.1.1
  have hb := hC.1.2.1
  have hml := hC.1.2.2.1
  have hown : s.vm.findClass RJ0 = some m.cls := hC.1.2.2.2.1
  have hts := hC.1.2.2.2.2
  have hK := hC.2.1
  have qq_161 := hts (Cond.fieldLink RJ0 1053 "jdk/internal/util/Preconditions" "SIOOBE_FORMATTER" "Ljava/util/function/BiFunction;") (List.mem_cons_of_mem _ wq_161)
  have hl : lv_has ls 2 [(0, .int (nI j)), (1, .int (nI N))] := hl
  have hP : va_P Z.1 vwCl [] s.heap := hP
  have hD : va_D A [] := hD
  refine lv_iload_n hx hb dJ0_checkIndex_df160_0 rfl (lv_at hl 0 rfl) ?_
  refine lv_iload_n hx hb dJ0_checkIndex_df160_1 rfl (lv_at hl 1 rfl) ?_
  rcases hC.2.2.2.2.2.2.2 with hzz | ⟨t, hzz⟩
  · refine va_gets hx hb hzz hS hown qq_161 (fun _ h9 => h9) dJ0_checkIndex_df160_2 ?_
    refine x_Si (y := yJ3_checkIndex_8e157) (As := [.int (nI j), .int (nI N), .null]) (wc := []) (wr := []) hC hP hD hS (c_pci_n l Z j N hj hN) (gS wq_165 wq_163 wq_164 wq_38) rfl ks_J3_checkIndex_8e157 ⟨rfl, rfl⟩ rfl hl.1 rfl ⟨Nat.le_of_ble_eq_true rfl, Nat.le_of_ble_eq_true rfl⟩ ([] : List Nat) ([] : List Nat) rfl rfl (by decide) (by decide) (by decide) rfl dJ0_checkIndex_df160_5 (fun r5 w1 H locs hw hP hD hS => ?_)
    obtain ⟨rfl, rfl⟩ := hw
    have hP : va_P Z.1 vwCl [] H := hP
    have hD : va_D A [] := hD
    refine lv_pop hx hb dJ0_checkIndex_df160_8 rfl ?_
    exact x_vret hC hr hk hP hD hS dJ0_checkIndex_df160_9 (rfl)
  · refine va_gets hx hb hzz hS hown qq_161 (fun _ h9 => h9) dJ0_checkIndex_df160_2 ?_
    refine x_Si (y := yJ3_checkIndex_8e157) (As := [.int (nI j), .int (nI N), .ref t]) (wc := []) (wr := []) hC hP hD hS (c_pci_r l Z j N hj hN t) (gS wq_165 wq_163 wq_164 wq_38) rfl ks_J3_checkIndex_8e157 ⟨rfl, rfl⟩ rfl hl.1 rfl ⟨Nat.le_of_ble_eq_true rfl, Nat.le_of_ble_eq_true rfl⟩ ([] : List Nat) ([] : List Nat) rfl rfl (by decide) (by decide) (by decide) rfl dJ0_checkIndex_df160_5 (fun r5 w1 H locs hw hP hD hS => ?_)
    obtain ⟨rfl, rfl⟩ := hw
    have hP : va_P Z.1 vwCl [] H := hP
    have hD : va_D A [] := hD
    refine lv_pop hx hb dJ0_checkIndex_df160_8 rfl ?_
    exact x_vret hC hr hk hP hD hS dJ0_checkIndex_df160_9 (rfl)

theorem ks_J0_checkIndex_df160 : yJ0_checkIndex_df160.cls ≠ "java/lang/invoke/MethodHandle" ∧ yJ0_checkIndex_df160.cls ≠ "java/lang/invoke/VarHandle" ∧ (parseMethodDescriptor yJ0_checkIndex_df160.desc).map (fun d => d.parameters.length) = some 2 := by decide +kernel
set_option maxHeartbeats 4000000 in
set_option maxRecDepth 100000 in
theorem c_lcharAt (l : Launch) (Z : xZ) (i : Nat) (hi : i < 7) (j : Nat) (hj : j < xTl.getD i 0) : xMi l Z yJ1_charAt_3b067 vJ1_charAt_3b067 ({ frames := 2, cells := 0, slots := 0, locals := 43 } : Room) [.ref (Z.2.1.2 i), .int (nI j)] [] (fun r w => r = nI (xby i j) ∧ w = []) := by
  refine x_i (by decide) rfl (Nat.le_of_ble_eq_true rfl) ?_
  intro p e s m args below meth c ls A hC hr hk hl hP hD hS
  have hx := hC.1.1
  have hb := hC.1.2.1
  have hml := hC.1.2.2.1
  have hown : s.vm.findClass RJ1 = some m.cls := hC.1.2.2.2.1
  have hts := hC.1.2.2.2.2
  have hK := hC.2.1
  have hl : lv_has ls 2 [(0, .ref (Z.2.1.2 i)), (1, .int (nI j))] := hl
  have hP : va_P Z.1 vwCl [] s.heap := hP
  have hD : va_D A [] := hD
  refine lv_iload_n hx hb dJ1_charAt_3b067_0 rfl (lv_at hl 1 rfl) ?_
  refine lv_aload_n hx hb dJ1_charAt_3b067_1 rfl (lv_at hl 0 rfl) ?_
  refine va_tlen (v := nI (xTl.getD i 0)) hx hb (hC.2.2.2.2.1.1 i hi).2.2.2 hS rfl dJ1_charAt_3b067_2 ?_
  refine x_Sv (y := yJ0_checkIndex_df160) (As := [.int (nI j), .int (nI (xTl.getD i 0))]) (wc := []) (wr := []) hC hP hD hS (c_sci l Z j (xTl.getD i 0) hj (by have := xTl_le i hi; omega)) (gS wq_160 wq_158 wq_159 wq_36) rfl ks_J0_checkIndex_df160 ⟨rfl, rfl⟩ rfl hl.1 rfl ⟨Nat.le_of_ble_eq_true rfl, Nat.le_of_ble_eq_true rfl⟩ ([] : List Nat) ([] : List Nat) rfl rfl (by decide) (by decide) (by decide) rfl dJ1_charAt_3b067_3 (fun w1 H locs hw hP hD hS => ?_)
  obtain rfl := hw
  have hP : va_P Z.1 vwCl [] H := hP
  have hD : va_D A [] := hD
  refine lv_aload_n hx hb dJ1_charAt_3b067_6 rfl (lv_at hl 0 rfl) ?_
  refine lv_iload_n hx hb dJ1_charAt_3b067_7 rfl (lv_at hl 1 rfl) ?_
  refine va_tb (v := .int (nI (xby i j))) hx hb (hC.2.2.2.2.1.1 i hi).2.2.2 hS (vp_in_nI (by omega) (by have := xTl_le i hi; omega)) (by rw [nI_clamp (by have := xTl_le i hi; omega), (xby_all i hi j (by omega)).1]) dJ1_charAt_3b067_8 ?_
  refine ln_sipush 255 hx hb dJ1_charAt_3b067_9 (by decide) ?_
  refine lv_iand hx hb dJ1_charAt_3b067_12 ?_
  refine ln_top (y := nI (xby i j)) (ch_and _ (xby_all i hi j hj).2) ?_
  refine lv_i2c (v := nI (xby i j)) hx hb dJ1_charAt_3b067_13 (ch_i2c _ (xby_all i hi j hj).2) ?_
  exact x_zret hC hr (ch_nar _ (xby_all i hi j hj).2) hk hP hD hS dJ1_charAt_3b067_14 ⟨rfl, rfl⟩

theorem kv_J0_isLatin1_aae02 : yJ0_isLatin1_aae02.cls = RJ0 ∧ yJ0_isLatin1_aae02.cls ≠ "java/lang/invoke/MethodHandle" ∧ yJ0_isLatin1_aae02.cls ≠ "java/lang/invoke/VarHandle" ∧ (parseMethodDescriptor yJ0_isLatin1_aae02.desc).map (fun d => d.parameters.length) = some 0 := by decide +kernel
theorem ks_J1_charAt_3b067 : yJ1_charAt_3b067.cls ≠ "java/lang/invoke/MethodHandle" ∧ yJ1_charAt_3b067.cls ≠ "java/lang/invoke/VarHandle" ∧ (parseMethodDescriptor yJ1_charAt_3b067.desc).map (fun d => d.parameters.length) = some 2 := by decide +kernel
set_option maxHeartbeats 4000000 in
set_option maxRecDepth 100000 in
theorem c_charAt (l : Launch) (Z : xZ) (i : Nat) (hi : i < 7) (j : Nat) (hj : j < xTl.getD i 0) : xMi l Z yJ0_charAt_5068e vJ0_charAt_5068e ({ frames := 3, cells := 0, slots := 0, locals := 64 } : Room) [.ref (Z.2.1.1 i), .int (nI j)] [] (fun r w => r = nI (xby i j) ∧ w = []) := by
  refine x_i (by decide) rfl (Nat.le_of_ble_eq_true rfl) ?_
  intro p e s m args below meth c ls A hC hr hk hl hP hD hS
  have hx := hC.1.1
  have hb := hC.1.2.1
  have hml := hC.1.2.2.1
  have hown : s.vm.findClass RJ0 = some m.cls := hC.1.2.2.2.1
  have hts := hC.1.2.2.2.2
  have hK := hC.2.1
  have qq_955 := hts (Cond.fieldLink RJ0 9 "java/lang/String" "value" "[B") (List.mem_cons_of_mem _ wq_955)
  have hl : lv_has ls 2 [(0, .ref (Z.2.1.1 i)), (1, .int (nI j))] := hl
  have hP : va_P Z.1 vwCl [] s.heap := hP
  have hD : va_D A [] := hD
  refine lv_aload_n hx hb dJ0_charAt_5068e_0 rfl (lv_at hl 0 rfl) ?_
  refine x_Ri (y := yJ0_isLatin1_aae02) (As := []) (wc := []) (wr := []) hC hP hD hS (c_isLatin1 l Z i hi) (gV wq_154 wq_151 wq_152 wq_153 wq_36) rfl kv_J0_isLatin1_aae02 (vk_recv hC.2.2.2.2.1 hi hS) ⟨rfl, rfl⟩ rfl hl.1 rfl ⟨Nat.le_of_ble_eq_true rfl, Nat.le_of_ble_eq_true rfl⟩ ([] : List Nat) ([] : List Nat) rfl rfl (by decide) (by decide) (by decide) rfl dJ0_charAt_5068e_1 (fun r1 w1 H locs hw hP hD hS => ?_)
  obtain ⟨rfl, rfl⟩ := hw
  have hP : va_P Z.1 vwCl [] H := hP
  have hD : va_D A [] := hD
  refine ln_if_eq (tgt := 16) hx hb dJ0_charAt_5068e_4 (by decide) (by omega) (fun h4 => False.elim (by omega)) (fun h4 => ?_)
  refine lv_aload_n hx hb dJ0_charAt_5068e_7 rfl (lv_at hl 0 rfl) ?_
  refine vk_getf hx hb (hC.2.2.2.2.1.1 i hi).2.2.1 hS hown qq_955 (fun _ h9 => h9) dJ0_charAt_5068e_8 ?_
  refine lv_iload_n hx hb dJ0_charAt_5068e_11 rfl (lv_at hl 1 rfl) ?_
  refine x_Si (y := yJ1_charAt_3b067) (As := [.ref (Z.2.1.2 i), .int (nI j)]) (wc := []) (wr := []) hC hP hD hS (c_lcharAt l Z i hi j hj) (gS wq_157 wq_155 wq_156 wq_37) rfl ks_J1_charAt_3b067 ⟨rfl, rfl⟩ rfl hl.1 rfl ⟨Nat.le_of_ble_eq_true rfl, Nat.le_of_ble_eq_true rfl⟩ ([] : List Nat) ([] : List Nat) rfl rfl (by decide) (by decide) (by decide) rfl dJ0_charAt_5068e_12 (fun r12 w1 H locs hw hP hD hS => ?_)
  obtain ⟨rfl, rfl⟩ := hw
  have hP : va_P Z.1 vwCl [] H := hP
  have hD : va_D A [] := hD
  exact x_zret hC hr (ch_nar _ (xby_all i hi j hj).2) hk hP hD hS dJ0_charAt_5068e_15 ⟨rfl, rfl⟩

set_option maxHeartbeats 4000000 in
set_option maxRecDepth 100000 in
theorem c_canEnc (l : Launch) (Z : xZ) (b : Nat) (hb2 : b < 128) : xMi l Z yJ1_canEncode_9a6ad vJ1_canEncode_9a6ad ({ frames := 0, cells := 0, slots := 0, locals := 0 } : Room) [.int (nI b)] [] (fun r w => r = nI 1 ∧ w = []) := by
  refine x_i (by decide) rfl (Nat.le_of_ble_eq_true rfl) ?_
  intro p e s m args below meth c ls A hC hr hk hl hP hD hS
  have hx := hC.1.1
  have hb := hC.1.2.1
  have hml := hC.1.2.2.1
  have hown : s.vm.findClass RJ1 = some m.cls := hC.1.2.2.2.1
  have hts := hC.1.2.2.2.2
  have hK := hC.2.1
  have hl : lv_has ls 1 [(0, .int (nI b))] := hl
  have hP : va_P Z.1 vwCl [] s.heap := hP
  have hD : va_D A [] := hD
  refine lv_iload_n hx hb dJ1_canEncode_9a6ad_0 rfl (lv_at hl 0 rfl) ?_
  refine ln_if_lt (tgt := 15) hx hb dJ1_canEncode_9a6ad_1 (by decide) (by omega) ?_
  refine lv_iload_n hx hb dJ1_canEncode_9a6ad_4 rfl (lv_at hl 0 rfl) ?_
  refine ln_sipush 255 hx hb dJ1_canEncode_9a6ad_5 (by decide) ?_
  refine ln_icmp_gt (tgt := 15) hx hb dJ1_canEncode_9a6ad_8 (by decide) (by omega) (by omega) (fun h8 => False.elim (by omega)) (fun h8 => ?_)
  refine ln_const 1 hx hb dJ1_canEncode_9a6ad_11 (by decide) ?_
  refine lv_goto (tgt := 16) hx hb dJ1_canEncode_9a6ad_12 (by decide) ?_
  exact x_zret hC hr rfl hk hP hD hS dJ1_canEncode_9a6ad_16 ⟨rfl, rfl⟩

set_option maxHeartbeats 4000000 in
set_option maxRecDepth 100000 in
theorem c_ioc (l : Launch) (Z : xZ) (b : Nat) (hb2 : b < 128) : xMi l Z yJ1_indexOfChar_4cfef vJ1_indexOfChar_4cfef ({ frames := 0, cells := 0, slots := 0, locals := 0 } : Room) [.ref (Z.2.1.2 0), .int (nI b), .int (nI 0), .int (nI 21)] [] (fun r w => r = xfv (xfn b 21 0) ∧ w = []) := by
  refine x_i (by decide) rfl (Nat.le_of_ble_eq_true rfl) ?_
  intro p e s m args below meth c ls A hC hr hk hl hP hD hS
  have hx := hC.1.1
  have hb := hC.1.2.1
  have hml := hC.1.2.2.1
  have hown : s.vm.findClass RJ1 = some m.cls := hC.1.2.2.2.1
  have hts := hC.1.2.2.2.2
  have hK := hC.2.1
  have hl : lv_has ls 6 [(0, .ref (Z.2.1.2 0)), (1, .int (nI b)), (2, .int (nI 0)), (3, .int (nI 21))] := hl
  have hP : va_P Z.1 vwCl [] s.heap := hP
  have hD : va_D A [] := hD
  refine lv_iload_n hx hb dJ1_indexOfChar_4cfef_0 rfl (lv_at hl 1 rfl) ?_
  refine lv_i2b (v := nI b) hx hb dJ1_indexOfChar_4cfef_1 (ch_i2b _ hb2) ?_
  refine lv_istore (lv' := [(4, .int (nI b)), (0, .ref (Z.2.1.2 0)), (1, .int (nI b)), (2, .int (nI 0)), (3, .int (nI 21))]) hx hb dJ1_indexOfChar_4cfef_2 hl (by decide) rfl (fun ls hl => ?_)
  refine lv_iload_n hx hb dJ1_indexOfChar_4cfef_4 rfl (lv_at hl 3 rfl) ?_
  refine lv_istore (lv' := [(5, .int (nI 0)), (4, .int (nI b)), (0, .ref (Z.2.1.2 0)), (1, .int (nI b)), (2, .int (nI 0)), (3, .int (nI 21))]) hx hb dJ1_indexOfChar_4cfef_5 hl (by decide) rfl (fun ls hl => ?_)
  have hloop7 : ∀ (nn : Nat) (j : Nat) (H : Heap) (locs : List Loc) (ls : Array Slot) (hj : j ≤ 21) (hf : xfn b 21 0 = xfn b (21 - j) j) (hmu : 21 - j < nn) (hP : va_P Z.1 vwCl [] H) (hD : va_D A []) (hS : va_S A s.heap H locs) (hl : lv_has ls 6 [(0, .ref (Z.2.1.2 0)), (1, .int (nI b)), (2, .int (nI 0)), (3, .int (nI 21)), (4, .int (nI b)), (5, .int (nI j))]), W p l e ({ frames := 0, cells := 0, slots := 0, locals := 0 } : Room) s m args below meth c H locs 0 0 (MQ below (va_Qi (fun r w => r = xfv (xfn b 21 0) ∧ w = []) (xB Z A) A) args s ({ frames := 0, cells := 0, slots := 0, locals := 0 } : Room).cells ({ frames := 0, cells := 0, slots := 0, locals := 0 } : Room).slots A) (F0 m 7 ls []) := by
    intro nn
    induction nn with
    | zero => intro j H locs ls hj hf hmu; exact absurd hmu (Nat.not_lt_zero _)
    | succ nn ih =>
      intro j H locs ls hj hf hmu hP hD hS hl
      refine lv_iload hx hb dJ1_indexOfChar_4cfef_7 (lv_at hl 5 rfl) ?_
      refine lv_iload_n hx hb dJ1_indexOfChar_4cfef_9 rfl (lv_at hl 3 rfl) ?_
      refine ln_icmp_ge (tgt := 31) hx hb dJ1_indexOfChar_4cfef_10 (by decide) (by omega) (by omega) (fun h10 => ?_) (fun h10 => ?_)
      · refine lv_iconst (v := (-1)) hx hb dJ1_indexOfChar_4cfef_31 (by decide) ?_
        exact x_iret hC hr hk hP hD hS dJ1_indexOfChar_4cfef_32 ⟨by rw [hf, show 21 - j = 0 by omega]; rfl, rfl⟩
      · refine lv_aload_n hx hb dJ1_indexOfChar_4cfef_13 rfl (lv_at hl 0 rfl) ?_
        refine lv_iload hx hb dJ1_indexOfChar_4cfef_14 (lv_at hl 5 rfl) ?_
        have hxb := xby_all 0 (by decide) j (show j < 21 by omega)
        refine va_tb (v := .int (nI (xby 0 j))) hx hb (hC.2.2.2.2.1.1 0 (by decide)).2.2.2 hS (vp_in_nI (show j < 21 by omega) (by decide)) (by rw [nI_clamp (by omega), hxb.1]) dJ1_indexOfChar_4cfef_16 ?_
        refine lv_iload hx hb dJ1_indexOfChar_4cfef_17 (lv_at hl 4 rfl) ?_
        refine ln_icmp_ne (tgt := 25) hx hb dJ1_indexOfChar_4cfef_19 (by decide) (by omega) (by omega) (fun h19 => ?_) (fun h19 => ?_)
        · refine ln_iinc (k0 := 5) (k := 1) (j + 1) (lv' := [(5, .int (nI (j + 1))), (0, .ref (Z.2.1.2 0)), (1, .int (nI b)), (2, .int (nI 0)), (3, .int (nI 21)), (4, .int (nI b))]) hx hb dJ1_indexOfChar_4cfef_25 hl rfl rfl (by first | rfl | omega) (by decide) rfl (fun ls hl => ?_)
          refine lv_goto (tgt := 7) hx hb dJ1_indexOfChar_4cfef_28 (by decide) ?_
          exact ih  (j + 1) _ _ _ (by omega) (by rw [hf, show 21 - j = (21 - (j + 1)) + 1 by omega]; show (if xby 0 j = b then j else xfn b (21 - (j + 1)) (j + 1)) = _; rw [if_neg h19]) (by omega) hP hD hS (lv_sub hl [1, 2, 3, 4, 5, 0] rfl)
        · refine lv_iload hx hb dJ1_indexOfChar_4cfef_22 (lv_at hl 5 rfl) ?_
          exact x_iret hC hr hk hP hD hS dJ1_indexOfChar_4cfef_24 ⟨by rw [hf, show 21 - j = (21 - (j + 1)) + 1 by omega]; show _ = xfv (if xby 0 j = b then j else xfn b (21 - (j + 1)) (j + 1)); rw [if_pos h19]; unfold xfv; rw [if_neg (by omega)], rfl⟩
  exact hloop7 ((21 - 0) + 1) 0 _ _ _ (Nat.zero_le _) rfl (Nat.lt_succ_self _) hP hD hS (lv_sub hl [2, 3, 4, 5, 1, 0] rfl)

theorem ks_J1_canEncode_9a6ad : yJ1_canEncode_9a6ad.cls ≠ "java/lang/invoke/MethodHandle" ∧ yJ1_canEncode_9a6ad.cls ≠ "java/lang/invoke/VarHandle" ∧ (parseMethodDescriptor yJ1_canEncode_9a6ad.desc).map (fun d => d.parameters.length) = some 1 := by decide +kernel
theorem ks_J1_indexOfChar_4cfef : yJ1_indexOfChar_4cfef.cls ≠ "java/lang/invoke/MethodHandle" ∧ yJ1_indexOfChar_4cfef.cls ≠ "java/lang/invoke/VarHandle" ∧ (parseMethodDescriptor yJ1_indexOfChar_4cfef.desc).map (fun d => d.parameters.length) = some 4 := by decide +kernel
set_option maxHeartbeats 4000000 in
set_option maxRecDepth 100000 in
theorem c_lio (l : Launch) (Z : xZ) (b : Nat) (hb2 : b < 128) : xMi l Z yJ1_indexOf_4cfef vJ1_indexOf_4cfef ({ frames := 1, cells := 0, slots := 0, locals := 25 } : Room) [.ref (Z.2.1.2 0), .int (nI b), .int (nI 0), .int (nI 21)] [] (fun r w => r = xfv (xfn b 21 0) ∧ w = []) := by
  refine x_i (by decide) rfl (Nat.le_of_ble_eq_true rfl) ?_
  intro p e s m args below meth c ls A hC hr hk hl hP hD hS
  have hx := hC.1.1
  have hb := hC.1.2.1
  have hml := hC.1.2.2.1
  have hown : s.vm.findClass RJ1 = some m.cls := hC.1.2.2.2.1
  have hts := hC.1.2.2.2.2
  have hK := hC.2.1
  have qq_201 := hts (Cond.methodLink RJ1 92 Lib.Math.max.name) (List.mem_cons_of_mem _ wq_201)
  have qq_202 := hts (Cond.static Lib.Math.max.name) (List.mem_cons_of_mem _ wq_202)
  have qq_40 := hts (Cond.initialized "java/lang/Math") (List.mem_cons_of_mem _ wq_40)
  have qq_203 := hts (Cond.code Lib.Math.max.name Lib.Math.max.code 2 (some .int)) (List.mem_cons_of_mem _ wq_203)
  have qq_204 := hts (Cond.methodLink RJ1 38 Lib.Math.min.name) (List.mem_cons_of_mem _ wq_204)
  have qq_205 := hts (Cond.static Lib.Math.min.name) (List.mem_cons_of_mem _ wq_205)
  have qq_206 := hts (Cond.code Lib.Math.min.name Lib.Math.min.code 2 (some .int)) (List.mem_cons_of_mem _ wq_206)
  have hl : lv_has ls 4 [(0, .ref (Z.2.1.2 0)), (1, .int (nI b)), (2, .int (nI 0)), (3, .int (nI 21))] := hl
  have hP : va_P Z.1 vwCl [] s.heap := hP
  have hD : va_D A [] := hD
  refine lv_iload_n hx hb dJ1_indexOf_4cfef_0 rfl (lv_at hl 1 rfl) ?_
  refine x_Si (y := yJ1_canEncode_9a6ad) (As := [.int (nI b)]) (wc := []) (wr := []) hC hP hD hS (c_canEnc l Z b hb2) (gS wq_200 wq_198 wq_199 wq_37) rfl ks_J1_canEncode_9a6ad ⟨rfl, rfl⟩ rfl hl.1 rfl ⟨Nat.le_of_ble_eq_true rfl, Nat.le_of_ble_eq_true rfl⟩ ([] : List Nat) ([] : List Nat) rfl rfl (by decide) (by decide) (by decide) rfl dJ1_indexOf_4cfef_1 (fun r1 w1 H locs hw hP hD hS => ?_)
  obtain ⟨rfl, rfl⟩ := hw
  have hP : va_P Z.1 vwCl [] H := hP
  have hD : va_D A [] := hD
  refine ln_if_ne (tgt := 9) hx hb dJ1_indexOf_4cfef_4 (by decide) (by omega) (fun h4 => ?_) (fun h4 => False.elim (by omega))
  refine lv_iload_n hx hb dJ1_indexOf_4cfef_9 rfl (lv_at hl 2 rfl) ?_
  refine ln_const 0 hx hb dJ1_indexOf_4cfef_10 (by decide) ?_
  refine va_mmax hx hb (by rw [hml]; exact hl.1.symm) hown qq_201 qq_202 qq_40 qq_203 (Nat.le_of_ble_eq_true rfl) (Nat.le_of_ble_eq_true rfl) (Nat.le_of_ble_eq_true rfl) (Nat.le_of_ble_eq_true rfl) dJ1_indexOf_4cfef_11 ?_
  refine ln_top (y := nI 0) (by decide) ?_
  refine lv_istore_n (lv' := [(2, .int (nI 0)), (0, .ref (Z.2.1.2 0)), (1, .int (nI b)), (3, .int (nI 21))]) hx hb dJ1_indexOf_4cfef_14 rfl hl (by decide) rfl (fun ls hl => ?_)
  refine lv_iload_n hx hb dJ1_indexOf_4cfef_15 rfl (lv_at hl 3 rfl) ?_
  refine lv_aload_n hx hb dJ1_indexOf_4cfef_16 rfl (lv_at hl 1 rfl) ?_
  refine va_tlen (v := nI 21) hx hb (hC.2.2.2.2.1.1 0 (by decide)).2.2.2 hS rfl dJ1_indexOf_4cfef_17 ?_
  refine va_mmin hx hb (by rw [hml]; exact hl.1.symm) hown qq_204 qq_205 qq_40 qq_206 (Nat.le_of_ble_eq_true rfl) (Nat.le_of_ble_eq_true rfl) (Nat.le_of_ble_eq_true rfl) (Nat.le_of_ble_eq_true rfl) dJ1_indexOf_4cfef_18 ?_
  refine ln_top (y := nI 21) (by decide) ?_
  refine lv_istore_n (lv' := [(3, .int (nI 21)), (2, .int (nI 0)), (0, .ref (Z.2.1.2 0)), (1, .int (nI b))]) hx hb dJ1_indexOf_4cfef_21 rfl hl (by decide) rfl (fun ls hl => ?_)
  refine lv_iload_n hx hb dJ1_indexOf_4cfef_22 rfl (lv_at hl 1 rfl) ?_
  refine lv_iload_n hx hb dJ1_indexOf_4cfef_23 rfl (lv_at hl 0 rfl) ?_
  refine ln_icmp_lt (tgt := 29) hx hb dJ1_indexOf_4cfef_24 (by decide) (by omega) (by omega) (fun h24 => ?_) (fun h24 => False.elim (by omega))
  refine lv_aload_n hx hb dJ1_indexOf_4cfef_29 rfl (lv_at hl 2 rfl) ?_
  refine lv_iload_n hx hb dJ1_indexOf_4cfef_30 rfl (lv_at hl 3 rfl) ?_
  refine lv_iload_n hx hb dJ1_indexOf_4cfef_31 rfl (lv_at hl 1 rfl) ?_
  refine lv_iload_n hx hb dJ1_indexOf_4cfef_32 rfl (lv_at hl 0 rfl) ?_
  refine x_Si (y := yJ1_indexOfChar_4cfef) (As := [.ref (Z.2.1.2 0), .int (nI b), .int (nI 0), .int (nI 21)]) (wc := []) (wr := []) hC hP hD hS (c_ioc l Z b hb2) (gS wq_209 wq_207 wq_208 wq_37) rfl ks_J1_indexOfChar_4cfef ⟨rfl, rfl⟩ rfl hl.1 rfl ⟨Nat.le_of_ble_eq_true rfl, Nat.le_of_ble_eq_true rfl⟩ ([] : List Nat) ([] : List Nat) rfl rfl (by decide) (by decide) (by decide) rfl dJ1_indexOf_4cfef_33 (fun r33 w1 H locs hw hP hD hS => ?_)
  obtain ⟨rfl, rfl⟩ := hw
  have hP : va_P Z.1 vwCl [] H := hP
  have hD : va_D A [] := hD
  exact x_iret hC hr hk hP hD hS dJ1_indexOf_4cfef_36 ⟨rfl, rfl⟩

theorem kv_J0_length_8abf5 : yJ0_length_8abf5.cls = RJ0 ∧ yJ0_length_8abf5.cls ≠ "java/lang/invoke/MethodHandle" ∧ yJ0_length_8abf5.cls ≠ "java/lang/invoke/VarHandle" ∧ (parseMethodDescriptor yJ0_length_8abf5.desc).map (fun d => d.parameters.length) = some 0 := by decide +kernel
theorem ks_J1_indexOf_4cfef : yJ1_indexOf_4cfef.cls ≠ "java/lang/invoke/MethodHandle" ∧ yJ1_indexOf_4cfef.cls ≠ "java/lang/invoke/VarHandle" ∧ (parseMethodDescriptor yJ1_indexOf_4cfef.desc).map (fun d => d.parameters.length) = some 4 := by decide +kernel
set_option maxHeartbeats 4000000 in
set_option maxRecDepth 100000 in
theorem c_io2 (l : Launch) (Z : xZ) (b : Nat) (hb2 : b < 128) : xMi l Z yJ0_indexOf_7cf53 vJ0_indexOf_7cf53 ({ frames := 2, cells := 0, slots := 0, locals := 48 } : Room) [.ref (Z.2.1.1 0), .int (nI b), .int (nI 0)] [] (fun r w => r = xfv (xfn b 21 0) ∧ w = []) := by
  refine x_i (by decide) rfl (Nat.le_of_ble_eq_true rfl) ?_
  intro p e s m args below meth c ls A hC hr hk hl hP hD hS
  have hx := hC.1.1
  have hb := hC.1.2.1
  have hml := hC.1.2.2.1
  have hown : s.vm.findClass RJ0 = some m.cls := hC.1.2.2.2.1
  have hts := hC.1.2.2.2.2
  have hK := hC.2.1
  have qq_955 := hts (Cond.fieldLink RJ0 9 "java/lang/String" "value" "[B") (List.mem_cons_of_mem _ wq_955)
  have hl : lv_has ls 3 [(0, .ref (Z.2.1.1 0)), (1, .int (nI b)), (2, .int (nI 0))] := hl
  have hP : va_P Z.1 vwCl [] s.heap := hP
  have hD : va_D A [] := hD
  refine lv_aload_n hx hb dJ0_indexOf_7cf53_0 rfl (lv_at hl 0 rfl) ?_
  refine x_Ri (y := yJ0_isLatin1_aae02) (As := []) (wc := []) (wr := []) hC hP hD hS (c_isLatin1 l Z 0 (by decide)) (gV wq_154 wq_151 wq_152 wq_153 wq_36) rfl kv_J0_isLatin1_aae02 (vk_recv hC.2.2.2.2.1 (show 0 < 7 by decide) hS) ⟨rfl, rfl⟩ rfl hl.1 rfl ⟨Nat.le_of_ble_eq_true rfl, Nat.le_of_ble_eq_true rfl⟩ ([] : List Nat) ([] : List Nat) rfl rfl (by decide) (by decide) (by decide) rfl dJ0_indexOf_7cf53_1 (fun r1 w1 H locs hw hP hD hS => ?_)
  obtain ⟨rfl, rfl⟩ := hw
  have hP : va_P Z.1 vwCl [] H := hP
  have hD : va_D A [] := hD
  refine ln_if_eq (tgt := 23) hx hb dJ0_indexOf_7cf53_4 (by decide) (by omega) (fun h4 => False.elim (by omega)) (fun h4 => ?_)
  refine lv_aload_n hx hb dJ0_indexOf_7cf53_7 rfl (lv_at hl 0 rfl) ?_
  refine vk_getf hx hb (hC.2.2.2.2.1.1 0 (by decide)).2.2.1 hS hown qq_955 (fun _ h9 => h9) dJ0_indexOf_7cf53_8 ?_
  refine lv_iload_n hx hb dJ0_indexOf_7cf53_11 rfl (lv_at hl 1 rfl) ?_
  refine lv_iload_n hx hb dJ0_indexOf_7cf53_12 rfl (lv_at hl 2 rfl) ?_
  refine lv_aload_n hx hb dJ0_indexOf_7cf53_13 rfl (lv_at hl 0 rfl) ?_
  refine x_Ri (y := yJ0_length_8abf5) (As := []) (wc := []) (wr := []) hC hP hD hS (c_slen l Z 0 (by decide)) (gV wq_140 wq_194 wq_138 wq_139 wq_36) rfl kv_J0_length_8abf5 (vk_recv hC.2.2.2.2.1 (show 0 < 7 by decide) hS) ⟨rfl, rfl⟩ rfl hl.1 rfl ⟨Nat.le_of_ble_eq_true rfl, Nat.le_of_ble_eq_true rfl⟩ ([] : List Nat) ([] : List Nat) rfl rfl (by decide) (by decide) (by decide) rfl dJ0_indexOf_7cf53_14 (fun r14 w1 H locs hw hP hD hS => ?_)
  obtain ⟨rfl, rfl⟩ := hw
  have hP : va_P Z.1 vwCl [] H := hP
  have hD : va_D A [] := hD
  refine x_Si (y := yJ1_indexOf_4cfef) (As := [.ref (Z.2.1.2 0), .int (nI b), .int (nI 0), .int (nI 21)]) (wc := []) (wr := []) hC hP hD hS (c_lio l Z b hb2) (gS wq_197 wq_195 wq_196 wq_37) rfl ks_J1_indexOf_4cfef ⟨rfl, rfl⟩ rfl hl.1 rfl ⟨Nat.le_of_ble_eq_true rfl, Nat.le_of_ble_eq_true rfl⟩ ([] : List Nat) ([] : List Nat) rfl rfl (by decide) (by decide) (by decide) rfl dJ0_indexOf_7cf53_17 (fun r17 w1 H locs hw hP hD hS => ?_)
  obtain ⟨rfl, rfl⟩ := hw
  have hP : va_P Z.1 vwCl [] H := hP
  have hD : va_D A [] := hD
  refine lv_goto (tgt := 36) hx hb dJ0_indexOf_7cf53_20 (by decide) ?_
  exact x_iret hC hr hk hP hD hS dJ0_indexOf_7cf53_36 ⟨rfl, rfl⟩

theorem kv_J0_indexOf_7cf53 : yJ0_indexOf_7cf53.cls = RJ0 ∧ yJ0_indexOf_7cf53.cls ≠ "java/lang/invoke/MethodHandle" ∧ yJ0_indexOf_7cf53.cls ≠ "java/lang/invoke/VarHandle" ∧ (parseMethodDescriptor yJ0_indexOf_7cf53.desc).map (fun d => d.parameters.length) = some 2 := by decide +kernel
set_option maxHeartbeats 4000000 in
set_option maxRecDepth 100000 in
theorem c_io1 (l : Launch) (Z : xZ) (b : Nat) (hb2 : b < 128) : xMi l Z yJ0_indexOf_0f7a4 vJ0_indexOf_0f7a4 ({ frames := 3, cells := 0, slots := 0, locals := 70 } : Room) [.ref (Z.2.1.1 0), .int (nI b)] [] (fun r w => r = xfv (xfn b 21 0) ∧ w = []) := by
  refine x_i (by decide) rfl (Nat.le_of_ble_eq_true rfl) ?_
  intro p e s m args below meth c ls A hC hr hk hl hP hD hS
  have hx := hC.1.1
  have hb := hC.1.2.1
  have hml := hC.1.2.2.1
  have hown : s.vm.findClass RJ0 = some m.cls := hC.1.2.2.2.1
  have hts := hC.1.2.2.2.2
  have hK := hC.2.1
  have hl : lv_has ls 2 [(0, .ref (Z.2.1.1 0)), (1, .int (nI b))] := hl
  have hP : va_P Z.1 vwCl [] s.heap := hP
  have hD : va_D A [] := hD
  refine lv_aload_n hx hb dJ0_indexOf_0f7a4_0 rfl (lv_at hl 0 rfl) ?_
  refine lv_iload_n hx hb dJ0_indexOf_0f7a4_1 rfl (lv_at hl 1 rfl) ?_
  refine ln_const 0 hx hb dJ0_indexOf_0f7a4_2 (by decide) ?_
  refine x_Ri (y := yJ0_indexOf_7cf53) (As := [.int (nI b), .int (nI 0)]) (wc := []) (wr := []) hC hP hD hS (c_io2 l Z b hb2) (gV wq_193 wq_190 wq_191 wq_192 wq_36) rfl kv_J0_indexOf_7cf53 (vk_recv hC.2.2.2.2.1 (show 0 < 7 by decide) hS) ⟨rfl, rfl⟩ rfl hl.1 rfl ⟨Nat.le_of_ble_eq_true rfl, Nat.le_of_ble_eq_true rfl⟩ ([] : List Nat) ([] : List Nat) rfl rfl (by decide) (by decide) (by decide) rfl dJ0_indexOf_0f7a4_3 (fun r3 w1 H locs hw hP hD hS => ?_)
  obtain ⟨rfl, rfl⟩ := hw
  have hP : va_P Z.1 vwCl [] H := hP
  have hD : va_D A [] := hD
  exact x_iret hC hr hk hP hD hS dJ0_indexOf_0f7a4_6 ⟨rfl, rfl⟩
end
section
/-- the two rows of the productions hold T -/
def TR (T : Nat → List Nat) (sz lt : Nat → Nat) : Prop := ∀ c, c < 121 → sz c = (T c).length ∧ (T c).length ≤ 4 ∧ ∀ j, j < (T c).length → lt (c * 4 + j) = (T c).getD j 0
theorem getD_push (l : List Nat) (x j : Nat) : (l ++ [x]).getD j 0 = if j < l.length then l.getD j 0 else if j = l.length then x else 0 := by
  simp only [List.getD_eq_getElem?_getD]
  by_cases h : j < l.length
  · rw [List.getElem?_append_left h, if_pos h]
  · rw [if_neg h, List.getElem?_append_right (by omega)]
    by_cases h2 : j = l.length
    · subst h2; simp
    · rw [if_neg h2, List.getElem?_eq_none (by simp; omega)]; rfl
theorem TR.app {T : Nat → List Nat} {sz lt : Nat → Nat} (h : TR T sz lt) {o : Nat} (ho : o < 121) (hl : (T o).length < 4) (x : Nat) : TR (va_up T o (T o ++ [x])) (va_up sz o (sz o + 1)) (va_up lt (o * 4 + sz o) x) := by
  intro c hc
  have h0 := (h o ho).1
  by_cases e : c = o
  · subst e
    rw [va_up_self, va_up_self]
    simp only [List.length_append, List.length_cons, List.length_nil]
    refine ⟨by omega, by omega, fun j hj => ?_⟩
    show (if c * 4 + j = c * 4 + sz c then x else lt (c * 4 + j)) = _
    rw [getD_push]
    by_cases e2 : j = (T c).length
    · rw [if_pos (by omega), if_neg (by omega), if_pos e2]
    · rw [if_neg (by omega), if_pos (by omega)]
      exact (h c hc).2.2 j (by omega)
  · simp only [va_up, if_neg e]
    obtain ⟨h1, h2, h3⟩ := h c hc
    refine ⟨h1, h2, fun j hj => ?_⟩
    rw [if_neg (by omega)]
    exact h3 j hj
theorem TR.congr {T T' : Nat → List Nat} {sz lt : Nat → Nat} (h : TR T sz lt) (e : ∀ c, c < 121 → T' c = T c) : TR T' sz lt := by
  intro c hc
  rw [e c hc]
  exact h c hc
theorem TR.cut {T : Nat → List Nat} {sz lt : Nat → Nat} (h : TR T sz lt) (o : Nat) : TR (va_up T o []) (va_up sz o 0) lt := by
  intro c hc
  unfold va_up
  split
  · exact ⟨rfl, by simp, fun j hj => by simp at hj⟩
  · exact h c hc
def tapp (T : Nat → List Nat) (t : Nat) : List Nat := if t < 121 then T t else []
theorem tapp_in {T : Nat → List Nat} {t : Nat} (h : t < 121) : tapp T t = T t := if_pos h
theorem tapp_out {T : Nat → List Nat} {t : Nat} (h : 121 ≤ t) : tapp T t = [] := if_neg (by omega)
def xnum (k q : Nat) : Nat := if k = 0 then 0 else if k = 100 then 0 else q * 20 + k
def xpm (b q t : Nat) : Nat := if b = 48 then 2 * t else if b = 49 then 2 * t + 1 else q
def xap (T : Nat → List Nat) (o c : Nat) : Nat → List Nat := if (T o).length < 4 then va_up T o (T o ++ [c]) else T
def xbe (i j : Nat) : Nat := if j + 1 < xTl.getD i 0 then xby i (j + 1) else 32
def xki (i j : Nat) : Nat := xfn (xby i j) 21 0
/-- what one sign of a text does: the letter that is written to, all productions -/
def xws (i q t j : Nat) (S : Nat × (Nat → List Nat)) : Nat × (Nat → List Nat) :=
  if xbe i j = 58 then (xnum (xki i j) q, S.2) else if xki i j = 100 then S else (S.1, xap S.2 S.1 (xnum (xki i j) (xpm (xbe i j) q t)))
def xwl (i q t : Nat) : Nat → Nat × (Nat → List Nat) → Nat × (Nat → List Nat)
  | 0, S => S
  | j + 1, S => xws i q t j (xwl i q t j S)
theorem xfn_le (c : Nat) : ∀ n j, xfn c n j < j + n ∨ xfn c n j = 100
  | 0, j => Or.inr rfl
  | n + 1, j => by
    unfold xfn
    split
    · exact Or.inl (by omega)
    · rcases xfn_le c n (j + 1) with h | h
      · exact Or.inl (by omega)
      · exact Or.inr h
theorem xki_le (i j : Nat) : xki i j < 21 ∨ xki i j = 100 := by
  have := xfn_le (xby i j) 21 0
  unfold xki
  omega
theorem xnum_le {k q : Nat} (hk : k < 21 ∨ k = 100) (hq : q < 6) : xnum k q < 121 := by
  unfold xnum
  split
  · omega
  · split <;> omega
theorem xpm_le {b q t : Nat} (hq : q < 6) (ht : t < 3) : xpm b q t < 6 := by
  unfold xpm
  split
  · omega
  · split <;> omega

set_option maxHeartbeats 4000000 in
set_option maxRecDepth 100000 in
theorem c_number (l : Launch) (Z : xZ) (k q : Nat) (hk2 : k < 21) (hq : q < 100) : xMi l Z yX4_number vX4_number ({ frames := 0, cells := 0, slots := 0, locals := 0 } : Room) [.int (nI k), .int (nI q)] [] (fun r w => r = nI (xnum k q) ∧ w = []) := by
  refine x_i (by decide) rfl (Nat.le_of_ble_eq_true rfl) ?_
  intro p e s m args below meth c ls A hC hr hk hl hP hD hS
  have hx := hC.1.1
  have hb := hC.1.2.1
  have hml := hC.1.2.2.1
  have hown : s.vm.findClass RX4 = some m.cls := hC.1.2.2.2.1
  have hts := hC.1.2.2.2.2
  have hK := hC.2.1
  have hl : lv_has ls 2 [(0, .int (nI k)), (1, .int (nI q))] := hl
  have hP : va_P Z.1 vwCl [] s.heap := hP
  have hD : va_D A [] := hD
  refine lv_iload_n hx hb dX4_number_0 rfl (lv_at hl 0 rfl) ?_
  refine ln_if_gt (tgt := 8) hx hb dX4_number_1 (by decide) (by omega) (fun h1 => ?_) (fun h1 => ?_)
  · refine lv_iload_n hx hb dX4_number_8 rfl (lv_at hl 1 rfl) ?_
    refine ln_bipush 20 hx hb dX4_number_9 (by decide) ?_
    refine ln_imul (q * 20) hx hb dX4_number_11 (by first | rfl | omega) ?_
    refine lv_iload_n hx hb dX4_number_12 rfl (lv_at hl 0 rfl) ?_
    refine ln_iadd ((q * 20) + k) hx hb dX4_number_13 (by first | rfl | omega) ?_
    exact x_iret hC hr hk hP hD hS dX4_number_14 ⟨by unfold xnum; rw [if_neg (by omega), if_neg (by omega)], rfl⟩
  · refine ln_const 0 hx hb dX4_number_4 (by decide) ?_
    refine lv_goto (tgt := 14) hx hb dX4_number_5 (by decide) ?_
    exact x_iret hC hr hk hP hD hS dX4_number_14 ⟨by subst h1; rfl, rfl⟩

set_option maxHeartbeats 4000000 in
set_option maxRecDepth 100000 in
theorem c_number_no (l : Launch) (Z : xZ) (q : Nat) (hq : q < 100) : xMi l Z yX4_number vX4_number ({ frames := 0, cells := 0, slots := 0, locals := 0 } : Room) [.int ((-1)), .int (nI q)] [] (fun r w => r = nI (xnum 100 q) ∧ w = []) := by
  refine x_i (by decide) rfl (Nat.le_of_ble_eq_true rfl) ?_
  intro p e s m args below meth c ls A hC hr hk hl hP hD hS
  have hx := hC.1.1
  have hb := hC.1.2.1
  have hml := hC.1.2.2.1
  have hown : s.vm.findClass RX4 = some m.cls := hC.1.2.2.2.1
  have hts := hC.1.2.2.2.2
  have hK := hC.2.1
  have hl : lv_has ls 2 [(0, .int ((-1))), (1, .int (nI q))] := hl
  have hP : va_P Z.1 vwCl [] s.heap := hP
  have hD : va_D A [] := hD
  refine lv_iload_n hx hb dX4_number_0 rfl (lv_at hl 0 rfl) ?_
  refine lv_if_gt (tgt := 8) hx hb dX4_number_1 (by decide) (fun h1 => False.elim (by revert h1; decide)) (fun h1 => ?_)
  refine ln_const 0 hx hb dX4_number_4 (by decide) ?_
  refine lv_goto (tgt := 14) hx hb dX4_number_5 (by decide) ?_
  exact x_iret hC hr hk hP hD hS dX4_number_14 ⟨rfl, rfl⟩

set_option maxHeartbeats 4000000 in
set_option maxRecDepth 100000 in
theorem c_pairMarked (l : Launch) (Z : xZ) (b q t : Nat) (hb2 : b < 128) (ht : t < 100) : xMi l Z yX4_pairMarked vX4_pairMarked ({ frames := 1, cells := 0, slots := 0, locals := 21 } : Room) [.int (nI b), .int (nI q), .int (nI t)] [] (fun r w => r = nI (xpm b q t) ∧ w = []) := by
  refine x_i (by decide) rfl (Nat.le_of_ble_eq_true rfl) ?_
  intro p e s m args below meth c ls A hC hr hk hl hP hD hS
  have hx := hC.1.1
  have hb := hC.1.2.1
  have hml := hC.1.2.2.1
  have hown : s.vm.findClass RX4 = some m.cls := hC.1.2.2.2.1
  have hts := hC.1.2.2.2.2
  have hK := hC.2.1
  have qq_32 := hts (Cond.initialized RX6) (List.mem_cons_of_mem _ wq_32)
  have qq_252 := hts (Cond.static yX6_pairOf) (List.mem_cons_of_mem _ wq_252)
  have qn_68 := hC.2.2.2.1.1 (RX4, 68, yX6_pairOf, RX6) (List.mem_of_getElem? (i := 2) rfl)
  have hl : lv_has ls 3 [(0, .int (nI b)), (1, .int (nI q)), (2, .int (nI t))] := hl
  have hP : va_P Z.1 vwCl [] s.heap := hP
  have hD : va_D A [] := hD
  refine lv_iload_n hx hb dX4_pairMarked_0 rfl (lv_at hl 0 rfl) ?_
  refine ln_bipush 48 hx hb dX4_pairMarked_1 (by decide) ?_
  refine ln_icmp_ne (tgt := 12) hx hb dX4_pairMarked_3 (by decide) (by omega) (by omega) (fun h3 => ?_) (fun h3 => ?_)
  · refine lv_iload_n hx hb dX4_pairMarked_12 rfl (lv_at hl 0 rfl) ?_
    refine ln_bipush 49 hx hb dX4_pairMarked_13 (by decide) ?_
    refine ln_icmp_ne (tgt := 26) hx hb dX4_pairMarked_15 (by decide) (by omega) (by omega) (fun h15 => ?_) (fun h15 => ?_)
    · refine lv_iload_n hx hb dX4_pairMarked_26 rfl (lv_at hl 1 rfl) ?_
      exact x_iret hC hr hk hP hD hS dX4_pairMarked_27 ⟨by unfold xpm; rw [if_neg h3, if_neg h15], rfl⟩
    · refine lv_iload_n hx hb dX4_pairMarked_18 rfl (lv_at hl 2 rfl) ?_
      refine ln_const 1 hx hb dX4_pairMarked_19 (by decide) ?_
      refine x_SNi (y := yX6_pairOf) (As := [.int (nI t), .int (nI 1)]) (wc := []) (wr := []) hC hP hD hS (c_X6_pairOf l Z t 1) (gCo wq_253) qn_68 qq_32 qq_252 rfl ks_X6_pairOf ⟨rfl, rfl⟩ rfl hl.1 rfl ⟨Nat.le_of_ble_eq_true rfl, Nat.le_of_ble_eq_true rfl⟩ ([] : List Nat) ([] : List Nat) rfl rfl (by decide) (by decide) (by decide) rfl dX4_pairMarked_20 (fun r20 w1 H locs hw hP hD hS => ?_)
      obtain ⟨rfl, rfl⟩ := hw
      have hP : va_P Z.1 vwCl [] H := hP
      have hD : va_D A [] := hD
      refine lv_goto (tgt := 27) hx hb dX4_pairMarked_23 (by decide) ?_
      exact x_iret hC hr hk hP hD hS dX4_pairMarked_27 ⟨by unfold xpm; rw [if_neg h3, if_pos h15], rfl⟩
  · refine lv_iload_n hx hb dX4_pairMarked_6 rfl (lv_at hl 2 rfl) ?_
    refine ln_const 0 hx hb dX4_pairMarked_7 (by decide) ?_
    refine x_SNi (y := yX6_pairOf) (As := [.int (nI t), .int (nI 0)]) (wc := []) (wr := []) hC hP hD hS (c_X6_pairOf l Z t 0) (gCo wq_253) qn_68 qq_32 qq_252 rfl ks_X6_pairOf ⟨rfl, rfl⟩ rfl hl.1 rfl ⟨Nat.le_of_ble_eq_true rfl, Nat.le_of_ble_eq_true rfl⟩ ([] : List Nat) ([] : List Nat) rfl rfl (by decide) (by decide) (by decide) rfl dX4_pairMarked_8 (fun r8 w1 H locs hw hP hD hS => ?_)
    obtain ⟨rfl, rfl⟩ := hw
    have hP : va_P Z.1 vwCl [] H := hP
    have hD : va_D A [] := hD
    exact x_iret hC hr hk hP hD hS dX4_pairMarked_11 ⟨by unfold xpm; rw [if_pos h3]; rfl, rfl⟩

set_option maxHeartbeats 4000000 in
set_option maxRecDepth 100000 in
theorem c_X4_append (l : Launch) (Z : xZ) (hp s0 s1 : Nat) (sz lt : Nat → Nat) (T : Nat → List Nat) (hT : TR T sz lt) (o c1 : Nat) (ho : o < 121) : xMv l Z yX4_append vX4_append ({ frames := 0, cells := 0, slots := 0, locals := 0 } : Room) [.ref hp, .int (nI o), .int (nI c1)] [(hp, .inr (4, [.ref s0, .ref s1])), (s0, xI Z 121 sz), (s1, xI Z 484 lt)] (fun w => ∃ sz2 lt2, TR (xap T o c1) sz2 lt2 ∧ w = [(hp, .inr (4, [.ref s0, .ref s1])), (s0, xI Z 121 sz2), (s1, xI Z 484 lt2)]) := by
  refine x_v (by decide) rfl (Nat.le_of_ble_eq_true rfl) ?_
  intro p e s m args below meth c ls A hC hr hk hname hl hP hD hS
  have hx := hC.1.1
  have hb := hC.1.2.1
  have hml := hC.1.2.2.1
  have hown : s.vm.findClass RX4 = some m.cls := hC.1.2.2.2.1
  have hts := hC.1.2.2.2.2
  have hK := hC.2.1
  have qq_258 := hts (Cond.fieldLink RX4 9 "TagTower$Productions" "sizes" "[I") (List.mem_cons_of_mem _ wq_258)
  have iX4 : ∀ w ∈ wsX40, w ∈ vX4_append := fun w h => List.mem_cons_of_mem _ (wi_X4 w h)
  have qq_259 := hts (Cond.fieldLink RX4 15 "TagTower$Productions" "letters" "[I") (List.mem_cons_of_mem _ wq_259)
  have hl : lv_has ls 3 [(0, .ref hp), (1, .int (nI o)), (2, .int (nI c1))] := hl
  have hP : va_P Z.1 vwCl [(hp, .inr (4, [.ref s0, .ref s1])), (s0, xI Z 121 sz), (s1, xI Z 484 lt)] s.heap := hP
  have hD : va_D A [(hp, .inr (4, [.ref s0, .ref s1])), (s0, xI Z 121 sz), (s1, xI Z 484 lt)] := hD
  obtain ⟨t1, t2, t3⟩ := hT o ho
  refine lv_aload_n hx hb dX4_append_0 rfl (lv_at hl 0 rfl) ?_
  refine va_get (D := Z.1) (ci := 4) (v := .ref s0) (C := RX4) (T := TX4) (N := 2) hx hb hts iX4 hown hK hP 0 rfl rfl 0 (Nat.le_of_ble_eq_true rfl) qq_258 (fun _ h9 => h9) rfl dX4_append_1 ?_
  refine lv_iload_n hx hb dX4_append_4 rfl (lv_at hl 1 rfl) ?_
  refine ln_iald hx hb hK hP 1 rfl (by omega) (by omega) dX4_append_5 ?_
  refine ln_const 4 hx hb dX4_append_6 (by decide) ?_
  refine ln_icmp_ge (tgt := 36) hx hb dX4_append_7 (by decide) (by omega) (by omega) (fun h7 => ?_) (fun h7 => ?_)
  · exact x_vret hC hr hk hP hD hS dX4_append_36 ⟨_, _, by unfold xap; rw [if_neg (by omega)]; exact hT, rfl⟩
  · refine lv_aload_n hx hb dX4_append_10 rfl (lv_at hl 0 rfl) ?_
    refine va_get (D := Z.1) (ci := 4) (v := .ref s1) (C := RX4) (T := TX4) (N := 2) hx hb hts iX4 hown hK hP 0 rfl rfl 1 (Nat.le_of_ble_eq_true rfl) qq_259 (fun _ h9 => h9) rfl dX4_append_11 ?_
    refine lv_iload_n hx hb dX4_append_14 rfl (lv_at hl 1 rfl) ?_
    refine ln_const 4 hx hb dX4_append_15 (by decide) ?_
    refine ln_imul (o * 4) hx hb dX4_append_16 (by first | rfl | omega) ?_
    refine lv_aload_n hx hb dX4_append_17 rfl (lv_at hl 0 rfl) ?_
    refine va_get (D := Z.1) (ci := 4) (v := .ref s0) (C := RX4) (T := TX4) (N := 2) hx hb hts iX4 hown hK hP 0 rfl rfl 0 (Nat.le_of_ble_eq_true rfl) qq_258 (fun _ h9 => h9) rfl dX4_append_18 ?_
    refine lv_iload_n hx hb dX4_append_21 rfl (lv_at hl 1 rfl) ?_
    refine ln_iald hx hb hK hP 1 rfl (by omega) (by omega) dX4_append_22 ?_
    refine ln_iadd ((o * 4) + (sz o)) hx hb dX4_append_23 (by first | rfl | omega) ?_
    refine lv_iload_n hx hb dX4_append_24 rfl (lv_at hl 2 rfl) ?_
    refine ln_iast hx hb hK hP hD hS 2 rfl (by omega) (by omega) dX4_append_25 (fun H locs hP hD hS => ?_)
    have hP : va_P Z.1 vwCl [(hp, .inr (4, [.ref s0, .ref s1])), (s0, xI Z 121 sz), (s1, xI Z 484 (va_up lt ((o * 4) + (sz o)) c1))] H := hP
    have hD : va_D A [(hp, .inr (4, [.ref s0, .ref s1])), (s0, xI Z 121 sz), (s1, xI Z 484 (va_up lt ((o * 4) + (sz o)) c1))] := hD
    refine lv_aload_n hx hb dX4_append_26 rfl (lv_at hl 0 rfl) ?_
    refine va_get (D := Z.1) (ci := 4) (v := .ref s0) (C := RX4) (T := TX4) (N := 2) hx hb hts iX4 hown hK hP 0 rfl rfl 0 (Nat.le_of_ble_eq_true rfl) qq_258 (fun _ h9 => h9) rfl dX4_append_27 ?_
    refine lv_iload_n hx hb dX4_append_30 rfl (lv_at hl 1 rfl) ?_
    refine lv_dup2_11 hx hb dX4_append_31 rfl rfl ?_
    refine ln_iald hx hb hK hP 1 rfl (by omega) (by omega) dX4_append_32 ?_
    refine ln_const 1 hx hb dX4_append_33 (by decide) ?_
    refine ln_iadd ((sz o) + 1) hx hb dX4_append_34 (by first | rfl | omega) ?_
    refine ln_iast hx hb hK hP hD hS 1 rfl (by omega) (by omega) dX4_append_35 (fun H locs hP hD hS => ?_)
    have hP : va_P Z.1 vwCl [(hp, .inr (4, [.ref s0, .ref s1])), (s0, xI Z 121 (va_up sz o ((sz o) + 1))), (s1, xI Z 484 (va_up lt ((o * 4) + (sz o)) c1))] H := hP
    have hD : va_D A [(hp, .inr (4, [.ref s0, .ref s1])), (s0, xI Z 121 (va_up sz o ((sz o) + 1))), (s1, xI Z 484 (va_up lt ((o * 4) + (sz o)) c1))] := hD
    exact x_vret hC hr hk hP hD hS dX4_append_36 ⟨_, _, by unfold xap; rw [if_pos (by omega)]; exact hT.app ho (by omega) c1, rfl⟩

set_option maxHeartbeats 4000000 in
set_option maxRecDepth 100000 in
theorem c_sizeOf (l : Launch) (Z : xZ) (hp s0 s1 : Nat) (sz lt : Nat → Nat) (T : Nat → List Nat) (hT : TR T sz lt) (t : Nat) (ht : t < 1000) : xMi l Z yX4_sizeOf vX4_sizeOf ({ frames := 1, cells := 0, slots := 0, locals := 22 } : Room) [.ref hp, .int (nI t)] [(hp, .inr (4, [.ref s0, .ref s1])), (s0, xI Z 121 sz), (s1, xI Z 484 lt)] (fun r w => r = nI (tapp T t).length ∧ w = [(hp, .inr (4, [.ref s0, .ref s1])), (s0, xI Z 121 sz), (s1, xI Z 484 lt)]) := by
  refine x_i (by decide) rfl (Nat.le_of_ble_eq_true rfl) ?_
  intro p e s m args below meth c ls A hC hr hk hl hP hD hS
  have hx := hC.1.1
  have hb := hC.1.2.1
  have hml := hC.1.2.2.1
  have hown : s.vm.findClass RX4 = some m.cls := hC.1.2.2.2.1
  have hts := hC.1.2.2.2.2
  have hK := hC.2.1
  have qq_32 := hts (Cond.initialized RX6) (List.mem_cons_of_mem _ wq_32)
  have qq_338 := hts (Cond.static yX6_outside) (List.mem_cons_of_mem _ wq_338)
  have qn_71 := hC.2.2.2.1.1 (RX4, 71, yX6_outside, RX6) (List.mem_of_getElem? (i := 7) rfl)
  have qq_258 := hts (Cond.fieldLink RX4 9 "TagTower$Productions" "sizes" "[I") (List.mem_cons_of_mem _ wq_258)
  have iX4 : ∀ w ∈ wsX40, w ∈ vX4_sizeOf := fun w h => List.mem_cons_of_mem _ (wi_X4 w h)
  have hl : lv_has ls 2 [(0, .ref hp), (1, .int (nI t))] := hl
  have hP : va_P Z.1 vwCl [(hp, .inr (4, [.ref s0, .ref s1])), (s0, xI Z 121 sz), (s1, xI Z 484 lt)] s.heap := hP
  have hD : va_D A [(hp, .inr (4, [.ref s0, .ref s1])), (s0, xI Z 121 sz), (s1, xI Z 484 lt)] := hD
  rcases Nat.lt_or_ge t 121 with ht1 | ht1
  · refine lv_iload_n hx hb dX4_sizeOf_0 rfl (lv_at hl 1 rfl) ?_
    refine ln_const 0 hx hb dX4_sizeOf_1 (by decide) ?_
    refine ln_bipush 120 hx hb dX4_sizeOf_2 (by decide) ?_
    refine x_SNi (y := yX6_outside) (As := [.int (nI t), .int (nI 0), .int (nI 120)]) (wc := []) (wr := [(hp, .inr (4, [.ref s0, .ref s1])), (s0, xI Z 121 sz), (s1, xI Z 484 lt)]) hC hP hD hS (c_out_in l Z (nI t) (nI 0) (nI 120) (o_in (by omega) (by omega) (by omega))) (gCo wq_339) qn_71 qq_32 qq_338 rfl ks_X6_outside ⟨rfl, rfl⟩ rfl hl.1 rfl ⟨Nat.le_of_ble_eq_true rfl, Nat.le_of_ble_eq_true rfl⟩ ([] : List Nat) [0, 1, 2] rfl rfl (by decide) (by decide) (by decide) rfl dX4_sizeOf_4 (fun r4 w1 H locs hw hP hD hS => ?_)
    obtain ⟨rfl, rfl⟩ := hw
    have hP : va_P Z.1 vwCl [(hp, .inr (4, [.ref s0, .ref s1])), (s0, xI Z 121 sz), (s1, xI Z 484 lt)] H := hP
    have hD : va_D A [(hp, .inr (4, [.ref s0, .ref s1])), (s0, xI Z 121 sz), (s1, xI Z 484 lt)] := hD
    refine ln_if_eq (tgt := 14) hx hb dX4_sizeOf_7 (by decide) (by omega) (fun h7 => ?_) (fun h7 => False.elim (by omega))
    refine lv_aload_n hx hb dX4_sizeOf_14 rfl (lv_at hl 0 rfl) ?_
    refine va_get (D := Z.1) (ci := 4) (v := .ref s0) (C := RX4) (T := TX4) (N := 2) hx hb hts iX4 hown hK hP 0 rfl rfl 0 (Nat.le_of_ble_eq_true rfl) qq_258 (fun _ h9 => h9) rfl dX4_sizeOf_15 ?_
    refine lv_iload_n hx hb dX4_sizeOf_18 rfl (lv_at hl 1 rfl) ?_
    refine ln_iald hx hb hK hP 1 rfl (by omega) (by omega) dX4_sizeOf_19 ?_
    exact x_iret hC hr hk hP hD hS dX4_sizeOf_20 ⟨by rw [tapp_in ht1, (hT t ht1).1], rfl⟩
  · refine lv_iload_n hx hb dX4_sizeOf_0 rfl (lv_at hl 1 rfl) ?_
    refine ln_const 0 hx hb dX4_sizeOf_1 (by decide) ?_
    refine ln_bipush 120 hx hb dX4_sizeOf_2 (by decide) ?_
    refine x_SNi (y := yX6_outside) (As := [.int (nI t), .int (nI 0), .int (nI 120)]) (wc := []) (wr := [(hp, .inr (4, [.ref s0, .ref s1])), (s0, xI Z 121 sz), (s1, xI Z 484 lt)]) hC hP hD hS (c_out_out l Z (nI t) (nI 0) (nI 120) (by rw [nI_toInt (by omega), nI_toInt (by omega), nI_toInt (by omega)]; omega)) (gCo wq_339) qn_71 qq_32 qq_338 rfl ks_X6_outside ⟨rfl, rfl⟩ rfl hl.1 rfl ⟨Nat.le_of_ble_eq_true rfl, Nat.le_of_ble_eq_true rfl⟩ ([] : List Nat) [0, 1, 2] rfl rfl (by decide) (by decide) (by decide) rfl dX4_sizeOf_4 (fun r4 w1 H locs hw hP hD hS => ?_)
    obtain ⟨rfl, rfl⟩ := hw
    have hP : va_P Z.1 vwCl [(hp, .inr (4, [.ref s0, .ref s1])), (s0, xI Z 121 sz), (s1, xI Z 484 lt)] H := hP
    have hD : va_D A [(hp, .inr (4, [.ref s0, .ref s1])), (s0, xI Z 121 sz), (s1, xI Z 484 lt)] := hD
    refine ln_if_eq (tgt := 14) hx hb dX4_sizeOf_7 (by decide) (by omega) (fun h7 => False.elim (by omega)) (fun h7 => ?_)
    refine ln_const 0 hx hb dX4_sizeOf_10 (by decide) ?_
    refine lv_goto (tgt := 20) hx hb dX4_sizeOf_11 (by decide) ?_
    exact x_iret hC hr hk hP hD hS dX4_sizeOf_20 ⟨by rw [tapp_out ht1]; rfl, rfl⟩

set_option maxHeartbeats 4000000 in
set_option maxRecDepth 100000 in
theorem c_sizeOf_no (l : Launch) (Z : xZ) (hp s0 s1 : Nat) (sz lt : Nat → Nat) : xMi l Z yX4_sizeOf vX4_sizeOf ({ frames := 1, cells := 0, slots := 0, locals := 22 } : Room) [.ref hp, .int ((-9))] [(hp, .inr (4, [.ref s0, .ref s1])), (s0, xI Z 121 sz), (s1, xI Z 484 lt)] (fun r w => r = nI 0 ∧ w = [(hp, .inr (4, [.ref s0, .ref s1])), (s0, xI Z 121 sz), (s1, xI Z 484 lt)]) := by
  refine x_i (by decide) rfl (Nat.le_of_ble_eq_true rfl) ?_
  intro p e s m args below meth c ls A hC hr hk hl hP hD hS
  have hx := hC.1.1
  have hb := hC.1.2.1
  have hml := hC.1.2.2.1
  have hown : s.vm.findClass RX4 = some m.cls := hC.1.2.2.2.1
  have hts := hC.1.2.2.2.2
  have hK := hC.2.1
  have qq_32 := hts (Cond.initialized RX6) (List.mem_cons_of_mem _ wq_32)
  have qq_338 := hts (Cond.static yX6_outside) (List.mem_cons_of_mem _ wq_338)
  have qn_71 := hC.2.2.2.1.1 (RX4, 71, yX6_outside, RX6) (List.mem_of_getElem? (i := 7) rfl)
  have hl : lv_has ls 2 [(0, .ref hp), (1, .int ((-9)))] := hl
  have hP : va_P Z.1 vwCl [(hp, .inr (4, [.ref s0, .ref s1])), (s0, xI Z 121 sz), (s1, xI Z 484 lt)] s.heap := hP
  have hD : va_D A [(hp, .inr (4, [.ref s0, .ref s1])), (s0, xI Z 121 sz), (s1, xI Z 484 lt)] := hD
  refine lv_iload_n hx hb dX4_sizeOf_0 rfl (lv_at hl 1 rfl) ?_
  refine ln_const 0 hx hb dX4_sizeOf_1 (by decide) ?_
  refine ln_bipush 120 hx hb dX4_sizeOf_2 (by decide) ?_
  refine x_SNi (y := yX6_outside) (As := [.int ((-9)), .int (nI 0), .int (nI 120)]) (wc := []) (wr := [(hp, .inr (4, [.ref s0, .ref s1])), (s0, xI Z 121 sz), (s1, xI Z 484 lt)]) hC hP hD hS (c_out_out l Z ((-9)) (nI 0) (nI 120) (by decide)) (gCo wq_339) qn_71 qq_32 qq_338 rfl ks_X6_outside ⟨rfl, rfl⟩ rfl hl.1 rfl ⟨Nat.le_of_ble_eq_true rfl, Nat.le_of_ble_eq_true rfl⟩ ([] : List Nat) [0, 1, 2] rfl rfl (by decide) (by decide) (by decide) rfl dX4_sizeOf_4 (fun r4 w1 H locs hw hP hD hS => ?_)
  obtain ⟨rfl, rfl⟩ := hw
  have hP : va_P Z.1 vwCl [(hp, .inr (4, [.ref s0, .ref s1])), (s0, xI Z 121 sz), (s1, xI Z 484 lt)] H := hP
  have hD : va_D A [(hp, .inr (4, [.ref s0, .ref s1])), (s0, xI Z 121 sz), (s1, xI Z 484 lt)] := hD
  refine ln_if_eq (tgt := 14) hx hb dX4_sizeOf_7 (by decide) (by omega) (fun h7 => False.elim (by omega)) (fun h7 => ?_)
  refine ln_const 0 hx hb dX4_sizeOf_10 (by decide) ?_
  refine lv_goto (tgt := 20) hx hb dX4_sizeOf_11 (by decide) ?_
  exact x_iret hC hr hk hP hD hS dX4_sizeOf_20 ⟨rfl, rfl⟩

theorem kv_X4_sizeOf : yX4_sizeOf.cls = RX4 ∧ yX4_sizeOf.cls ≠ "java/lang/invoke/MethodHandle" ∧ yX4_sizeOf.cls ≠ "java/lang/invoke/VarHandle" ∧ (parseMethodDescriptor yX4_sizeOf.desc).map (fun d => d.parameters.length) = some 1 := by decide +kernel
set_option maxHeartbeats 4000000 in
set_option maxRecDepth 100000 in
theorem c_letterAt_in (l : Launch) (Z : xZ) (hp s0 s1 : Nat) (sz lt : Nat → Nat) (T : Nat → List Nat) (hT : TR T sz lt) (c1 j : Nat) (hc1 : c1 < 121) (hj : j < (T c1).length) : xMi l Z yX4_letterAt vX4_letterAt ({ frames := 2, cells := 0, slots := 0, locals := 43 } : Room) [.ref hp, .int (nI c1), .int (nI j)] [(hp, .inr (4, [.ref s0, .ref s1])), (s0, xI Z 121 sz), (s1, xI Z 484 lt)] (fun r w => r = nI ((T c1).getD j 0) ∧ w = [(hp, .inr (4, [.ref s0, .ref s1])), (s0, xI Z 121 sz), (s1, xI Z 484 lt)]) := by
  refine x_i (by decide) rfl (Nat.le_of_ble_eq_true rfl) ?_
  intro p e s m args below meth c ls A hC hr hk hl hP hD hS
  have hx := hC.1.1
  have hb := hC.1.2.1
  have hml := hC.1.2.2.1
  have hown : s.vm.findClass RX4 = some m.cls := hC.1.2.2.2.1
  have hts := hC.1.2.2.2.2
  have hK := hC.2.1
  have qq_32 := hts (Cond.initialized RX6) (List.mem_cons_of_mem _ wq_32)
  have qq_338 := hts (Cond.static yX6_outside) (List.mem_cons_of_mem _ wq_338)
  have qn_71 := hC.2.2.2.1.1 (RX4, 71, yX6_outside, RX6) (List.mem_of_getElem? (i := 7) rfl)
  have qq_259 := hts (Cond.fieldLink RX4 15 "TagTower$Productions" "letters" "[I") (List.mem_cons_of_mem _ wq_259)
  have iX4 : ∀ w ∈ wsX40, w ∈ vX4_letterAt := fun w h => List.mem_cons_of_mem _ (wi_X4 w h)
  have hl : lv_has ls 3 [(0, .ref hp), (1, .int (nI c1)), (2, .int (nI j))] := hl
  have hP : va_P Z.1 vwCl [(hp, .inr (4, [.ref s0, .ref s1])), (s0, xI Z 121 sz), (s1, xI Z 484 lt)] s.heap := hP
  have hD : va_D A [(hp, .inr (4, [.ref s0, .ref s1])), (s0, xI Z 121 sz), (s1, xI Z 484 lt)] := hD
  obtain ⟨t1, t2, t3⟩ := hT c1 hc1
  have t4 := tapp_in (T := T) hc1
  refine lv_iload_n hx hb dX4_letterAt_0 rfl (lv_at hl 2 rfl) ?_
  refine ln_const 0 hx hb dX4_letterAt_1 (by decide) ?_
  refine lv_aload_n hx hb dX4_letterAt_2 rfl (lv_at hl 0 rfl) ?_
  refine lv_iload_n hx hb dX4_letterAt_3 rfl (lv_at hl 1 rfl) ?_
  refine x_Vi (y := yX4_sizeOf) (As := [.int (nI c1)]) (wc := [(hp, .inr (4, [.ref s0, .ref s1])), (s0, xI Z 121 sz), (s1, xI Z 484 lt)]) (wr := []) hC hP hD hS (c_sizeOf l Z hp s0 s1 sz lt T hT c1 (by omega)) (gV wq_478 wq_475 wq_476 wq_477 wq_35) rfl kv_X4_sizeOf rfl rfl ⟨rfl, rfl⟩ rfl hl.1 rfl ⟨Nat.le_of_ble_eq_true rfl, Nat.le_of_ble_eq_true rfl⟩ [0, 1, 2] ([] : List Nat) rfl rfl (by decide) (by decide) (by decide) rfl dX4_letterAt_4 (fun r4 w1 H locs hw hP hD hS => ?_)
  obtain ⟨rfl, rfl⟩ := hw
  have hP : va_P Z.1 vwCl [(hp, .inr (4, [.ref s0, .ref s1])), (s0, xI Z 121 sz), (s1, xI Z 484 lt)] H := hP
  have hD : va_D A [(hp, .inr (4, [.ref s0, .ref s1])), (s0, xI Z 121 sz), (s1, xI Z 484 lt)] := hD
  rw [t4]
  refine ln_const 1 hx hb dX4_letterAt_7 (by decide) ?_
  refine ln_isub (((T c1).length) - 1) hx hb dX4_letterAt_8 (by omega) (by first | rfl | omega) ?_
  refine x_SNi (y := yX6_outside) (As := [.int (nI j), .int (nI 0), .int (nI (((T c1).length) - 1))]) (wc := []) (wr := [(hp, .inr (4, [.ref s0, .ref s1])), (s0, xI Z 121 sz), (s1, xI Z 484 lt)]) hC hP hD hS (c_out_in l Z (nI j) (nI 0) (nI (((T c1).length) - 1)) (o_in (by omega) (by omega) (by omega))) (gCo wq_339) qn_71 qq_32 qq_338 rfl ks_X6_outside ⟨rfl, rfl⟩ rfl hl.1 rfl ⟨Nat.le_of_ble_eq_true rfl, Nat.le_of_ble_eq_true rfl⟩ ([] : List Nat) [0, 1, 2] rfl rfl (by decide) (by decide) (by decide) rfl dX4_letterAt_9 (fun r9 w1 H locs hw hP hD hS => ?_)
  obtain ⟨rfl, rfl⟩ := hw
  have hP : va_P Z.1 vwCl [(hp, .inr (4, [.ref s0, .ref s1])), (s0, xI Z 121 sz), (s1, xI Z 484 lt)] H := hP
  have hD : va_D A [(hp, .inr (4, [.ref s0, .ref s1])), (s0, xI Z 121 sz), (s1, xI Z 484 lt)] := hD
  refine ln_if_eq (tgt := 20) hx hb dX4_letterAt_12 (by decide) (by omega) (fun h12 => ?_) (fun h12 => False.elim (by omega))
  refine lv_aload_n hx hb dX4_letterAt_20 rfl (lv_at hl 0 rfl) ?_
  refine va_get (D := Z.1) (ci := 4) (v := .ref s1) (C := RX4) (T := TX4) (N := 2) hx hb hts iX4 hown hK hP 0 rfl rfl 1 (Nat.le_of_ble_eq_true rfl) qq_259 (fun _ h9 => h9) rfl dX4_letterAt_21 ?_
  refine lv_iload_n hx hb dX4_letterAt_24 rfl (lv_at hl 1 rfl) ?_
  refine ln_const 4 hx hb dX4_letterAt_25 (by decide) ?_
  refine ln_imul (c1 * 4) hx hb dX4_letterAt_26 (by first | rfl | omega) ?_
  refine lv_iload_n hx hb dX4_letterAt_27 rfl (lv_at hl 2 rfl) ?_
  refine ln_iadd ((c1 * 4) + j) hx hb dX4_letterAt_28 (by first | rfl | omega) ?_
  refine ln_iald hx hb hK hP 2 rfl (by omega) (by omega) dX4_letterAt_29 ?_
  exact x_iret hC hr hk hP hD hS dX4_letterAt_30 ⟨by rw [t3 j hj], rfl⟩

set_option maxHeartbeats 4000000 in
set_option maxRecDepth 100000 in
theorem c_letterAt_out (l : Launch) (Z : xZ) (hp s0 s1 : Nat) (sz lt : Nat → Nat) (T : Nat → List Nat) (hT : TR T sz lt) (c1 : Nat) (j : Int32) (hc1 : c1 < 121) (hj : ¬ (0 ≤ j.toInt ∧ j.toInt < ((T c1).length : Int))) : xMi l Z yX4_letterAt vX4_letterAt ({ frames := 2, cells := 0, slots := 0, locals := 43 } : Room) [.ref hp, .int (nI c1), .int j] [(hp, .inr (4, [.ref s0, .ref s1])), (s0, xI Z 121 sz), (s1, xI Z 484 lt)] (fun r w => r = -9 ∧ w = [(hp, .inr (4, [.ref s0, .ref s1])), (s0, xI Z 121 sz), (s1, xI Z 484 lt)]) := by
  refine x_i (by decide) rfl (Nat.le_of_ble_eq_true rfl) ?_
  intro p e s m args below meth c ls A hC hr hk hl hP hD hS
  have hx := hC.1.1
  have hb := hC.1.2.1
  have hml := hC.1.2.2.1
  have hown : s.vm.findClass RX4 = some m.cls := hC.1.2.2.2.1
  have hts := hC.1.2.2.2.2
  have hK := hC.2.1
  have qq_32 := hts (Cond.initialized RX6) (List.mem_cons_of_mem _ wq_32)
  have qq_338 := hts (Cond.static yX6_outside) (List.mem_cons_of_mem _ wq_338)
  have qn_71 := hC.2.2.2.1.1 (RX4, 71, yX6_outside, RX6) (List.mem_of_getElem? (i := 7) rfl)
  have hl : lv_has ls 3 [(0, .ref hp), (1, .int (nI c1)), (2, .int j)] := hl
  have hP : va_P Z.1 vwCl [(hp, .inr (4, [.ref s0, .ref s1])), (s0, xI Z 121 sz), (s1, xI Z 484 lt)] s.heap := hP
  have hD : va_D A [(hp, .inr (4, [.ref s0, .ref s1])), (s0, xI Z 121 sz), (s1, xI Z 484 lt)] := hD
  obtain ⟨t1, t2, t3⟩ := hT c1 hc1
  have t4 := tapp_in (T := T) hc1
  refine lv_iload_n hx hb dX4_letterAt_0 rfl (lv_at hl 2 rfl) ?_
  refine ln_const 0 hx hb dX4_letterAt_1 (by decide) ?_
  refine lv_aload_n hx hb dX4_letterAt_2 rfl (lv_at hl 0 rfl) ?_
  refine lv_iload_n hx hb dX4_letterAt_3 rfl (lv_at hl 1 rfl) ?_
  refine x_Vi (y := yX4_sizeOf) (As := [.int (nI c1)]) (wc := [(hp, .inr (4, [.ref s0, .ref s1])), (s0, xI Z 121 sz), (s1, xI Z 484 lt)]) (wr := []) hC hP hD hS (c_sizeOf l Z hp s0 s1 sz lt T hT c1 (by omega)) (gV wq_478 wq_475 wq_476 wq_477 wq_35) rfl kv_X4_sizeOf rfl rfl ⟨rfl, rfl⟩ rfl hl.1 rfl ⟨Nat.le_of_ble_eq_true rfl, Nat.le_of_ble_eq_true rfl⟩ [0, 1, 2] ([] : List Nat) rfl rfl (by decide) (by decide) (by decide) rfl dX4_letterAt_4 (fun r4 w1 H locs hw hP hD hS => ?_)
  obtain ⟨rfl, rfl⟩ := hw
  have hP : va_P Z.1 vwCl [(hp, .inr (4, [.ref s0, .ref s1])), (s0, xI Z 121 sz), (s1, xI Z 484 lt)] H := hP
  have hD : va_D A [(hp, .inr (4, [.ref s0, .ref s1])), (s0, xI Z 121 sz), (s1, xI Z 484 lt)] := hD
  rw [t4]
  refine ln_const 1 hx hb dX4_letterAt_7 (by decide) ?_
  refine lv_isub hx hb dX4_letterAt_8 ?_
  refine x_SNi (y := yX6_outside) (As := [.int j, .int (nI 0), .int ((nI ((T c1).length)) - (nI 1))]) (wc := []) (wr := [(hp, .inr (4, [.ref s0, .ref s1])), (s0, xI Z 121 sz), (s1, xI Z 484 lt)]) hC hP hD hS (c_out_out l Z j (nI 0) ((nI ((T c1).length)) - (nI 1)) (by rw [nI_toInt (by omega), pk_sub_toInt (by omega) (by omega)]; omega)) (gCo wq_339) qn_71 qq_32 qq_338 rfl ks_X6_outside ⟨rfl, rfl⟩ rfl hl.1 rfl ⟨Nat.le_of_ble_eq_true rfl, Nat.le_of_ble_eq_true rfl⟩ ([] : List Nat) [0, 1, 2] rfl rfl (by decide) (by decide) (by decide) rfl dX4_letterAt_9 (fun r9 w1 H locs hw hP hD hS => ?_)
  obtain ⟨rfl, rfl⟩ := hw
  have hP : va_P Z.1 vwCl [(hp, .inr (4, [.ref s0, .ref s1])), (s0, xI Z 121 sz), (s1, xI Z 484 lt)] H := hP
  have hD : va_D A [(hp, .inr (4, [.ref s0, .ref s1])), (s0, xI Z 121 sz), (s1, xI Z 484 lt)] := hD
  refine ln_if_eq (tgt := 20) hx hb dX4_letterAt_12 (by decide) (by omega) (fun h12 => False.elim (by omega)) (fun h12 => ?_)
  refine lv_bipush (v := (-9)) hx hb dX4_letterAt_15 (by decide) ?_
  refine lv_goto (tgt := 30) hx hb dX4_letterAt_17 (by decide) ?_
  exact x_iret hC hr hk hP hD hS dX4_letterAt_30 ⟨rfl, rfl⟩

theorem kv_X4_letterAt : yX4_letterAt.cls = RX4 ∧ yX4_letterAt.cls ≠ "java/lang/invoke/MethodHandle" ∧ yX4_letterAt.cls ≠ "java/lang/invoke/VarHandle" ∧ (parseMethodDescriptor yX4_letterAt.desc).map (fun d => d.parameters.length) = some 2 := by decide +kernel
theorem ks_X6_oneIf : yX6_oneIf.cls ≠ "java/lang/invoke/MethodHandle" ∧ yX6_oneIf.cls ≠ "java/lang/invoke/VarHandle" ∧ (parseMethodDescriptor yX6_oneIf.desc).map (fun d => d.parameters.length) = some 1 := by decide +kernel
set_option maxHeartbeats 4000000 in
set_option maxRecDepth 100000 in
theorem c_bitAt_in (l : Launch) (Z : xZ) (hp s0 s1 : Nat) (sz lt : Nat → Nat) (T : Nat → List Nat) (hT : TR T sz lt) (t k : Nat) (ht : t < 242) (hk2 : k < 121 * (tapp T t).length) (h121 : ∀ z ∈ tapp T t, z < 121) : xMi l Z yX4_bitAt vX4_bitAt ({ frames := 3, cells := 0, slots := 0, locals := 65 } : Room) [.ref hp, .int (nI t), .int (nI k)] [(hp, .inr (4, [.ref s0, .ref s1])), (s0, xI Z 121 sz), (s1, xI Z 484 lt)] (fun r w => r = nI (if (tapp T t).getD (k / 121) 0 = k % 121 then 1 else 0) ∧ w = [(hp, .inr (4, [.ref s0, .ref s1])), (s0, xI Z 121 sz), (s1, xI Z 484 lt)]) := by
  refine x_i (by decide) rfl (Nat.le_of_ble_eq_true rfl) ?_
  intro p e s m args below meth c ls A hC hr hk hl hP hD hS
  have hx := hC.1.1
  have hb := hC.1.2.1
  have hml := hC.1.2.2.1
  have hown : s.vm.findClass RX4 = some m.cls := hC.1.2.2.2.1
  have hts := hC.1.2.2.2.2
  have hK := hC.2.1
  have qq_32 := hts (Cond.initialized RX6) (List.mem_cons_of_mem _ wq_32)
  have qq_338 := hts (Cond.static yX6_outside) (List.mem_cons_of_mem _ wq_338)
  have qn_71 := hC.2.2.2.1.1 (RX4, 71, yX6_outside, RX6) (List.mem_of_getElem? (i := 7) rfl)
  have qq_465 := hts (Cond.static yX6_oneIf) (List.mem_cons_of_mem _ wq_465)
  have qn_81 := hC.2.2.2.1.1 (RX4, 81, yX6_oneIf, RX6) (List.mem_of_getElem? (i := 9) rfl)
  have hl : lv_has ls 3 [(0, .ref hp), (1, .int (nI t)), (2, .int (nI k))] := hl
  have hP : va_P Z.1 vwCl [(hp, .inr (4, [.ref s0, .ref s1])), (s0, xI Z 121 sz), (s1, xI Z 484 lt)] s.heap := hP
  have hD : va_D A [(hp, .inr (4, [.ref s0, .ref s1])), (s0, xI Z 121 sz), (s1, xI Z 484 lt)] := hD
  have ht1 : t < 121 := by
    rcases Nat.lt_or_ge t 121 with q | q
    · exact q
    · rw [tapp_out q] at hk2; simp at hk2
  obtain ⟨t1, t2, t3⟩ := hT t ht1
  have t4 := tapp_in (T := T) ht1
  have t5 := h121 _ (getD_mem (i := k / 121) (by omega))
  rw [t4] at hk2 t5 ⊢
  refine lv_iload_n hx hb dX4_bitAt_0 rfl (lv_at hl 2 rfl) ?_
  refine ln_const 0 hx hb dX4_bitAt_1 (by decide) ?_
  refine lv_aload_n hx hb dX4_bitAt_2 rfl (lv_at hl 0 rfl) ?_
  refine lv_iload_n hx hb dX4_bitAt_3 rfl (lv_at hl 1 rfl) ?_
  refine x_Vi (y := yX4_sizeOf) (As := [.int (nI t)]) (wc := [(hp, .inr (4, [.ref s0, .ref s1])), (s0, xI Z 121 sz), (s1, xI Z 484 lt)]) (wr := []) hC hP hD hS (c_sizeOf l Z hp s0 s1 sz lt T hT t (by omega)) (gV wq_478 wq_475 wq_476 wq_477 wq_35) rfl kv_X4_sizeOf rfl rfl ⟨rfl, rfl⟩ rfl hl.1 rfl ⟨Nat.le_of_ble_eq_true rfl, Nat.le_of_ble_eq_true rfl⟩ [0, 1, 2] ([] : List Nat) rfl rfl (by decide) (by decide) (by decide) rfl dX4_bitAt_4 (fun r4 w1 H locs hw hP hD hS => ?_)
  obtain ⟨rfl, rfl⟩ := hw
  have hP : va_P Z.1 vwCl [(hp, .inr (4, [.ref s0, .ref s1])), (s0, xI Z 121 sz), (s1, xI Z 484 lt)] H := hP
  have hD : va_D A [(hp, .inr (4, [.ref s0, .ref s1])), (s0, xI Z 121 sz), (s1, xI Z 484 lt)] := hD
  rw [t4]
  refine ln_bipush 121 hx hb dX4_bitAt_7 (by decide) ?_
  refine ln_imul (((T t).length) * 121) hx hb dX4_bitAt_9 (by first | rfl | omega) ?_
  refine ln_const 1 hx hb dX4_bitAt_10 (by decide) ?_
  refine ln_isub ((((T t).length) * 121) - 1) hx hb dX4_bitAt_11 (by omega) (by first | rfl | omega) ?_
  refine x_SNi (y := yX6_outside) (As := [.int (nI k), .int (nI 0), .int (nI ((((T t).length) * 121) - 1))]) (wc := []) (wr := [(hp, .inr (4, [.ref s0, .ref s1])), (s0, xI Z 121 sz), (s1, xI Z 484 lt)]) hC hP hD hS (c_out_in l Z (nI k) (nI 0) (nI ((((T t).length) * 121) - 1)) (o_in (by omega) (by omega) (by omega))) (gCo wq_339) qn_71 qq_32 qq_338 rfl ks_X6_outside ⟨rfl, rfl⟩ rfl hl.1 rfl ⟨Nat.le_of_ble_eq_true rfl, Nat.le_of_ble_eq_true rfl⟩ ([] : List Nat) [0, 1, 2] rfl rfl (by decide) (by decide) (by decide) rfl dX4_bitAt_12 (fun r12 w1 H locs hw hP hD hS => ?_)
  obtain ⟨rfl, rfl⟩ := hw
  have hP : va_P Z.1 vwCl [(hp, .inr (4, [.ref s0, .ref s1])), (s0, xI Z 121 sz), (s1, xI Z 484 lt)] H := hP
  have hD : va_D A [(hp, .inr (4, [.ref s0, .ref s1])), (s0, xI Z 121 sz), (s1, xI Z 484 lt)] := hD
  refine ln_if_eq (tgt := 21) hx hb dX4_bitAt_15 (by decide) (by omega) (fun h15 => ?_) (fun h15 => False.elim (by omega))
  refine lv_aload_n hx hb dX4_bitAt_21 rfl (lv_at hl 0 rfl) ?_
  refine lv_iload_n hx hb dX4_bitAt_22 rfl (lv_at hl 1 rfl) ?_
  refine lv_iload_n hx hb dX4_bitAt_23 rfl (lv_at hl 2 rfl) ?_
  refine ln_bipush 121 hx hb dX4_bitAt_24 (by decide) ?_
  refine ln_idiv (k / 121) hx hb dX4_bitAt_26 (by omega) (by omega) (by omega) (by first | rfl | omega) ?_
  refine x_Vi (y := yX4_letterAt) (As := [.int (nI t), .int (nI (k / 121))]) (wc := [(hp, .inr (4, [.ref s0, .ref s1])), (s0, xI Z 121 sz), (s1, xI Z 484 lt)]) (wr := []) hC hP hD hS (c_letterAt_in l Z hp s0 s1 sz lt T hT t (k / 121) (by omega) (by omega)) (gV wq_474 wq_593 wq_472 wq_473 wq_35) rfl kv_X4_letterAt rfl rfl ⟨rfl, rfl⟩ rfl hl.1 rfl ⟨Nat.le_of_ble_eq_true rfl, Nat.le_of_ble_eq_true rfl⟩ [0, 1, 2] ([] : List Nat) rfl rfl (by decide) (by decide) (by decide) rfl dX4_bitAt_27 (fun r27 w1 H locs hw hP hD hS => ?_)
  obtain ⟨rfl, rfl⟩ := hw
  have hP : va_P Z.1 vwCl [(hp, .inr (4, [.ref s0, .ref s1])), (s0, xI Z 121 sz), (s1, xI Z 484 lt)] H := hP
  have hD : va_D A [(hp, .inr (4, [.ref s0, .ref s1])), (s0, xI Z 121 sz), (s1, xI Z 484 lt)] := hD
  refine lv_iload_n hx hb dX4_bitAt_30 rfl (lv_at hl 2 rfl) ?_
  refine ln_bipush 121 hx hb dX4_bitAt_31 (by decide) ?_
  refine ln_irem (k % 121) hx hb dX4_bitAt_33 (by omega) (by omega) (by omega) (by first | rfl | omega) ?_
  refine ln_icmp_ne (tgt := 41) hx hb dX4_bitAt_34 (by decide) (by omega) (by omega) (fun h34 => ?_) (fun h34 => ?_)
  · refine ln_const 0 hx hb dX4_bitAt_41 (by decide) ?_
    refine x_SNi (y := yX6_oneIf) (As := [.int (nI 0)]) (wc := []) (wr := [(hp, .inr (4, [.ref s0, .ref s1])), (s0, xI Z 121 sz), (s1, xI Z 484 lt)]) hC hP hD hS (c_X6_oneIf l Z 0 (by omega)) (gCo wq_466) qn_81 qq_32 qq_465 rfl ks_X6_oneIf ⟨rfl, rfl⟩ rfl hl.1 rfl ⟨Nat.le_of_ble_eq_true rfl, Nat.le_of_ble_eq_true rfl⟩ ([] : List Nat) [0, 1, 2] rfl rfl (by decide) (by decide) (by decide) rfl dX4_bitAt_42 (fun r42 w1 H locs hw hP hD hS => ?_)
    obtain ⟨rfl, rfl⟩ := hw
    have hP : va_P Z.1 vwCl [(hp, .inr (4, [.ref s0, .ref s1])), (s0, xI Z 121 sz), (s1, xI Z 484 lt)] H := hP
    have hD : va_D A [(hp, .inr (4, [.ref s0, .ref s1])), (s0, xI Z 121 sz), (s1, xI Z 484 lt)] := hD
    exact x_iret hC hr hk hP hD hS dX4_bitAt_45 ⟨by rw [if_neg (by omega)], rfl⟩
  · refine ln_const 1 hx hb dX4_bitAt_37 (by decide) ?_
    refine lv_goto (tgt := 42) hx hb dX4_bitAt_38 (by decide) ?_
    refine x_SNi (y := yX6_oneIf) (As := [.int (nI 1)]) (wc := []) (wr := [(hp, .inr (4, [.ref s0, .ref s1])), (s0, xI Z 121 sz), (s1, xI Z 484 lt)]) hC hP hD hS (c_X6_oneIf l Z 1 (by omega)) (gCo wq_466) qn_81 qq_32 qq_465 rfl ks_X6_oneIf ⟨rfl, rfl⟩ rfl hl.1 rfl ⟨Nat.le_of_ble_eq_true rfl, Nat.le_of_ble_eq_true rfl⟩ ([] : List Nat) [0, 1, 2] rfl rfl (by decide) (by decide) (by decide) rfl dX4_bitAt_42 (fun r42 w1 H locs hw hP hD hS => ?_)
    obtain ⟨rfl, rfl⟩ := hw
    have hP : va_P Z.1 vwCl [(hp, .inr (4, [.ref s0, .ref s1])), (s0, xI Z 121 sz), (s1, xI Z 484 lt)] H := hP
    have hD : va_D A [(hp, .inr (4, [.ref s0, .ref s1])), (s0, xI Z 121 sz), (s1, xI Z 484 lt)] := hD
    exact x_iret hC hr hk hP hD hS dX4_bitAt_45 ⟨by rw [if_pos (by omega)], rfl⟩

set_option maxHeartbeats 4000000 in
set_option maxRecDepth 100000 in
theorem c_bitAt_out (l : Launch) (Z : xZ) (hp s0 s1 : Nat) (sz lt : Nat → Nat) (T : Nat → List Nat) (hT : TR T sz lt) (t : Nat) (k : Int32) (ht : t < 242) (hk2 : ¬ (0 ≤ k.toInt ∧ k.toInt < (121 * (tapp T t).length : Nat))) : xMi l Z yX4_bitAt vX4_bitAt ({ frames := 2, cells := 0, slots := 0, locals := 43 } : Room) [.ref hp, .int (nI t), .int k] [(hp, .inr (4, [.ref s0, .ref s1])), (s0, xI Z 121 sz), (s1, xI Z 484 lt)] (fun r w => r = -9 ∧ w = [(hp, .inr (4, [.ref s0, .ref s1])), (s0, xI Z 121 sz), (s1, xI Z 484 lt)]) := by
  refine x_i (by decide) rfl (Nat.le_of_ble_eq_true rfl) ?_
  intro p e s m args below meth c ls A hC hr hk hl hP hD hS
  have hx := hC.1.1
  have hb := hC.1.2.1
  have hml := hC.1.2.2.1
  have hown : s.vm.findClass RX4 = some m.cls := hC.1.2.2.2.1
  have hts := hC.1.2.2.2.2
  have hK := hC.2.1
  have qq_32 := hts (Cond.initialized RX6) (List.mem_cons_of_mem _ wq_32)
  have qq_338 := hts (Cond.static yX6_outside) (List.mem_cons_of_mem _ wq_338)
  have qn_71 := hC.2.2.2.1.1 (RX4, 71, yX6_outside, RX6) (List.mem_of_getElem? (i := 7) rfl)
  have hl : lv_has ls 3 [(0, .ref hp), (1, .int (nI t)), (2, .int k)] := hl
  have hP : va_P Z.1 vwCl [(hp, .inr (4, [.ref s0, .ref s1])), (s0, xI Z 121 sz), (s1, xI Z 484 lt)] s.heap := hP
  have hD : va_D A [(hp, .inr (4, [.ref s0, .ref s1])), (s0, xI Z 121 sz), (s1, xI Z 484 lt)] := hD
  have t4 : (tapp T t).length ≤ 4 := by
    rcases Nat.lt_or_ge t 121 with q | q
    · rw [tapp_in q]; exact (hT t q).2.1
    · rw [tapp_out q]; simp
  refine lv_iload_n hx hb dX4_bitAt_0 rfl (lv_at hl 2 rfl) ?_
  refine ln_const 0 hx hb dX4_bitAt_1 (by decide) ?_
  refine lv_aload_n hx hb dX4_bitAt_2 rfl (lv_at hl 0 rfl) ?_
  refine lv_iload_n hx hb dX4_bitAt_3 rfl (lv_at hl 1 rfl) ?_
  refine x_Vi (y := yX4_sizeOf) (As := [.int (nI t)]) (wc := [(hp, .inr (4, [.ref s0, .ref s1])), (s0, xI Z 121 sz), (s1, xI Z 484 lt)]) (wr := []) hC hP hD hS (c_sizeOf l Z hp s0 s1 sz lt T hT t (by omega)) (gV wq_478 wq_475 wq_476 wq_477 wq_35) rfl kv_X4_sizeOf rfl rfl ⟨rfl, rfl⟩ rfl hl.1 rfl ⟨Nat.le_of_ble_eq_true rfl, Nat.le_of_ble_eq_true rfl⟩ [0, 1, 2] ([] : List Nat) rfl rfl (by decide) (by decide) (by decide) rfl dX4_bitAt_4 (fun r4 w1 H locs hw hP hD hS => ?_)
  obtain ⟨rfl, rfl⟩ := hw
  have hP : va_P Z.1 vwCl [(hp, .inr (4, [.ref s0, .ref s1])), (s0, xI Z 121 sz), (s1, xI Z 484 lt)] H := hP
  have hD : va_D A [(hp, .inr (4, [.ref s0, .ref s1])), (s0, xI Z 121 sz), (s1, xI Z 484 lt)] := hD
  refine ln_bipush 121 hx hb dX4_bitAt_7 (by decide) ?_
  refine ln_imul (((tapp T t).length) * 121) hx hb dX4_bitAt_9 (by first | rfl | omega) ?_
  refine ln_const 1 hx hb dX4_bitAt_10 (by decide) ?_
  refine lv_isub hx hb dX4_bitAt_11 ?_
  refine x_SNi (y := yX6_outside) (As := [.int k, .int (nI 0), .int ((nI (((tapp T t).length) * 121)) - (nI 1))]) (wc := []) (wr := [(hp, .inr (4, [.ref s0, .ref s1])), (s0, xI Z 121 sz), (s1, xI Z 484 lt)]) hC hP hD hS (c_out_out l Z k (nI 0) ((nI (((tapp T t).length) * 121)) - (nI 1)) (by rw [nI_toInt (by omega), pk_sub_toInt (by omega) (by omega)]; omega)) (gCo wq_339) qn_71 qq_32 qq_338 rfl ks_X6_outside ⟨rfl, rfl⟩ rfl hl.1 rfl ⟨Nat.le_of_ble_eq_true rfl, Nat.le_of_ble_eq_true rfl⟩ ([] : List Nat) [0, 1, 2] rfl rfl (by decide) (by decide) (by decide) rfl dX4_bitAt_12 (fun r12 w1 H locs hw hP hD hS => ?_)
  obtain ⟨rfl, rfl⟩ := hw
  have hP : va_P Z.1 vwCl [(hp, .inr (4, [.ref s0, .ref s1])), (s0, xI Z 121 sz), (s1, xI Z 484 lt)] H := hP
  have hD : va_D A [(hp, .inr (4, [.ref s0, .ref s1])), (s0, xI Z 121 sz), (s1, xI Z 484 lt)] := hD
  refine ln_if_eq (tgt := 21) hx hb dX4_bitAt_15 (by decide) (by omega) (fun h15 => False.elim (by omega)) (fun h15 => ?_)
  refine lv_bipush (v := (-9)) hx hb dX4_bitAt_18 (by decide) ?_
  exact x_iret hC hr hk hP hD hS dX4_bitAt_20 ⟨rfl, rfl⟩

set_option maxHeartbeats 4000000 in
set_option maxRecDepth 100000 in
theorem c_X4_appendTo (l : Launch) (Z : xZ) (hp s0 s1 : Nat) (sz lt : Nat → Nat) (T : Nat → List Nat) (hT : TR T sz lt) (h a N hd sz1 : Nat) (g : Nat → Nat) (L : List Nat) (hN : N < 1000000) (hR : RR N hd g L) (hsz : sz1 = L.length) (t : Nat) (ht : t < 242) (hfit : L.length + (tapp T t).length ≤ N) : xMv l Z yX4_appendTo vX4_appendTo ({ frames := 2, cells := 0, slots := 0, locals := 43 } : Room) [.ref hp, .ref h, .int (nI t)] [(hp, .inr (4, [.ref s0, .ref s1])), (s0, xI Z 121 sz), (s1, xI Z 484 lt), (h, .inr (2, [.ref a, .int (nI hd), .int (nI sz1)])), (a, xI Z N g)] (fun w => ∃ g2, RR N hd g2 (L ++ tapp T t) ∧ w = [(hp, .inr (4, [.ref s0, .ref s1])), (s0, xI Z 121 sz), (s1, xI Z 484 lt), (h, .inr (2, [.ref a, .int (nI hd), .int (nI (sz1 + (tapp T t).length))])), (a, xI Z N g2)]) := by
  refine x_v (by decide) rfl (Nat.le_of_ble_eq_true rfl) ?_
  intro p e s m args below meth c ls A hC hr hk hname hl hP hD hS
  have hx := hC.1.1
  have hb := hC.1.2.1
  have hml := hC.1.2.2.1
  have hown : s.vm.findClass RX4 = some m.cls := hC.1.2.2.2.1
  have hts := hC.1.2.2.2.2
  have hK := hC.2.1
  have qq_259 := hts (Cond.fieldLink RX4 15 "TagTower$Productions" "letters" "[I") (List.mem_cons_of_mem _ wq_259)
  have iX4 : ∀ w ∈ wsX40, w ∈ vX4_appendTo := fun w h => List.mem_cons_of_mem _ (wi_X4 w h)
  have hl : lv_has ls 6 [(0, .ref hp), (1, .ref h), (2, .int (nI t))] := hl
  have hP : va_P Z.1 vwCl [(hp, .inr (4, [.ref s0, .ref s1])), (s0, xI Z 121 sz), (s1, xI Z 484 lt), (h, .inr (2, [.ref a, .int (nI hd), .int (nI sz1)])), (a, xI Z N g)] s.heap := hP
  have hD : va_D A [(hp, .inr (4, [.ref s0, .ref s1])), (s0, xI Z 121 sz), (s1, xI Z 484 lt), (h, .inr (2, [.ref a, .int (nI hd), .int (nI sz1)])), (a, xI Z N g)] := hD
  have t4 : (tapp T t).length ≤ 4 := by
    rcases Nat.lt_or_ge t 121 with q | q
    · rw [tapp_in q]; exact (hT t q).2.1
    · rw [tapp_out q]; simp
  refine lv_iload_n hx hb dX4_appendTo_0 rfl (lv_at hl 2 rfl) ?_
  refine ln_const 4 hx hb dX4_appendTo_1 (by decide) ?_
  refine ln_imul (t * 4) hx hb dX4_appendTo_2 (by first | rfl | omega) ?_
  refine lv_istore_n (lv' := [(3, .int (nI (t * 4))), (0, .ref hp), (1, .ref h), (2, .int (nI t))]) hx hb dX4_appendTo_3 rfl hl (by decide) rfl (fun ls hl => ?_)
  refine lv_iload_n hx hb dX4_appendTo_4 rfl (lv_at hl 0 rfl) ?_
  refine lv_aload_n hx hb dX4_appendTo_5 rfl (lv_at hl 1 rfl) ?_
  refine lv_iload_n hx hb dX4_appendTo_6 rfl (lv_at hl 3 rfl) ?_
  refine x_Vi (y := yX4_sizeOf) (As := [.int (nI t)]) (wc := [(hp, .inr (4, [.ref s0, .ref s1])), (s0, xI Z 121 sz), (s1, xI Z 484 lt)]) (wr := [(h, .inr (2, [.ref a, .int (nI hd), .int (nI sz1)])), (a, xI Z N g)]) hC hP hD hS (c_sizeOf l Z hp s0 s1 sz lt T hT t (by omega)) (gV wq_478 wq_475 wq_476 wq_477 wq_35) rfl kv_X4_sizeOf rfl rfl ⟨rfl, rfl⟩ rfl hl.1 rfl ⟨Nat.le_of_ble_eq_true rfl, Nat.le_of_ble_eq_true rfl⟩ [0, 1, 2] [3, 4] rfl rfl (by decide) (by decide) (by decide) rfl dX4_appendTo_7 (fun r7 w1 H locs hw hP hD hS => ?_)
  obtain ⟨rfl, rfl⟩ := hw
  have hP := hP.sub (ws' := [(hp, .inr (4, [.ref s0, .ref s1])), (s0, xI Z 121 sz), (s1, xI Z 484 lt), (h, .inr (2, [.ref a, .int (nI hd), .int (nI sz1)])), (a, xI Z N g)]) [2, 3, 4, 0, 1] rfl
  have hD := hD.sub (ws' := [(hp, .inr (4, [.ref s0, .ref s1])), (s0, xI Z 121 sz), (s1, xI Z 484 lt), (h, .inr (2, [.ref a, .int (nI hd), .int (nI sz1)])), (a, xI Z N g)]) [2, 3, 4, 0, 1] (by decide) rfl
  refine ln_iadd ((t * 4) + ((tapp T t).length)) hx hb dX4_appendTo_10 (by first | rfl | omega) ?_
  refine lv_istore (lv' := [(4, .int (nI ((t * 4) + ((tapp T t).length)))), (3, .int (nI (t * 4))), (0, .ref hp), (1, .ref h), (2, .int (nI t))]) hx hb dX4_appendTo_11 hl (by decide) rfl (fun ls hl => ?_)
  refine lv_iload_n hx hb dX4_appendTo_13 rfl (lv_at hl 1 rfl) ?_
  refine lv_istore (lv' := [(5, .int (nI (t * 4))), (4, .int (nI ((t * 4) + ((tapp T t).length)))), (3, .int (nI (t * 4))), (0, .ref hp), (1, .ref h), (2, .int (nI t))]) hx hb dX4_appendTo_14 hl (by decide) rfl (fun ls hl => ?_)
  have hloop16 : ∀ (nn : Nat) (j sz2 : Nat) (g2 : Nat → Nat) (H : Heap) (locs : List Loc) (ls : Array Slot) (hj : j ≤ (tapp T t).length) (hR1 : RR N hd g2 (L ++ (tapp T t).take j)) (hs1 : sz2 = L.length + j) (hmu : (tapp T t).length - j < nn) (hP : va_P Z.1 vwCl [(hp, .inr (4, [.ref s0, .ref s1])), (s0, xI Z 121 sz), (s1, xI Z 484 lt), (h, .inr (2, [.ref a, .int (nI hd), .int (nI sz2)])), (a, xI Z N g2)] H) (hD : va_D A [(hp, .inr (4, [.ref s0, .ref s1])), (s0, xI Z 121 sz), (s1, xI Z 484 lt), (h, .inr (2, [.ref a, .int (nI hd), .int (nI sz2)])), (a, xI Z N g2)]) (hS : va_S A s.heap H locs) (hl : lv_has ls 6 [(0, .ref hp), (1, .ref h), (2, .int (nI t)), (3, .int (nI (t * 4))), (4, .int (nI (t * 4 + (tapp T t).length))), (5, .int (nI (t * 4 + j)))]), W p l e ({ frames := 2, cells := 0, slots := 0, locals := 43 } : Room) s m args below meth c H locs 0 0 (MQ below (va_Qv (fun w => ∃ g2, RR N hd g2 (L ++ tapp T t) ∧ w = [(hp, .inr (4, [.ref s0, .ref s1])), (s0, xI Z 121 sz), (s1, xI Z 484 lt), (h, .inr (2, [.ref a, .int (nI hd), .int (nI (sz1 + (tapp T t).length))])), (a, xI Z N g2)]) (xB Z A) A) args s ({ frames := 2, cells := 0, slots := 0, locals := 43 } : Room).cells ({ frames := 2, cells := 0, slots := 0, locals := 43 } : Room).slots A) (F0 m 16 ls []) := by
    intro nn
    induction nn with
    | zero => intro j sz2 g2 H locs ls hj hR1 hs1 hmu; exact absurd hmu (Nat.not_lt_zero _)
    | succ nn ih =>
      intro j sz2 g2 H locs ls hj hR1 hs1 hmu hP hD hS hl
      refine lv_iload hx hb dX4_appendTo_16 (lv_at hl 5 rfl) ?_
      refine lv_iload hx hb dX4_appendTo_18 (lv_at hl 4 rfl) ?_
      refine ln_icmp_ge (tgt := 40) hx hb dX4_appendTo_20 (by decide) (by omega) (by omega) (fun h20 => ?_) (fun h20 => ?_)
      · exact x_vret hC hr hk hP hD hS dX4_appendTo_40 ⟨g2, by rw [List.take_of_length_le (by omega)] at hR1; exact hR1, by rw [show sz2 = sz1 + (tapp T t).length by omega]⟩
      · refine lv_aload_n hx hb dX4_appendTo_23 rfl (lv_at hl 1 rfl) ?_
        refine lv_aload_n hx hb dX4_appendTo_24 rfl (lv_at hl 0 rfl) ?_
        refine va_get (D := Z.1) (ci := 4) (v := .ref s1) (C := RX4) (T := TX4) (N := 2) hx hb hts iX4 hown hK hP 0 rfl rfl 1 (Nat.le_of_ble_eq_true rfl) qq_259 (fun _ h9 => h9) rfl dX4_appendTo_25 ?_
        refine lv_iload hx hb dX4_appendTo_28 (lv_at hl 5 rfl) ?_
        have ht1 : t < 121 := by
          rcases Nat.lt_or_ge t 121 with q | q
          · exact q
          · rw [tapp_out q] at h20; simp only [List.length_nil] at h20; omega
        refine ln_iald hx hb hK hP 2 rfl (by omega) (by omega) dX4_appendTo_30 ?_
        refine ln_top (y := nI ((tapp T t).getD j 0)) (by rw [tapp_in ht1]; rw [tapp_in ht1] at h20; rw [(hT t ht1).2.2 j (by omega)]) ?_
        refine x_Vv (y := yX2_append) (As := [.int (nI ((tapp T t).getD j 0))]) (wc := [(h, .inr (2, [.ref a, .int (nI hd), .int (nI sz2)])), (a, xI Z N g2)]) (wr := [(hp, .inr (4, [.ref s0, .ref s1])), (s0, xI Z 121 sz), (s1, xI Z 484 lt)]) hC hP hD hS (c_X2_append l Z h a N hd sz2 g2 (L ++ (tapp T t).take j) (by omega) hR1 (by rw [List.length_append, List.length_take]; omega) ((tapp T t).getD j 0) (by rw [List.length_append, List.length_take]; omega)) (gV wq_499 wq_553 wq_497 wq_498 wq_43) rfl kv_X2_append rfl rfl ⟨rfl, rfl⟩ rfl hl.1 rfl ⟨Nat.le_of_ble_eq_true rfl, Nat.le_of_ble_eq_true rfl⟩ [3, 4] [0, 1, 2] rfl rfl (by decide) (by decide) (by decide) rfl dX4_appendTo_31 (fun w1 H locs hw hP hD hS => ?_)
        obtain ⟨g3, hg3, rfl⟩ := hw
        have hP : va_P Z.1 vwCl [(hp, .inr (4, [.ref s0, .ref s1])), (s0, xI Z 121 sz), (s1, xI Z 484 lt), (h, .inr (2, [.ref a, .int (nI hd), .int (nI (sz2 + 1))])), (a, xI Z N g3)] H := hP
        have hD : va_D A [(hp, .inr (4, [.ref s0, .ref s1])), (s0, xI Z 121 sz), (s1, xI Z 484 lt), (h, .inr (2, [.ref a, .int (nI hd), .int (nI (sz2 + 1))])), (a, xI Z N g3)] := hD
        refine ln_iinc (k0 := 5) (k := 1) (t * 4 + (j + 1)) (lv' := [(5, .int (nI (t * 4 + (j + 1)))), (0, .ref hp), (1, .ref h), (2, .int (nI t)), (3, .int (nI (t * 4))), (4, .int (nI (t * 4 + (tapp T t).length)))]) hx hb dX4_appendTo_34 hl rfl rfl (by first | rfl | omega) (by decide) rfl (fun ls hl => ?_)
        refine lv_goto (tgt := 16) hx hb dX4_appendTo_37 (by decide) ?_
        exact ih  (j + 1) (sz2 + 1) g3 _ _ _ (by omega) (by rw [List.append_assoc] at hg3; rw [List.take_succ_eq_append_getElem (show j < (tapp T t).length by omega)]; rw [List.getD_eq_getElem?_getD, List.getElem?_eq_getElem (show j < (tapp T t).length by omega)] at hg3; exact hg3) (by omega) (by omega) hP hD hS (lv_sub hl [1, 2, 3, 4, 5, 0] rfl)
  exact hloop16 (((tapp T t).length - 0) + 1) 0 sz1 g _ _ _ (Nat.zero_le _) (by simp; exact hR) (by omega) (Nat.lt_succ_self _) hP hD hS (lv_sub hl [3, 4, 5, 2, 1, 0] rfl)

theorem kv_J0_charAt_5068e : yJ0_charAt_5068e.cls = RJ0 ∧ yJ0_charAt_5068e.cls ≠ "java/lang/invoke/MethodHandle" ∧ yJ0_charAt_5068e.cls ≠ "java/lang/invoke/VarHandle" ∧ (parseMethodDescriptor yJ0_charAt_5068e.desc).map (fun d => d.parameters.length) = some 1 := by decide +kernel
theorem kv_J0_indexOf_0f7a4 : yJ0_indexOf_0f7a4.cls = RJ0 ∧ yJ0_indexOf_0f7a4.cls ≠ "java/lang/invoke/MethodHandle" ∧ yJ0_indexOf_0f7a4.cls ≠ "java/lang/invoke/VarHandle" ∧ (parseMethodDescriptor yJ0_indexOf_0f7a4.desc).map (fun d => d.parameters.length) = some 1 := by decide +kernel
theorem ks_X4_pairMarked : yX4_pairMarked.cls ≠ "java/lang/invoke/MethodHandle" ∧ yX4_pairMarked.cls ≠ "java/lang/invoke/VarHandle" ∧ (parseMethodDescriptor yX4_pairMarked.desc).map (fun d => d.parameters.length) = some 3 := by decide +kernel
theorem ks_X4_number : yX4_number.cls ≠ "java/lang/invoke/MethodHandle" ∧ yX4_number.cls ≠ "java/lang/invoke/VarHandle" ∧ (parseMethodDescriptor yX4_number.desc).map (fun d => d.parameters.length) = some 2 := by decide +kernel
theorem kv_X4_append : yX4_append.cls = RX4 ∧ yX4_append.cls ≠ "java/lang/invoke/MethodHandle" ∧ yX4_append.cls ≠ "java/lang/invoke/VarHandle" ∧ (parseMethodDescriptor yX4_append.desc).map (fun d => d.parameters.length) = some 2 := by decide +kernel
set_option maxHeartbeats 4000000 in
set_option maxRecDepth 100000 in
theorem c_X4_write (l : Launch) (Z : xZ) (hp s0 s1 : Nat) (sz lt : Nat → Nat) (T : Nat → List Nat) (hT : TR T sz lt) (i q t : Nat) (hi : i < 7) (hq : q < 6) (ht : t < 3) : xMv l Z yX4_write vX4_write ({ frames := 4, cells := 0, slots := 0, locals := 91 } : Room) [.ref hp, .ref (Z.2.1.1 i), .int (nI q), .int (nI t)] [(hp, .inr (4, [.ref s0, .ref s1])), (s0, xI Z 121 sz), (s1, xI Z 484 lt)] (fun w => ∃ sz2 lt2, TR (xwl i q t (xTl.getD i 0) (0, T)).2 sz2 lt2 ∧ w = [(hp, .inr (4, [.ref s0, .ref s1])), (s0, xI Z 121 sz2), (s1, xI Z 484 lt2)]) := by
  refine x_v (by decide) rfl (Nat.le_of_ble_eq_true rfl) ?_
  intro p e s m args below meth c ls A hC hr hk hname hl hP hD hS
  have hx := hC.1.1
  have hb := hC.1.2.1
  have hml := hC.1.2.2.1
  have hown : s.vm.findClass RX4 = some m.cls := hC.1.2.2.2.1
  have hts := hC.1.2.2.2.2
  have hK := hC.2.1
  have hl : lv_has ls 8 [(0, .ref hp), (1, .ref (Z.2.1.1 i)), (2, .int (nI q)), (3, .int (nI t))] := hl
  have hP : va_P Z.1 vwCl [(hp, .inr (4, [.ref s0, .ref s1])), (s0, xI Z 121 sz), (s1, xI Z 484 lt)] s.heap := hP
  have hD : va_D A [(hp, .inr (4, [.ref s0, .ref s1])), (s0, xI Z 121 sz), (s1, xI Z 484 lt)] := hD
  have hTl := xTl_le i hi
  refine ln_const 0 hx hb dX4_write_0 (by decide) ?_
  refine lv_istore (lv' := [(4, .int (nI 0)), (0, .ref hp), (1, .ref (Z.2.1.1 i)), (2, .int (nI q)), (3, .int (nI t))]) hx hb dX4_write_1 hl (by decide) rfl (fun ls hl => ?_)
  refine ln_const 0 hx hb dX4_write_3 (by decide) ?_
  refine lv_istore (lv' := [(5, .int (nI 0)), (4, .int (nI 0)), (0, .ref hp), (1, .ref (Z.2.1.1 i)), (2, .int (nI q)), (3, .int (nI t))]) hx hb dX4_write_4 hl (by decide) rfl (fun ls hl => ?_)
  have hloop6 : ∀ (nn : Nat) (j ow : Nat) (T1 : Nat → List Nat) (sz2 lt2 : Nat → Nat) (H : Heap) (locs : List Loc) (ls : Array Slot) (hj : j ≤ xTl.getD i 0) (hX : (ow, T1) = xwl i q t j (0, T)) (hT1 : TR T1 sz2 lt2) (how : ow < 121) (hmu : xTl.getD i 0 - j < nn) (hP : va_P Z.1 vwCl [(hp, .inr (4, [.ref s0, .ref s1])), (s0, xI Z 121 sz2), (s1, xI Z 484 lt2)] H) (hD : va_D A [(hp, .inr (4, [.ref s0, .ref s1])), (s0, xI Z 121 sz2), (s1, xI Z 484 lt2)]) (hS : va_S A s.heap H locs) (hl : lv_has ls 8 [(0, .ref hp), (1, .ref (Z.2.1.1 i)), (2, .int (nI q)), (3, .int (nI t)), (4, .int (nI ow)), (5, .int (nI j))]), W p l e ({ frames := 4, cells := 0, slots := 0, locals := 91 } : Room) s m args below meth c H locs 0 0 (MQ below (va_Qv (fun w => ∃ sz2 lt2, TR (xwl i q t (xTl.getD i 0) (0, T)).2 sz2 lt2 ∧ w = [(hp, .inr (4, [.ref s0, .ref s1])), (s0, xI Z 121 sz2), (s1, xI Z 484 lt2)]) (xB Z A) A) args s ({ frames := 4, cells := 0, slots := 0, locals := 91 } : Room).cells ({ frames := 4, cells := 0, slots := 0, locals := 91 } : Room).slots A) (F0 m 6 ls []) := by
    intro nn
    induction nn with
    | zero => intro j ow T1 sz2 lt2 H locs ls hj hX hT1 how hmu; exact absurd hmu (Nat.not_lt_zero _)
    | succ nn ih =>
      intro j ow T1 sz2 lt2 H locs ls hj hX hT1 how hmu hP hD hS hl
      refine lv_iload hx hb dX4_write_6 (lv_at hl 5 rfl) ?_
      refine lv_aload_n hx hb dX4_write_8 rfl (lv_at hl 1 rfl) ?_
      refine x_Ri (y := yJ0_length_8abf5) (As := []) (wc := []) (wr := [(hp, .inr (4, [.ref s0, .ref s1])), (s0, xI Z 121 sz2), (s1, xI Z 484 lt2)]) hC hP hD hS (c_slen l Z i hi) (gV wq_140 wq_137 wq_138 wq_139 wq_36) rfl kv_J0_length_8abf5 (vk_recv hC.2.2.2.2.1 hi hS) ⟨rfl, rfl⟩ rfl hl.1 rfl ⟨Nat.le_of_ble_eq_true rfl, Nat.le_of_ble_eq_true rfl⟩ ([] : List Nat) [0, 1, 2] rfl rfl (by decide) (by decide) (by decide) rfl dX4_write_9 (fun r9 w1 H locs hw hP hD hS => ?_)
      obtain ⟨rfl, rfl⟩ := hw
      have hP : va_P Z.1 vwCl [(hp, .inr (4, [.ref s0, .ref s1])), (s0, xI Z 121 sz2), (s1, xI Z 484 lt2)] H := hP
      have hD : va_D A [(hp, .inr (4, [.ref s0, .ref s1])), (s0, xI Z 121 sz2), (s1, xI Z 484 lt2)] := hD
      refine ln_icmp_ge (tgt := 101) hx hb dX4_write_12 (by decide) (by omega) (by omega) (fun h12 => ?_) (fun h12 => ?_)
      · exact x_vret hC hr hk hP hD hS dX4_write_101 ⟨sz2, lt2, by rw [show (xwl i q t (xTl.getD i 0) (0, T)).2 = T1 by rw [show xTl.getD i 0 = j by omega, ← hX]]; exact hT1, rfl⟩
      · refine lv_iload hx hb dX4_write_15 (lv_at hl 5 rfl) ?_
        refine ln_const 1 hx hb dX4_write_17 (by decide) ?_
        refine ln_iadd (j + 1) hx hb dX4_write_18 (by first | rfl | omega) ?_
        refine lv_aload_n hx hb dX4_write_19 rfl (lv_at hl 1 rfl) ?_
        refine x_Ri (y := yJ0_length_8abf5) (As := []) (wc := []) (wr := [(hp, .inr (4, [.ref s0, .ref s1])), (s0, xI Z 121 sz2), (s1, xI Z 484 lt2)]) hC hP hD hS (c_slen l Z i hi) (gV wq_140 wq_137 wq_138 wq_139 wq_36) rfl kv_J0_length_8abf5 (vk_recv hC.2.2.2.2.1 hi hS) ⟨rfl, rfl⟩ rfl hl.1 rfl ⟨Nat.le_of_ble_eq_true rfl, Nat.le_of_ble_eq_true rfl⟩ ([] : List Nat) [0, 1, 2] rfl rfl (by decide) (by decide) (by decide) rfl dX4_write_20 (fun r20 w1 H locs hw hP hD hS => ?_)
        obtain ⟨rfl, rfl⟩ := hw
        have hP : va_P Z.1 vwCl [(hp, .inr (4, [.ref s0, .ref s1])), (s0, xI Z 121 sz2), (s1, xI Z 484 lt2)] H := hP
        have hD : va_D A [(hp, .inr (4, [.ref s0, .ref s1])), (s0, xI Z 121 sz2), (s1, xI Z 484 lt2)] := hD
        refine ln_icmp_ge (tgt := 37) hx hb dX4_write_23 (by decide) (by omega) (by omega) (fun h23 => ?_) (fun h23 => ?_)
        · refine ln_bipush 32 hx hb dX4_write_37 (by decide) ?_
          refine lv_istore (lv' := [(6, .int (nI 32)), (0, .ref hp), (1, .ref (Z.2.1.1 i)), (2, .int (nI q)), (3, .int (nI t)), (4, .int (nI ow)), (5, .int (nI j))]) hx hb dX4_write_39 hl (by decide) rfl (fun ls hl => ?_)
          refine va_ldcS hx hb hown (hC.2.2.2.2.2.1 0 (by decide)) dX4_write_41 ?_
          refine lv_aload_n hx hb dX4_write_43 rfl (lv_at hl 2 rfl) ?_
          refine lv_iload hx hb dX4_write_44 (lv_at hl 6 rfl) ?_
          refine x_Ri (y := yJ0_charAt_5068e) (As := [.int (nI j)]) (wc := []) (wr := [(hp, .inr (4, [.ref s0, .ref s1])), (s0, xI Z 121 sz2), (s1, xI Z 484 lt2)]) hC hP hD hS (c_charAt l Z i hi j (by omega)) (gV wq_150 wq_147 wq_148 wq_149 wq_36) rfl kv_J0_charAt_5068e (vk_recv hC.2.2.2.2.1 hi hS) ⟨rfl, rfl⟩ rfl hl.1 rfl ⟨Nat.le_of_ble_eq_true rfl, Nat.le_of_ble_eq_true rfl⟩ ([] : List Nat) [0, 1, 2] rfl rfl (by decide) (by decide) (by decide) rfl dX4_write_46 (fun r46 w1 H locs hw hP hD hS => ?_)
          obtain ⟨rfl, rfl⟩ := hw
          have hP : va_P Z.1 vwCl [(hp, .inr (4, [.ref s0, .ref s1])), (s0, xI Z 121 sz2), (s1, xI Z 484 lt2)] H := hP
          have hD : va_D A [(hp, .inr (4, [.ref s0, .ref s1])), (s0, xI Z 121 sz2), (s1, xI Z 484 lt2)] := hD
          have hxb_j := (xby_all i hi j (by omega)).2
          refine x_Ri (y := yJ0_indexOf_0f7a4) (As := [.int (nI (xby i j))]) (wc := []) (wr := [(hp, .inr (4, [.ref s0, .ref s1])), (s0, xI Z 121 sz2), (s1, xI Z 484 lt2)]) hC hP hD hS (c_io1 l Z (xby i j) (by omega)) (gV wq_189 wq_186 wq_187 wq_188 wq_36) rfl kv_J0_indexOf_0f7a4 (vk_recv hC.2.2.2.2.1 (show 0 < 7 by decide) hS) ⟨rfl, rfl⟩ rfl hl.1 rfl ⟨Nat.le_of_ble_eq_true rfl, Nat.le_of_ble_eq_true rfl⟩ ([] : List Nat) [0, 1, 2] rfl rfl (by decide) (by decide) (by decide) rfl dX4_write_49 (fun r49 w1 H locs hw hP hD hS => ?_)
          obtain ⟨rfl, rfl⟩ := hw
          have hP : va_P Z.1 vwCl [(hp, .inr (4, [.ref s0, .ref s1])), (s0, xI Z 121 sz2), (s1, xI Z 484 lt2)] H := hP
          have hD : va_D A [(hp, .inr (4, [.ref s0, .ref s1])), (s0, xI Z 121 sz2), (s1, xI Z 484 lt2)] := hD
          rcases xki_le i j with hk9 | hk9
          · refine ln_top (y := nI (xki i j)) (show xfv (xki i j) = _ by unfold xfv; rw [if_neg (by omega)]) ?_
            refine lv_istore (lv' := [(7, .int (nI (xki i j))), (6, .int (nI 32)), (0, .ref hp), (1, .ref (Z.2.1.1 i)), (2, .int (nI q)), (3, .int (nI t)), (4, .int (nI ow)), (5, .int (nI j))]) hx hb dX4_write_52 hl (by decide) rfl (fun ls hl => ?_)
            refine lv_iload hx hb dX4_write_54 (lv_at hl 1 rfl) ?_
            refine ln_bipush 58 hx hb dX4_write_56 (by decide) ?_
            refine ln_icmp_ne (tgt := 72) hx hb dX4_write_58 (by decide) (by omega) (by omega) (fun h58 => ?_) (fun h58 => False.elim (by omega))
            refine lv_iload hx hb dX4_write_72 (lv_at hl 0 rfl) ?_
            refine ln_if_lt (tgt := 95) hx hb dX4_write_74 (by decide) (by omega) ?_
            refine lv_aload_n hx hb dX4_write_77 rfl (lv_at hl 2 rfl) ?_
            refine lv_iload hx hb dX4_write_78 (lv_at hl 6 rfl) ?_
            refine lv_iload hx hb dX4_write_80 (lv_at hl 0 rfl) ?_
            refine lv_iload hx hb dX4_write_82 (lv_at hl 1 rfl) ?_
            refine lv_iload_n hx hb dX4_write_84 rfl (lv_at hl 4 rfl) ?_
            refine lv_iload_n hx hb dX4_write_85 rfl (lv_at hl 5 rfl) ?_
            refine x_Si (y := yX4_pairMarked) (As := [.int (nI 32), .int (nI q), .int (nI t)]) (wc := []) (wr := [(hp, .inr (4, [.ref s0, .ref s1])), (s0, xI Z 121 sz2), (s1, xI Z 484 lt2)]) hC hP hD hS (c_pairMarked l Z 32 q t (by omega) (by omega)) (gS wq_250 wq_248 wq_249 wq_35) rfl ks_X4_pairMarked ⟨rfl, rfl⟩ rfl hl.1 rfl ⟨Nat.le_of_ble_eq_true rfl, Nat.le_of_ble_eq_true rfl⟩ ([] : List Nat) [0, 1, 2] rfl rfl (by decide) (by decide) (by decide) rfl dX4_write_86 (fun r86 w1 H locs hw hP hD hS => ?_)
            obtain ⟨rfl, rfl⟩ := hw
            have hP : va_P Z.1 vwCl [(hp, .inr (4, [.ref s0, .ref s1])), (s0, xI Z 121 sz2), (s1, xI Z 484 lt2)] H := hP
            have hD : va_D A [(hp, .inr (4, [.ref s0, .ref s1])), (s0, xI Z 121 sz2), (s1, xI Z 484 lt2)] := hD
            have hpm := xpm_le (b := 32) hq ht
            refine x_Si (y := yX4_number) (As := [.int (nI (xki i j)), .int (nI (xpm 32 q t))]) (wc := []) (wr := [(hp, .inr (4, [.ref s0, .ref s1])), (s0, xI Z 121 sz2), (s1, xI Z 484 lt2)]) hC hP hD hS (c_number l Z (xki i j) (xpm 32 q t) (by omega) (by omega)) (gS wq_247 wq_245 wq_246 wq_35) rfl ks_X4_number ⟨rfl, rfl⟩ rfl hl.1 rfl ⟨Nat.le_of_ble_eq_true rfl, Nat.le_of_ble_eq_true rfl⟩ ([] : List Nat) [0, 1, 2] rfl rfl (by decide) (by decide) (by decide) rfl dX4_write_89 (fun r89 w1 H locs hw hP hD hS => ?_)
            obtain ⟨rfl, rfl⟩ := hw
            have hP : va_P Z.1 vwCl [(hp, .inr (4, [.ref s0, .ref s1])), (s0, xI Z 121 sz2), (s1, xI Z 484 lt2)] H := hP
            have hD : va_D A [(hp, .inr (4, [.ref s0, .ref s1])), (s0, xI Z 121 sz2), (s1, xI Z 484 lt2)] := hD
            refine x_Vv (y := yX4_append) (As := [.int (nI ow), .int (nI (xnum (xki i j) (xpm 32 q t)))]) (wc := [(hp, .inr (4, [.ref s0, .ref s1])), (s0, xI Z 121 sz2), (s1, xI Z 484 lt2)]) (wr := []) hC hP hD hS (c_X4_append l Z hp s0 s1 sz2 lt2 T1 hT1 ow (xnum (xki i j) (xpm 32 q t)) how) (gV wq_257 wq_254 wq_256 wq_1 wq_35) rfl kv_X4_append rfl rfl ⟨rfl, rfl⟩ rfl hl.1 rfl ⟨Nat.le_of_ble_eq_true rfl, Nat.le_of_ble_eq_true rfl⟩ [0, 1, 2] ([] : List Nat) rfl rfl (by decide) (by decide) (by decide) rfl dX4_write_92 (fun w1 H locs hw hP hD hS => ?_)
            obtain ⟨sz3, lt3, hT3, rfl⟩ := hw
            have hP : va_P Z.1 vwCl [(hp, .inr (4, [.ref s0, .ref s1])), (s0, xI Z 121 sz3), (s1, xI Z 484 lt3)] H := hP
            have hD : va_D A [(hp, .inr (4, [.ref s0, .ref s1])), (s0, xI Z 121 sz3), (s1, xI Z 484 lt3)] := hD
            refine ln_iinc (k0 := 7) (k := 1) (j + 1) (lv' := [(5, .int (nI (j + 1))), (7, .int (nI (xki i j))), (6, .int (nI 32)), (0, .ref hp), (1, .ref (Z.2.1.1 i)), (2, .int (nI q)), (3, .int (nI t)), (4, .int (nI ow))]) hx hb dX4_write_95 hl rfl rfl (by first | rfl | omega) (by decide) rfl (fun ls hl => ?_)
            refine lv_goto (tgt := 6) hx hb dX4_write_98 (by decide) ?_
            exact ih  (j + 1) ow _ sz3 lt3 _ _ _ (by omega) (by rw [show xwl i q t (j + 1) (0, T) = xws i q t j (xwl i q t j (0, T)) from rfl, ← hX]; unfold xws; rw [show xbe i j = 32 by unfold xbe; rw [if_neg (show ¬ (j + 1 < xTl.getD i 0) by omega)]]; rw [if_neg (by decide), if_neg (by omega)]) hT3 how (by omega) hP hD hS (lv_sub hl [3, 4, 5, 6, 7, 0] rfl)
          · refine ln_top (y := -1) (show xfv (xki i j) = _ by unfold xfv; rw [if_pos hk9]) ?_
            refine lv_istore (lv' := [(7, .int ((-1))), (6, .int (nI 32)), (0, .ref hp), (1, .ref (Z.2.1.1 i)), (2, .int (nI q)), (3, .int (nI t)), (4, .int (nI ow)), (5, .int (nI j))]) hx hb dX4_write_52 hl (by decide) rfl (fun ls hl => ?_)
            refine lv_iload hx hb dX4_write_54 (lv_at hl 1 rfl) ?_
            refine ln_bipush 58 hx hb dX4_write_56 (by decide) ?_
            refine ln_icmp_ne (tgt := 72) hx hb dX4_write_58 (by decide) (by omega) (by omega) (fun h58 => ?_) (fun h58 => False.elim (by omega))
            refine lv_iload hx hb dX4_write_72 (lv_at hl 0 rfl) ?_
            refine lv_if_lt (tgt := 95) hx hb dX4_write_74 (by decide) (fun h74 => ?_) (fun h74 => False.elim (by revert h74; decide))
            refine ln_iinc (k0 := 7) (k := 1) (j + 1) (lv' := [(5, .int (nI (j + 1))), (7, .int ((-1))), (6, .int (nI 32)), (0, .ref hp), (1, .ref (Z.2.1.1 i)), (2, .int (nI q)), (3, .int (nI t)), (4, .int (nI ow))]) hx hb dX4_write_95 hl rfl rfl (by first | rfl | omega) (by decide) rfl (fun ls hl => ?_)
            refine lv_goto (tgt := 6) hx hb dX4_write_98 (by decide) ?_
            exact ih  (j + 1) ow T1 sz2 lt2 _ _ _ (by omega) (by rw [show xwl i q t (j + 1) (0, T) = xws i q t j (xwl i q t j (0, T)) from rfl, ← hX]; unfold xws; rw [show xbe i j = 32 by unfold xbe; rw [if_neg (show ¬ (j + 1 < xTl.getD i 0) by omega)]]; rw [if_neg (by decide), if_pos hk9]) hT1 how (by omega) hP hD hS (lv_sub hl [3, 4, 5, 6, 7, 0] rfl)
        · refine lv_aload_n hx hb dX4_write_26 rfl (lv_at hl 1 rfl) ?_
          refine lv_iload hx hb dX4_write_27 (lv_at hl 5 rfl) ?_
          refine ln_const 1 hx hb dX4_write_29 (by decide) ?_
          refine ln_iadd (j + 1) hx hb dX4_write_30 (by first | rfl | omega) ?_
          refine x_Ri (y := yJ0_charAt_5068e) (As := [.int (nI (j + 1))]) (wc := []) (wr := [(hp, .inr (4, [.ref s0, .ref s1])), (s0, xI Z 121 sz2), (s1, xI Z 484 lt2)]) hC hP hD hS (c_charAt l Z i hi (j + 1) (by omega)) (gV wq_150 wq_147 wq_148 wq_149 wq_36) rfl kv_J0_charAt_5068e (vk_recv hC.2.2.2.2.1 hi hS) ⟨rfl, rfl⟩ rfl hl.1 rfl ⟨Nat.le_of_ble_eq_true rfl, Nat.le_of_ble_eq_true rfl⟩ ([] : List Nat) [0, 1, 2] rfl rfl (by decide) (by decide) (by decide) rfl dX4_write_31 (fun r31 w1 H locs hw hP hD hS => ?_)
          obtain ⟨rfl, rfl⟩ := hw
          have hP : va_P Z.1 vwCl [(hp, .inr (4, [.ref s0, .ref s1])), (s0, xI Z 121 sz2), (s1, xI Z 484 lt2)] H := hP
          have hD : va_D A [(hp, .inr (4, [.ref s0, .ref s1])), (s0, xI Z 121 sz2), (s1, xI Z 484 lt2)] := hD
          have hxb_j1 := (xby_all i hi (j + 1) (by omega)).2
          refine lv_goto (tgt := 39) hx hb dX4_write_34 (by decide) ?_
          refine lv_istore (lv' := [(6, .int (nI (xby i (j + 1)))), (0, .ref hp), (1, .ref (Z.2.1.1 i)), (2, .int (nI q)), (3, .int (nI t)), (4, .int (nI ow)), (5, .int (nI j))]) hx hb dX4_write_39 hl (by decide) rfl (fun ls hl => ?_)
          refine va_ldcS hx hb hown (hC.2.2.2.2.2.1 0 (by decide)) dX4_write_41 ?_
          refine lv_aload_n hx hb dX4_write_43 rfl (lv_at hl 2 rfl) ?_
          refine lv_iload hx hb dX4_write_44 (lv_at hl 6 rfl) ?_
          refine x_Ri (y := yJ0_charAt_5068e) (As := [.int (nI j)]) (wc := []) (wr := [(hp, .inr (4, [.ref s0, .ref s1])), (s0, xI Z 121 sz2), (s1, xI Z 484 lt2)]) hC hP hD hS (c_charAt l Z i hi j (by omega)) (gV wq_150 wq_147 wq_148 wq_149 wq_36) rfl kv_J0_charAt_5068e (vk_recv hC.2.2.2.2.1 hi hS) ⟨rfl, rfl⟩ rfl hl.1 rfl ⟨Nat.le_of_ble_eq_true rfl, Nat.le_of_ble_eq_true rfl⟩ ([] : List Nat) [0, 1, 2] rfl rfl (by decide) (by decide) (by decide) rfl dX4_write_46 (fun r46 w1 H locs hw hP hD hS => ?_)
          obtain ⟨rfl, rfl⟩ := hw
          have hP : va_P Z.1 vwCl [(hp, .inr (4, [.ref s0, .ref s1])), (s0, xI Z 121 sz2), (s1, xI Z 484 lt2)] H := hP
          have hD : va_D A [(hp, .inr (4, [.ref s0, .ref s1])), (s0, xI Z 121 sz2), (s1, xI Z 484 lt2)] := hD
          have hxb_j := (xby_all i hi j (by omega)).2
          refine x_Ri (y := yJ0_indexOf_0f7a4) (As := [.int (nI (xby i j))]) (wc := []) (wr := [(hp, .inr (4, [.ref s0, .ref s1])), (s0, xI Z 121 sz2), (s1, xI Z 484 lt2)]) hC hP hD hS (c_io1 l Z (xby i j) (by omega)) (gV wq_189 wq_186 wq_187 wq_188 wq_36) rfl kv_J0_indexOf_0f7a4 (vk_recv hC.2.2.2.2.1 (show 0 < 7 by decide) hS) ⟨rfl, rfl⟩ rfl hl.1 rfl ⟨Nat.le_of_ble_eq_true rfl, Nat.le_of_ble_eq_true rfl⟩ ([] : List Nat) [0, 1, 2] rfl rfl (by decide) (by decide) (by decide) rfl dX4_write_49 (fun r49 w1 H locs hw hP hD hS => ?_)
          obtain ⟨rfl, rfl⟩ := hw
          have hP : va_P Z.1 vwCl [(hp, .inr (4, [.ref s0, .ref s1])), (s0, xI Z 121 sz2), (s1, xI Z 484 lt2)] H := hP
          have hD : va_D A [(hp, .inr (4, [.ref s0, .ref s1])), (s0, xI Z 121 sz2), (s1, xI Z 484 lt2)] := hD
          rcases xki_le i j with hk9 | hk9
          · refine ln_top (y := nI (xki i j)) (show xfv (xki i j) = _ by unfold xfv; rw [if_neg (by omega)]) ?_
            refine lv_istore (lv' := [(7, .int (nI (xki i j))), (6, .int (nI (xby i (j + 1)))), (0, .ref hp), (1, .ref (Z.2.1.1 i)), (2, .int (nI q)), (3, .int (nI t)), (4, .int (nI ow)), (5, .int (nI j))]) hx hb dX4_write_52 hl (by decide) rfl (fun ls hl => ?_)
            refine lv_iload hx hb dX4_write_54 (lv_at hl 1 rfl) ?_
            refine ln_bipush 58 hx hb dX4_write_56 (by decide) ?_
            refine ln_icmp_ne (tgt := 72) hx hb dX4_write_58 (by decide) (by omega) (by omega) (fun h58 => ?_) (fun h58 => ?_)
            · refine lv_iload hx hb dX4_write_72 (lv_at hl 0 rfl) ?_
              refine ln_if_lt (tgt := 95) hx hb dX4_write_74 (by decide) (by omega) ?_
              refine lv_aload_n hx hb dX4_write_77 rfl (lv_at hl 2 rfl) ?_
              refine lv_iload hx hb dX4_write_78 (lv_at hl 6 rfl) ?_
              refine lv_iload hx hb dX4_write_80 (lv_at hl 0 rfl) ?_
              refine lv_iload hx hb dX4_write_82 (lv_at hl 1 rfl) ?_
              refine lv_iload_n hx hb dX4_write_84 rfl (lv_at hl 4 rfl) ?_
              refine lv_iload_n hx hb dX4_write_85 rfl (lv_at hl 5 rfl) ?_
              refine x_Si (y := yX4_pairMarked) (As := [.int (nI (xby i (j + 1))), .int (nI q), .int (nI t)]) (wc := []) (wr := [(hp, .inr (4, [.ref s0, .ref s1])), (s0, xI Z 121 sz2), (s1, xI Z 484 lt2)]) hC hP hD hS (c_pairMarked l Z (xby i (j + 1)) q t (by omega) (by omega)) (gS wq_250 wq_248 wq_249 wq_35) rfl ks_X4_pairMarked ⟨rfl, rfl⟩ rfl hl.1 rfl ⟨Nat.le_of_ble_eq_true rfl, Nat.le_of_ble_eq_true rfl⟩ ([] : List Nat) [0, 1, 2] rfl rfl (by decide) (by decide) (by decide) rfl dX4_write_86 (fun r86 w1 H locs hw hP hD hS => ?_)
              obtain ⟨rfl, rfl⟩ := hw
              have hP : va_P Z.1 vwCl [(hp, .inr (4, [.ref s0, .ref s1])), (s0, xI Z 121 sz2), (s1, xI Z 484 lt2)] H := hP
              have hD : va_D A [(hp, .inr (4, [.ref s0, .ref s1])), (s0, xI Z 121 sz2), (s1, xI Z 484 lt2)] := hD
              have hpm := xpm_le (b := xby i (j + 1)) hq ht
              refine x_Si (y := yX4_number) (As := [.int (nI (xki i j)), .int (nI (xpm (xby i (j + 1)) q t))]) (wc := []) (wr := [(hp, .inr (4, [.ref s0, .ref s1])), (s0, xI Z 121 sz2), (s1, xI Z 484 lt2)]) hC hP hD hS (c_number l Z (xki i j) (xpm (xby i (j + 1)) q t) (by omega) (by omega)) (gS wq_247 wq_245 wq_246 wq_35) rfl ks_X4_number ⟨rfl, rfl⟩ rfl hl.1 rfl ⟨Nat.le_of_ble_eq_true rfl, Nat.le_of_ble_eq_true rfl⟩ ([] : List Nat) [0, 1, 2] rfl rfl (by decide) (by decide) (by decide) rfl dX4_write_89 (fun r89 w1 H locs hw hP hD hS => ?_)
              obtain ⟨rfl, rfl⟩ := hw
              have hP : va_P Z.1 vwCl [(hp, .inr (4, [.ref s0, .ref s1])), (s0, xI Z 121 sz2), (s1, xI Z 484 lt2)] H := hP
              have hD : va_D A [(hp, .inr (4, [.ref s0, .ref s1])), (s0, xI Z 121 sz2), (s1, xI Z 484 lt2)] := hD
              refine x_Vv (y := yX4_append) (As := [.int (nI ow), .int (nI (xnum (xki i j) (xpm (xby i (j + 1)) q t)))]) (wc := [(hp, .inr (4, [.ref s0, .ref s1])), (s0, xI Z 121 sz2), (s1, xI Z 484 lt2)]) (wr := []) hC hP hD hS (c_X4_append l Z hp s0 s1 sz2 lt2 T1 hT1 ow (xnum (xki i j) (xpm (xby i (j + 1)) q t)) how) (gV wq_257 wq_254 wq_256 wq_1 wq_35) rfl kv_X4_append rfl rfl ⟨rfl, rfl⟩ rfl hl.1 rfl ⟨Nat.le_of_ble_eq_true rfl, Nat.le_of_ble_eq_true rfl⟩ [0, 1, 2] ([] : List Nat) rfl rfl (by decide) (by decide) (by decide) rfl dX4_write_92 (fun w1 H locs hw hP hD hS => ?_)
              obtain ⟨sz3, lt3, hT3, rfl⟩ := hw
              have hP : va_P Z.1 vwCl [(hp, .inr (4, [.ref s0, .ref s1])), (s0, xI Z 121 sz3), (s1, xI Z 484 lt3)] H := hP
              have hD : va_D A [(hp, .inr (4, [.ref s0, .ref s1])), (s0, xI Z 121 sz3), (s1, xI Z 484 lt3)] := hD
              refine ln_iinc (k0 := 7) (k := 1) (j + 1) (lv' := [(5, .int (nI (j + 1))), (7, .int (nI (xki i j))), (6, .int (nI (xby i (j + 1)))), (0, .ref hp), (1, .ref (Z.2.1.1 i)), (2, .int (nI q)), (3, .int (nI t)), (4, .int (nI ow))]) hx hb dX4_write_95 hl rfl rfl (by first | rfl | omega) (by decide) rfl (fun ls hl => ?_)
              refine lv_goto (tgt := 6) hx hb dX4_write_98 (by decide) ?_
              exact ih  (j + 1) ow _ sz3 lt3 _ _ _ (by omega) (by rw [show xwl i q t (j + 1) (0, T) = xws i q t j (xwl i q t j (0, T)) from rfl, ← hX]; unfold xws; rw [show xbe i j = xby i (j + 1) by unfold xbe; rw [if_pos (show j + 1 < xTl.getD i 0 by omega)]]; rw [if_neg h58, if_neg (by omega)]) hT3 how (by omega) hP hD hS (lv_sub hl [3, 4, 5, 6, 7, 0] rfl)
            · refine lv_iload hx hb dX4_write_61 (lv_at hl 0 rfl) ?_
              refine lv_iload_n hx hb dX4_write_63 rfl (lv_at hl 4 rfl) ?_
              refine x_Si (y := yX4_number) (As := [.int (nI (xki i j)), .int (nI q)]) (wc := []) (wr := [(hp, .inr (4, [.ref s0, .ref s1])), (s0, xI Z 121 sz2), (s1, xI Z 484 lt2)]) hC hP hD hS (c_number l Z (xki i j) q (by omega) (by omega)) (gS wq_247 wq_245 wq_246 wq_35) rfl ks_X4_number ⟨rfl, rfl⟩ rfl hl.1 rfl ⟨Nat.le_of_ble_eq_true rfl, Nat.le_of_ble_eq_true rfl⟩ ([] : List Nat) [0, 1, 2] rfl rfl (by decide) (by decide) (by decide) rfl dX4_write_64 (fun r64 w1 H locs hw hP hD hS => ?_)
              obtain ⟨rfl, rfl⟩ := hw
              have hP : va_P Z.1 vwCl [(hp, .inr (4, [.ref s0, .ref s1])), (s0, xI Z 121 sz2), (s1, xI Z 484 lt2)] H := hP
              have hD : va_D A [(hp, .inr (4, [.ref s0, .ref s1])), (s0, xI Z 121 sz2), (s1, xI Z 484 lt2)] := hD
              refine lv_istore (lv' := [(4, .int (nI (xnum (xki i j) q))), (7, .int (nI (xki i j))), (6, .int (nI (xby i (j + 1)))), (0, .ref hp), (1, .ref (Z.2.1.1 i)), (2, .int (nI q)), (3, .int (nI t)), (5, .int (nI j))]) hx hb dX4_write_67 hl (by decide) rfl (fun ls hl => ?_)
              refine lv_goto (tgt := 95) hx hb dX4_write_69 (by decide) ?_
              refine ln_iinc (k0 := 7) (k := 1) (j + 1) (lv' := [(5, .int (nI (j + 1))), (4, .int (nI (xnum (xki i j) q))), (7, .int (nI (xki i j))), (6, .int (nI (xby i (j + 1)))), (0, .ref hp), (1, .ref (Z.2.1.1 i)), (2, .int (nI q)), (3, .int (nI t))]) hx hb dX4_write_95 hl rfl rfl (by first | rfl | omega) (by decide) rfl (fun ls hl => ?_)
              refine lv_goto (tgt := 6) hx hb dX4_write_98 (by decide) ?_
              exact ih  (j + 1) (xnum (xki i j) q) T1 sz2 lt2 _ _ _ (by omega) (by rw [show xwl i q t (j + 1) (0, T) = xws i q t j (xwl i q t j (0, T)) from rfl, ← hX]; unfold xws; rw [show xbe i j = xby i (j + 1) by unfold xbe; rw [if_pos (show j + 1 < xTl.getD i 0 by omega)]]; rw [if_pos h58]) hT1 (xnum_le (by omega) hq) (by omega) hP hD hS (lv_sub hl [4, 5, 6, 7, 1, 0] rfl)
          · refine ln_top (y := -1) (show xfv (xki i j) = _ by unfold xfv; rw [if_pos hk9]) ?_
            refine lv_istore (lv' := [(7, .int ((-1))), (6, .int (nI (xby i (j + 1)))), (0, .ref hp), (1, .ref (Z.2.1.1 i)), (2, .int (nI q)), (3, .int (nI t)), (4, .int (nI ow)), (5, .int (nI j))]) hx hb dX4_write_52 hl (by decide) rfl (fun ls hl => ?_)
            refine lv_iload hx hb dX4_write_54 (lv_at hl 1 rfl) ?_
            refine ln_bipush 58 hx hb dX4_write_56 (by decide) ?_
            refine ln_icmp_ne (tgt := 72) hx hb dX4_write_58 (by decide) (by omega) (by omega) (fun h58 => ?_) (fun h58 => ?_)
            · refine lv_iload hx hb dX4_write_72 (lv_at hl 0 rfl) ?_
              refine lv_if_lt (tgt := 95) hx hb dX4_write_74 (by decide) (fun h74 => ?_) (fun h74 => False.elim (by revert h74; decide))
              refine ln_iinc (k0 := 7) (k := 1) (j + 1) (lv' := [(5, .int (nI (j + 1))), (7, .int ((-1))), (6, .int (nI (xby i (j + 1)))), (0, .ref hp), (1, .ref (Z.2.1.1 i)), (2, .int (nI q)), (3, .int (nI t)), (4, .int (nI ow))]) hx hb dX4_write_95 hl rfl rfl (by first | rfl | omega) (by decide) rfl (fun ls hl => ?_)
              refine lv_goto (tgt := 6) hx hb dX4_write_98 (by decide) ?_
              exact ih  (j + 1) ow T1 sz2 lt2 _ _ _ (by omega) (by rw [show xwl i q t (j + 1) (0, T) = xws i q t j (xwl i q t j (0, T)) from rfl, ← hX]; unfold xws; rw [show xbe i j = xby i (j + 1) by unfold xbe; rw [if_pos (show j + 1 < xTl.getD i 0 by omega)]]; rw [if_neg h58, if_pos hk9]) hT1 how (by omega) hP hD hS (lv_sub hl [3, 4, 5, 6, 7, 0] rfl)
            · refine lv_iload hx hb dX4_write_61 (lv_at hl 0 rfl) ?_
              refine lv_iload_n hx hb dX4_write_63 rfl (lv_at hl 4 rfl) ?_
              refine x_Si (y := yX4_number) (As := [.int ((-1)), .int (nI q)]) (wc := []) (wr := [(hp, .inr (4, [.ref s0, .ref s1])), (s0, xI Z 121 sz2), (s1, xI Z 484 lt2)]) hC hP hD hS (c_number_no l Z q (by omega)) (gS wq_247 wq_245 wq_246 wq_35) rfl ks_X4_number ⟨rfl, rfl⟩ rfl hl.1 rfl ⟨Nat.le_of_ble_eq_true rfl, Nat.le_of_ble_eq_true rfl⟩ ([] : List Nat) [0, 1, 2] rfl rfl (by decide) (by decide) (by decide) rfl dX4_write_64 (fun r64 w1 H locs hw hP hD hS => ?_)
              obtain ⟨rfl, rfl⟩ := hw
              have hP : va_P Z.1 vwCl [(hp, .inr (4, [.ref s0, .ref s1])), (s0, xI Z 121 sz2), (s1, xI Z 484 lt2)] H := hP
              have hD : va_D A [(hp, .inr (4, [.ref s0, .ref s1])), (s0, xI Z 121 sz2), (s1, xI Z 484 lt2)] := hD
              refine lv_istore (lv' := [(4, .int (nI (xnum 100 q))), (7, .int ((-1))), (6, .int (nI (xby i (j + 1)))), (0, .ref hp), (1, .ref (Z.2.1.1 i)), (2, .int (nI q)), (3, .int (nI t)), (5, .int (nI j))]) hx hb dX4_write_67 hl (by decide) rfl (fun ls hl => ?_)
              refine lv_goto (tgt := 95) hx hb dX4_write_69 (by decide) ?_
              refine ln_iinc (k0 := 7) (k := 1) (j + 1) (lv' := [(5, .int (nI (j + 1))), (4, .int (nI (xnum 100 q))), (7, .int ((-1))), (6, .int (nI (xby i (j + 1)))), (0, .ref hp), (1, .ref (Z.2.1.1 i)), (2, .int (nI q)), (3, .int (nI t))]) hx hb dX4_write_95 hl rfl rfl (by first | rfl | omega) (by decide) rfl (fun ls hl => ?_)
              refine lv_goto (tgt := 6) hx hb dX4_write_98 (by decide) ?_
              exact ih  (j + 1) (xnum 100 q) T1 sz2 lt2 _ _ _ (by omega) (by rw [show xwl i q t (j + 1) (0, T) = xws i q t j (xwl i q t j (0, T)) from rfl, ← hX]; unfold xws; rw [show xbe i j = xby i (j + 1) by unfold xbe; rw [if_pos (show j + 1 < xTl.getD i 0 by omega)]]; rw [if_pos h58]; rw [hk9]) hT1 (xnum_le (by omega) hq) (by omega) hP hD hS (lv_sub hl [4, 5, 6, 7, 1, 0] rfl)
  exact hloop6 ((xTl.getD i 0 - 0) + 1) 0 0 T sz lt _ _ _ (Nat.zero_le _) rfl hT (by decide) (Nat.lt_succ_self _) hP hD hS (lv_sub hl [2, 3, 4, 5, 1, 0] rfl)
end
section
/-- the same over a pair's own 21 places -/
def lws (i q t j : Nat) (S : Nat × List (List Nat)) : Nat × List (List Nat) :=
  if xbe i j = 58 then (if xki i j = 100 then 0 else xki i j, S.2) else if xki i j = 100 then S
  else (S.1, if (S.2.getD S.1 []).length < 4 then S.2.set S.1 (S.2.getD S.1 [] ++ [xnum (xki i j) (xpm (xbe i j) q t)]) else S.2)
def lwl (i q t : Nat) : Nat → Nat × List (List Nat) → Nat × List (List Nat)
  | 0, S => S
  | j + 1, S => lws i q t j (lwl i q t j S)
def LT (q : Nat) (T0 : Nat → List Nat) (tab : List (List Nat)) : Nat → List Nat := fun c => if c = 0 then tab.getD 0 [] else if q * 20 < c ∧ c ≤ q * 20 + 20 then tab.getD (c - q * 20) [] else T0 c
theorem getD_set (l : List (List Nat)) (k j : Nat) (v : List Nat) (hk : k < l.length) : (l.set k v).getD j [] = if j = k then v else l.getD j [] := by
  simp only [List.getD_eq_getElem?_getD, List.getElem?_set]
  by_cases e : k = j
  · subst e; simp [hk]
  · rw [if_neg e, if_neg (fun q => e q.symm)]
theorem LT_at (q : Nat) (T0 : Nat → List Nat) (tab : List (List Nat)) {k : Nat} (hk : k < 21) : LT q T0 tab (xnum k q) = tab.getD k [] := by
  unfold LT xnum
  by_cases e : k = 0
  · subst e; rfl
  · rw [if_neg e, if_neg (show ¬ k = 100 by omega), if_neg (by omega), if_pos (by omega), show q * 20 + k - q * 20 = k by omega]
theorem LT_set (q : Nat) (T0 : Nat → List Nat) (tab : List (List Nat)) {k : Nat} (hk : k < 21) (hl : tab.length = 21) (v : List Nat) : va_up (LT q T0 tab) (xnum k q) v = LT q T0 (tab.set k v) := by
  funext c
  unfold va_up LT
  rw [getD_set _ _ _ _ (by omega), getD_set _ _ _ _ (by omega)]
  unfold xnum
  by_cases e : k = 0
  · subst e
    rw [if_pos rfl]
    by_cases e2 : c = 0
    · rw [if_pos e2, if_pos e2, if_pos rfl]
    · rw [if_neg e2, if_neg e2]
      by_cases e3 : q * 20 < c ∧ c ≤ q * 20 + 20
      · rw [if_pos e3, if_neg e2, if_pos e3, if_neg (by omega)]
      · rw [if_neg e3, if_neg e2, if_neg e3]
  · rw [if_neg e, if_neg (show ¬ k = 100 by omega)]
    by_cases e2 : c = 0
    · rw [if_neg (by omega), if_pos e2, if_pos e2, if_neg (by omega)]
    · rw [if_neg e2, if_neg e2]
      by_cases e3 : q * 20 < c ∧ c ≤ q * 20 + 20
      · rw [if_pos e3, if_pos e3]
        by_cases e4 : c = q * 20 + k
        · rw [if_pos e4, if_pos (by omega)]
        · rw [if_neg e4, if_neg (by omega)]
      · rw [if_neg e3, if_neg e3, if_neg (by omega)]
theorem lws_sim (i q t j : Nat) (T0 : Nat → List Nat) (S : Nat × List (List Nat)) (h1 : S.1 < 21) (h2 : S.2.length = 21) : xws i q t j (xnum S.1 q, LT q T0 S.2) = (xnum (lws i q t j S).1 q, LT q T0 (lws i q t j S).2) ∧ (lws i q t j S).1 < 21 ∧ (lws i q t j S).2.length = 21 := by
  have hk := xki_le i j
  unfold xws lws
  by_cases c1 : xbe i j = 58
  · rw [if_pos c1, if_pos c1]
    dsimp only
    by_cases c2 : xki i j = 100
    · rw [if_pos c2]
      refine ⟨?_, by omega, h2⟩
      rw [c2]
      rfl
    · rw [if_neg c2]
      exact ⟨rfl, by omega, h2⟩
  · rw [if_neg c1, if_neg c1]
    by_cases c2 : xki i j = 100
    · rw [if_pos c2, if_pos c2]
      exact ⟨rfl, h1, h2⟩
    · rw [if_neg c2, if_neg c2]
      dsimp only
      unfold xap
      rw [LT_at q T0 S.2 h1]
      by_cases c3 : (S.2.getD S.1 []).length < 4
      · rw [if_pos c3, if_pos c3]
        exact ⟨by rw [LT_set q T0 S.2 h1 h2], h1, by rw [List.length_set]; exact h2⟩
      · rw [if_neg c3, if_neg c3]
        exact ⟨rfl, h1, h2⟩
theorem lwl_sim (i q t : Nat) (T0 : Nat → List Nat) (tab : List (List Nat)) (hl : tab.length = 21) : ∀ n, xwl i q t n (0, LT q T0 tab) = (xnum (lwl i q t n (0, tab)).1 q, LT q T0 (lwl i q t n (0, tab)).2) ∧ (lwl i q t n (0, tab)).1 < 21 ∧ (lwl i q t n (0, tab)).2.length = 21
  | 0 => ⟨rfl, Nat.zero_lt_succ _, hl⟩
  | n + 1 => by
    obtain ⟨a, b, c⟩ := lwl_sim i q t T0 tab hl n
    show xws i q t n (xwl i q t n (0, LT q T0 tab)) = (xnum (lws i q t n (lwl i q t n (0, tab))).1 q, LT q T0 (lws i q t n (lwl i q t n (0, tab))).2) ∧ (lws i q t n (lwl i q t n (0, tab))).1 < 21 ∧ (lws i q t n (lwl i q t n (0, tab))).2.length = 21
    rw [a]
    exact lws_sim i q t n T0 _ b c
def lclr : List (List Nat) := List.replicate 21 []
def lnone (q : Nat) : List (List Nat) := (lwl 1 q 0 (xTl.getD 1 0) (0, lclr)).2
def lfol0 (q t : Nat) : List (List Nat) := (lwl 2 q t (xTl.getD 2 0) (0, lnone q)).2
def lfol1 (q y t : Nat) : List (List Nat) := (lwl (if y = 1 then 3 else 4) q t (xTl.getD (if y = 1 then 3 else 4) 0) (0, lfol0 q t)).2
def lfol (q w y t : Nat) : List (List Nat) := if w = 1 then (lwl (if y = 1 then 5 else 6) q t (xTl.getD (if y = 1 then 5 else 6) 0) (0, lfol1 q y t)).2 else lfol1 q y t
theorem lclr_len : lclr.length = 21 := rfl
theorem lnone_len (q : Nat) : (lnone q).length = 21 := (lwl_sim 1 q 0 (fun _ => []) lclr rfl _).2.2
theorem lfol0_len (q t : Nat) : (lfol0 q t).length = 21 := (lwl_sim 2 q t (fun _ => []) (lnone q) (lnone_len q) _).2.2
theorem lfol1_len (q y t : Nat) : (lfol1 q y t).length = 21 := (lwl_sim (if y = 1 then 3 else 4) q t (fun _ => []) (lfol0 q t) (lfol0_len q t) _).2.2
set_option maxRecDepth 100000 in
theorem lnone_chk : ((List.range 6).all fun q => (List.range 21).all fun j => decide ((lnone q).getD j [] = if j = 0 then [] else xprod (fun _ => none) (q * 20 + j))) = true := by decide +kernel
set_option maxRecDepth 100000 in
theorem lfol_chk : ((List.range 6).all fun q => (List.range 2).all fun w => (List.range 2).all fun y => (List.range 3).all fun t => decide (lfol q w y t = (List.range 21).map fun j => if j = 0 then [] else xprod (fun _ => some (w, y, t)) (q * 20 + j))) = true := by decide +kernel
theorem lnone_ok {q j : Nat} (hq : q < 6) (hj : j < 21) : (lnone q).getD j [] = if j = 0 then [] else xprod (fun _ => none) (q * 20 + j) := by
  have h := List.all_eq_true.mp (List.all_eq_true.mp lnone_chk q (List.mem_range.mpr hq)) j (List.mem_range.mpr hj)
  exact of_decide_eq_true h
theorem lfol_ok {q w y t j : Nat} (hq : q < 6) (hw : w < 2) (hy : y < 2) (ht : t < 3) (hj : j < 21) : (lfol q w y t).getD j [] = if j = 0 then [] else xprod (fun _ => some (w, y, t)) (q * 20 + j) := by
  have h := of_decide_eq_true (List.all_eq_true.mp (List.all_eq_true.mp (List.all_eq_true.mp (List.all_eq_true.mp lfol_chk q (List.mem_range.mpr hq)) w (List.mem_range.mpr hw)) y (List.mem_range.mpr hy)) t (List.mem_range.mpr ht))
  rw [h, List.getD_eq_getElem?_getD, List.getElem?_map, List.getElem?_range hj]
  rfl
theorem xprod_at {R R' : xRl} {c : Nat} (h : R ((c - 1) / 20) = R' ((c - 1) / 20)) : xprod R c = xprod R' c := by
  unfold xprod
  rw [h]
theorem LT_prod {R : xRl} {q : Nat} (hq : q < 6) (z : Option (Nat × Nat × Nat)) (tab : List (List Nat)) (htab : ∀ j, j < 21 → tab.getD j [] = if j = 0 then [] else xprod (fun _ => z) (q * 20 + j)) {T : Nat → List Nat} {c : Nat} (hT : ¬ (q * 20 < c ∧ c ≤ q * 20 + 20) → T c = xprod R c) : LT q T tab c = xprod (va_up R q z) c := by
  unfold LT
  by_cases e : c = 0
  · subst e
    rw [if_pos rfl, htab 0 (by decide)]
    rfl
  · rw [if_neg e]
    by_cases e2 : q * 20 < c ∧ c ≤ q * 20 + 20
    · rw [if_pos e2, htab _ (by omega), if_neg (by omega), show q * 20 + (c - q * 20) = c by omega]
      apply xprod_at
      rw [show (c - 1) / 20 = q by omega]
      exact (va_up_self R q z).symm
    · rw [if_neg e2, hT e2]
      apply xprod_at
      rw [va_up_ne _ _ (by omega)]
theorem LT_none {R : xRl} {q : Nat} (hq : q < 6) {T : Nat → List Nat} {c : Nat} (hT : ¬ (q * 20 < c ∧ c ≤ q * 20 + 20) → T c = xprod R c) : LT q T (lnone q) c = xprod (va_up R q none) c := LT_prod hq none _ (fun j hj => lnone_ok hq hj) hT
theorem LT_fol {R : xRl} {q w y t : Nat} (hq : q < 6) (hw : w < 2) (hy : y < 2) (ht : t < 3) {T : Nat → List Nat} {c : Nat} (hT : ¬ (q * 20 < c ∧ c ≤ q * 20 + 20) → T c = xprod R c) : LT q T (lfol q w y t) c = xprod (va_up R q (some (w, y, t))) c := LT_prod hq _ _ (fun j hj => lfol_ok hq hw hy ht hj) hT
theorem LT_clr {q : Nat} (hq : q < 6) {T T1 : Nat → List Nat} (h0 : T 0 = []) (h : ∀ c, T1 c = if q * 20 < c ∧ c < q * 20 + 21 then [] else T c) (c : Nat) : LT q T lclr c = T1 c := by
  rw [h]
  unfold LT lclr
  by_cases e : c = 0
  · subst e
    rw [if_pos rfl, if_neg (by omega), h0]
    rfl
  · rw [if_neg e]
    by_cases e2 : q * 20 < c ∧ c ≤ q * 20 + 20
    · rw [if_pos e2, if_pos (by omega), List.getD_eq_getElem?_getD, List.getElem?_replicate, if_pos (by omega)]
      rfl
    · rw [if_neg e2, if_neg (by omega)]
theorem clr_step {q k : Nat} {T T1 : Nat → List Nat} (hk : 1 ≤ k) (h : ∀ c, T1 c = if q * 20 < c ∧ c < q * 20 + k then [] else T c) (c : Nat) : va_up T1 (q * 20 + k) [] c = if q * 20 < c ∧ c < q * 20 + (k + 1) then [] else T c := by
  unfold va_up
  rw [h]
  by_cases e : c = q * 20 + k
  · rw [if_pos e, if_pos (by omega)]
  · rw [if_neg e]
    by_cases e2 : q * 20 < c ∧ c < q * 20 + k
    · rw [if_pos e2, if_pos (by omega)]
    · rw [if_neg e2, if_neg (by omega)]

theorem kv_X4_write : yX4_write.cls = RX4 ∧ yX4_write.cls ≠ "java/lang/invoke/MethodHandle" ∧ yX4_write.cls ≠ "java/lang/invoke/VarHandle" ∧ (parseMethodDescriptor yX4_write.desc).map (fun d => d.parameters.length) = some 3 := by decide +kernel
set_option maxHeartbeats 4000000 in
set_option maxRecDepth 100000 in
theorem c_X4_followNone (l : Launch) (Z : xZ) (hp s0 s1 : Nat) (sz lt : Nat → Nat) (T : Nat → List Nat) (hT : TR T sz lt) (h0 : T 0 = []) (q : Nat) (hq : q < 6) : xMv l Z yX4_followNone vX4_followNone ({ frames := 5, cells := 0, slots := 0, locals := 118 } : Room) [.ref hp, .int (nI q)] [(hp, .inr (4, [.ref s0, .ref s1])), (s0, xI Z 121 sz), (s1, xI Z 484 lt)] (fun w => ∃ sz2 lt2, TR (LT q T (lnone q)) sz2 lt2 ∧ w = [(hp, .inr (4, [.ref s0, .ref s1])), (s0, xI Z 121 sz2), (s1, xI Z 484 lt2)]) := by
  refine x_v (by decide) rfl (Nat.le_of_ble_eq_true rfl) ?_
  intro p e s m args below meth c ls A hC hr hk hname hl hP hD hS
  have hx := hC.1.1
  have hb := hC.1.2.1
  have hml := hC.1.2.2.1
  have hown : s.vm.findClass RX4 = some m.cls := hC.1.2.2.2.1
  have hts := hC.1.2.2.2.2
  have hK := hC.2.1
  have qq_258 := hts (Cond.fieldLink RX4 9 "TagTower$Productions" "sizes" "[I") (List.mem_cons_of_mem _ wq_258)
  have iX4 : ∀ w ∈ wsX40, w ∈ vX4_followNone := fun w h => List.mem_cons_of_mem _ (wi_X4 w h)
  have hl : lv_has ls 3 [(0, .ref hp), (1, .int (nI q))] := hl
  have hP : va_P Z.1 vwCl [(hp, .inr (4, [.ref s0, .ref s1])), (s0, xI Z 121 sz), (s1, xI Z 484 lt)] s.heap := hP
  have hD : va_D A [(hp, .inr (4, [.ref s0, .ref s1])), (s0, xI Z 121 sz), (s1, xI Z 484 lt)] := hD
  refine ln_const 1 hx hb dX4_followNone_0 (by decide) ?_
  refine lv_istore_n (lv' := [(2, .int (nI 1)), (0, .ref hp), (1, .int (nI q))]) hx hb dX4_followNone_1 rfl hl (by decide) rfl (fun ls hl => ?_)
  have hloop2 : ∀ (nn : Nat) (k : Nat) (T1 : Nat → List Nat) (sz1 : Nat → Nat) (H : Heap) (locs : List Loc) (ls : Array Slot) (hk1 : 1 ≤ k ∧ k ≤ 21) (hT1 : TR T1 sz1 lt) (hX : ∀ c1, T1 c1 = if q * 20 < c1 ∧ c1 < q * 20 + k then [] else T c1) (hmu : 21 - k < nn) (hP : va_P Z.1 vwCl [(hp, .inr (4, [.ref s0, .ref s1])), (s0, xI Z 121 sz1), (s1, xI Z 484 lt)] H) (hD : va_D A [(hp, .inr (4, [.ref s0, .ref s1])), (s0, xI Z 121 sz1), (s1, xI Z 484 lt)]) (hS : va_S A s.heap H locs) (hl : lv_has ls 3 [(0, .ref hp), (1, .int (nI q)), (2, .int (nI k))]), W p l e ({ frames := 5, cells := 0, slots := 0, locals := 118 } : Room) s m args below meth c H locs 0 0 (MQ below (va_Qv (fun w => ∃ sz2 lt2, TR (LT q T (lnone q)) sz2 lt2 ∧ w = [(hp, .inr (4, [.ref s0, .ref s1])), (s0, xI Z 121 sz2), (s1, xI Z 484 lt2)]) (xB Z A) A) args s ({ frames := 5, cells := 0, slots := 0, locals := 118 } : Room).cells ({ frames := 5, cells := 0, slots := 0, locals := 118 } : Room).slots A) (F0 m 2 ls []) := by
    intro nn
    induction nn with
    | zero => intro k T1 sz1 H locs ls hk1 hT1 hX hmu; exact absurd hmu (Nat.not_lt_zero _)
    | succ nn ih =>
      intro k T1 sz1 H locs ls hk1 hT1 hX hmu hP hD hS hl
      refine lv_iload_n hx hb dX4_followNone_2 rfl (lv_at hl 2 rfl) ?_
      refine ln_bipush 20 hx hb dX4_followNone_3 (by decide) ?_
      refine ln_icmp_gt (tgt := 26) hx hb dX4_followNone_5 (by decide) (by omega) (by omega) (fun h5 => ?_) (fun h5 => ?_)
      · refine lv_aload_n hx hb dX4_followNone_26 rfl (lv_at hl 0 rfl) ?_
        have hT2 := hT1.congr (T' := LT q T lclr) (fun c1 _ => LT_clr hq h0 (by rw [show (21 : Nat) = k by omega]; exact hX) c1)
        refine va_ldcS hx hb hown (hC.2.2.2.2.2.1 1 (by decide)) dX4_followNone_27 ?_
        refine lv_iload_n hx hb dX4_followNone_29 rfl (lv_at hl 1 rfl) ?_
        refine ln_const 0 hx hb dX4_followNone_30 (by decide) ?_
        refine x_Vv (y := yX4_write) (As := [.ref (Z.2.1.1 1), .int (nI q), .int (nI 0)]) (wc := [(hp, .inr (4, [.ref s0, .ref s1])), (s0, xI Z 121 sz1), (s1, xI Z 484 lt)]) (wr := []) hC hP hD hS (c_X4_write l Z hp s0 s1 sz1 lt (LT q T lclr) hT2 1 q 0 (by decide) hq (by omega)) (gV wq_136 wq_133 wq_135 wq_0 wq_35) rfl kv_X4_write rfl rfl ⟨rfl, rfl⟩ rfl hl.1 rfl ⟨Nat.le_of_ble_eq_true rfl, Nat.le_of_ble_eq_true rfl⟩ [0, 1, 2] ([] : List Nat) rfl rfl (by decide) (by decide) (by decide) rfl dX4_followNone_31 (fun w1 H locs hw hP hD hS => ?_)
        obtain ⟨sz2, lt2, hT3, rfl⟩ := hw
        have hP : va_P Z.1 vwCl [(hp, .inr (4, [.ref s0, .ref s1])), (s0, xI Z 121 sz2), (s1, xI Z 484 lt2)] H := hP
        have hD : va_D A [(hp, .inr (4, [.ref s0, .ref s1])), (s0, xI Z 121 sz2), (s1, xI Z 484 lt2)] := hD
        rw [(lwl_sim 1 q 0 T lclr rfl _).1] at hT3
        exact x_vret hC hr hk hP hD hS dX4_followNone_34 ⟨sz2, lt2, hT3, rfl⟩
      · refine lv_aload_n hx hb dX4_followNone_8 rfl (lv_at hl 0 rfl) ?_
        refine va_get (D := Z.1) (ci := 4) (v := .ref s0) (C := RX4) (T := TX4) (N := 2) hx hb hts iX4 hown hK hP 0 rfl rfl 0 (Nat.le_of_ble_eq_true rfl) qq_258 (fun _ h9 => h9) rfl dX4_followNone_9 ?_
        refine lv_iload_n hx hb dX4_followNone_12 rfl (lv_at hl 1 rfl) ?_
        refine ln_bipush 20 hx hb dX4_followNone_13 (by decide) ?_
        refine ln_imul (q * 20) hx hb dX4_followNone_15 (by first | rfl | omega) ?_
        refine lv_iload_n hx hb dX4_followNone_16 rfl (lv_at hl 2 rfl) ?_
        refine ln_iadd ((q * 20) + k) hx hb dX4_followNone_17 (by first | rfl | omega) ?_
        refine ln_const 0 hx hb dX4_followNone_18 (by decide) ?_
        refine ln_iast hx hb hK hP hD hS 1 rfl (by omega) (by omega) dX4_followNone_19 (fun H locs hP hD hS => ?_)
        have hP : va_P Z.1 vwCl [(hp, .inr (4, [.ref s0, .ref s1])), (s0, xI Z 121 (va_up sz1 ((q * 20) + k) 0)), (s1, xI Z 484 lt)] H := hP
        have hD : va_D A [(hp, .inr (4, [.ref s0, .ref s1])), (s0, xI Z 121 (va_up sz1 ((q * 20) + k) 0)), (s1, xI Z 484 lt)] := hD
        refine ln_iinc (k0 := 2) (k := 1) (k + 1) (lv' := [(2, .int (nI (k + 1))), (0, .ref hp), (1, .int (nI q))]) hx hb dX4_followNone_20 hl rfl rfl (by first | rfl | omega) (by decide) rfl (fun ls hl => ?_)
        refine lv_goto (tgt := 2) hx hb dX4_followNone_23 (by decide) ?_
        exact ih  (k + 1) _ _ _ _ _ (by omega) (hT1.cut (q * 20 + k)) (clr_step hk1.1 hX) (by omega) hP hD hS (lv_sub hl [1, 2, 0] rfl)
  exact hloop2 ((21 - 1) + 1) 1 T sz _ _ _ ⟨Nat.le_refl 1, by decide⟩ hT (fun c1 => by rw [if_neg (by omega)]) (Nat.lt_succ_self _) hP hD hS (lv_sub hl [1, 2, 0] rfl)

theorem kv_X4_followNone : yX4_followNone.cls = RX4 ∧ yX4_followNone.cls ≠ "java/lang/invoke/MethodHandle" ∧ yX4_followNone.cls ≠ "java/lang/invoke/VarHandle" ∧ (parseMethodDescriptor yX4_followNone.desc).map (fun d => d.parameters.length) = some 1 := by decide +kernel
set_option maxHeartbeats 4000000 in
set_option maxRecDepth 100000 in
theorem c_X4_follow (l : Launch) (Z : xZ) (hp s0 s1 : Nat) (sz lt : Nat → Nat) (T : Nat → List Nat) (hT : TR T sz lt) (h0 : T 0 = []) (q w y t : Nat) (hq : q < 6) (hw : w < 2) (hy : y < 2) (ht : t < 3) : xMv l Z yX4_follow vX4_follow ({ frames := 6, cells := 0, slots := 0, locals := 140 } : Room) [.ref hp, .int (nI q), .int (nI w), .int (nI y), .int (nI t)] [(hp, .inr (4, [.ref s0, .ref s1])), (s0, xI Z 121 sz), (s1, xI Z 484 lt)] (fun v => ∃ sz2 lt2, TR (LT q T (lfol q w y t)) sz2 lt2 ∧ v = [(hp, .inr (4, [.ref s0, .ref s1])), (s0, xI Z 121 sz2), (s1, xI Z 484 lt2)]) := by
  refine x_v (by decide) rfl (Nat.le_of_ble_eq_true rfl) ?_
  intro p e s m args below meth c ls A hC hr hk hname hl hP hD hS
  have hx := hC.1.1
  have hb := hC.1.2.1
  have hml := hC.1.2.2.1
  have hown : s.vm.findClass RX4 = some m.cls := hC.1.2.2.2.1
  have hts := hC.1.2.2.2.2
  have hK := hC.2.1
  have hl : lv_has ls 6 [(0, .ref hp), (1, .int (nI q)), (2, .int (nI w)), (3, .int (nI y)), (4, .int (nI t))] := hl
  have hP : va_P Z.1 vwCl [(hp, .inr (4, [.ref s0, .ref s1])), (s0, xI Z 121 sz), (s1, xI Z 484 lt)] s.heap := hP
  have hD : va_D A [(hp, .inr (4, [.ref s0, .ref s1])), (s0, xI Z 121 sz), (s1, xI Z 484 lt)] := hD
  refine lv_iload_n hx hb dX4_follow_0 rfl (lv_at hl 3 rfl) ?_
  refine ln_const 1 hx hb dX4_follow_1 (by decide) ?_
  refine ln_icmp_ne (tgt := 9) hx hb dX4_follow_2 (by decide) (by omega) (by omega) (fun h2 => ?_) (fun h2 => ?_)
  · refine ln_const 0 hx hb dX4_follow_9 (by decide) ?_
    refine lv_istore (lv' := [(5, .int (nI 0)), (0, .ref hp), (1, .int (nI q)), (2, .int (nI w)), (3, .int (nI y)), (4, .int (nI t))]) hx hb dX4_follow_10 hl (by decide) rfl (fun ls hl => ?_)
    refine lv_aload_n hx hb dX4_follow_12 rfl (lv_at hl 1 rfl) ?_
    refine lv_iload_n hx hb dX4_follow_13 rfl (lv_at hl 2 rfl) ?_
    refine x_Vv (y := yX4_followNone) (As := [.int (nI q)]) (wc := [(hp, .inr (4, [.ref s0, .ref s1])), (s0, xI Z 121 sz), (s1, xI Z 484 lt)]) (wr := []) hC hP hD hS (c_X4_followNone l Z hp s0 s1 sz lt T hT h0 q hq) (gV wq_131 wq_128 wq_129 wq_130 wq_35) rfl kv_X4_followNone rfl rfl ⟨rfl, rfl⟩ rfl hl.1 rfl ⟨Nat.le_of_ble_eq_true rfl, Nat.le_of_ble_eq_true rfl⟩ [0, 1, 2] ([] : List Nat) rfl rfl (by decide) (by decide) (by decide) rfl dX4_follow_14 (fun w1 H locs hw hP hD hS => ?_)
    obtain ⟨sz2, lt2, hT2, rfl⟩ := hw
    have hP : va_P Z.1 vwCl [(hp, .inr (4, [.ref s0, .ref s1])), (s0, xI Z 121 sz2), (s1, xI Z 484 lt2)] H := hP
    have hD : va_D A [(hp, .inr (4, [.ref s0, .ref s1])), (s0, xI Z 121 sz2), (s1, xI Z 484 lt2)] := hD
    refine lv_aload_n hx hb dX4_follow_17 rfl (lv_at hl 1 rfl) ?_
    refine va_ldcS hx hb hown (hC.2.2.2.2.2.1 2 (by decide)) dX4_follow_18 ?_
    refine lv_iload_n hx hb dX4_follow_20 rfl (lv_at hl 2 rfl) ?_
    refine lv_iload hx hb dX4_follow_21 (lv_at hl 5 rfl) ?_
    refine x_Vv (y := yX4_write) (As := [.ref (Z.2.1.1 2), .int (nI q), .int (nI t)]) (wc := [(hp, .inr (4, [.ref s0, .ref s1])), (s0, xI Z 121 sz2), (s1, xI Z 484 lt2)]) (wr := []) hC hP hD hS (c_X4_write l Z hp s0 s1 sz2 lt2 (LT q T (lnone q)) hT2 2 q t (by decide) hq (by omega)) (gV wq_136 wq_133 wq_135 wq_0 wq_35) rfl kv_X4_write rfl rfl ⟨rfl, rfl⟩ rfl hl.1 rfl ⟨Nat.le_of_ble_eq_true rfl, Nat.le_of_ble_eq_true rfl⟩ [0, 1, 2] ([] : List Nat) rfl rfl (by decide) (by decide) (by decide) rfl dX4_follow_23 (fun w1 H locs hw hP hD hS => ?_)
    obtain ⟨sz3, lt3, hT3, rfl⟩ := hw
    have hP : va_P Z.1 vwCl [(hp, .inr (4, [.ref s0, .ref s1])), (s0, xI Z 121 sz3), (s1, xI Z 484 lt3)] H := hP
    have hD : va_D A [(hp, .inr (4, [.ref s0, .ref s1])), (s0, xI Z 121 sz3), (s1, xI Z 484 lt3)] := hD
    rw [(lwl_sim 2 q t T (lnone q) (lnone_len q) _).1] at hT3
    refine lv_aload_n hx hb dX4_follow_26 rfl (lv_at hl 1 rfl) ?_
    refine lv_iload hx hb dX4_follow_27 (lv_at hl 0 rfl) ?_
    refine ln_if_eq (tgt := 37) hx hb dX4_follow_29 (by decide) (by omega) (fun h29 => ?_) (fun h29 => False.elim (by omega))
    refine va_ldcS hx hb hown (hC.2.2.2.2.2.1 4 (by decide)) dX4_follow_37 ?_
    refine lv_iload_n hx hb dX4_follow_39 rfl (lv_at hl 2 rfl) ?_
    refine lv_iload hx hb dX4_follow_40 (lv_at hl 5 rfl) ?_
    refine x_Vv (y := yX4_write) (As := [.ref (Z.2.1.1 4), .int (nI q), .int (nI t)]) (wc := [(hp, .inr (4, [.ref s0, .ref s1])), (s0, xI Z 121 sz3), (s1, xI Z 484 lt3)]) (wr := []) hC hP hD hS (c_X4_write l Z hp s0 s1 sz3 lt3 (LT q T (lfol0 q t)) hT3 4 q t (by decide) hq (by omega)) (gV wq_136 wq_133 wq_135 wq_0 wq_35) rfl kv_X4_write rfl rfl ⟨rfl, rfl⟩ rfl hl.1 rfl ⟨Nat.le_of_ble_eq_true rfl, Nat.le_of_ble_eq_true rfl⟩ [0, 1, 2] ([] : List Nat) rfl rfl (by decide) (by decide) (by decide) rfl dX4_follow_42 (fun w1 H locs hw hP hD hS => ?_)
    obtain ⟨sz4, lt4, hT4, rfl⟩ := hw
    have hP : va_P Z.1 vwCl [(hp, .inr (4, [.ref s0, .ref s1])), (s0, xI Z 121 sz4), (s1, xI Z 484 lt4)] H := hP
    have hD : va_D A [(hp, .inr (4, [.ref s0, .ref s1])), (s0, xI Z 121 sz4), (s1, xI Z 484 lt4)] := hD
    rw [(lwl_sim 4 q t T (lfol0 q t) (lfol0_len q t) _).1] at hT4
    have hT5 : TR (LT q T (lfol1 q y t)) sz4 lt4 := by unfold lfol1; simp only [if_neg h2]; exact hT4
    refine lv_iload_n hx hb dX4_follow_45 rfl (lv_at hl 3 rfl) ?_
    refine ln_const 1 hx hb dX4_follow_46 (by decide) ?_
    refine ln_icmp_ne (tgt := 69) hx hb dX4_follow_47 (by decide) (by omega) (by omega) (fun h47 => ?_) (fun h47 => ?_)
    · exact x_vret hC hr hk hP hD hS dX4_follow_69 ⟨sz4, lt4, by unfold lfol; rw [if_neg h47]; exact hT5, rfl⟩
    · refine lv_aload_n hx hb dX4_follow_50 rfl (lv_at hl 1 rfl) ?_
      refine lv_iload hx hb dX4_follow_51 (lv_at hl 0 rfl) ?_
      refine ln_if_eq (tgt := 61) hx hb dX4_follow_53 (by decide) (by omega) (fun h53 => ?_) (fun h53 => False.elim (by omega))
      refine va_ldcS hx hb hown (hC.2.2.2.2.2.1 6 (by decide)) dX4_follow_61 ?_
      refine lv_iload_n hx hb dX4_follow_63 rfl (lv_at hl 2 rfl) ?_
      refine lv_iload hx hb dX4_follow_64 (lv_at hl 5 rfl) ?_
      refine x_Vv (y := yX4_write) (As := [.ref (Z.2.1.1 6), .int (nI q), .int (nI t)]) (wc := [(hp, .inr (4, [.ref s0, .ref s1])), (s0, xI Z 121 sz4), (s1, xI Z 484 lt4)]) (wr := []) hC hP hD hS (c_X4_write l Z hp s0 s1 sz4 lt4 (LT q T (lfol1 q y t)) hT5 6 q t (by decide) hq (by omega)) (gV wq_136 wq_133 wq_135 wq_0 wq_35) rfl kv_X4_write rfl rfl ⟨rfl, rfl⟩ rfl hl.1 rfl ⟨Nat.le_of_ble_eq_true rfl, Nat.le_of_ble_eq_true rfl⟩ [0, 1, 2] ([] : List Nat) rfl rfl (by decide) (by decide) (by decide) rfl dX4_follow_66 (fun w1 H locs hw hP hD hS => ?_)
      obtain ⟨sz6, lt6, hT6, rfl⟩ := hw
      have hP : va_P Z.1 vwCl [(hp, .inr (4, [.ref s0, .ref s1])), (s0, xI Z 121 sz6), (s1, xI Z 484 lt6)] H := hP
      have hD : va_D A [(hp, .inr (4, [.ref s0, .ref s1])), (s0, xI Z 121 sz6), (s1, xI Z 484 lt6)] := hD
      rw [(lwl_sim 6 q t T (lfol1 q y t) (lfol1_len q y t) _).1] at hT6
      exact x_vret hC hr hk hP hD hS dX4_follow_69 ⟨sz6, lt6, by unfold lfol; simp only [if_neg h2, if_pos h47]; exact hT6, rfl⟩
  · refine ln_const 1 hx hb dX4_follow_5 (by decide) ?_
    refine lv_goto (tgt := 10) hx hb dX4_follow_6 (by decide) ?_
    refine lv_istore (lv' := [(5, .int (nI 1)), (0, .ref hp), (1, .int (nI q)), (2, .int (nI w)), (3, .int (nI y)), (4, .int (nI t))]) hx hb dX4_follow_10 hl (by decide) rfl (fun ls hl => ?_)
    refine lv_aload_n hx hb dX4_follow_12 rfl (lv_at hl 1 rfl) ?_
    refine lv_iload_n hx hb dX4_follow_13 rfl (lv_at hl 2 rfl) ?_
    refine x_Vv (y := yX4_followNone) (As := [.int (nI q)]) (wc := [(hp, .inr (4, [.ref s0, .ref s1])), (s0, xI Z 121 sz), (s1, xI Z 484 lt)]) (wr := []) hC hP hD hS (c_X4_followNone l Z hp s0 s1 sz lt T hT h0 q hq) (gV wq_131 wq_128 wq_129 wq_130 wq_35) rfl kv_X4_followNone rfl rfl ⟨rfl, rfl⟩ rfl hl.1 rfl ⟨Nat.le_of_ble_eq_true rfl, Nat.le_of_ble_eq_true rfl⟩ [0, 1, 2] ([] : List Nat) rfl rfl (by decide) (by decide) (by decide) rfl dX4_follow_14 (fun w1 H locs hw hP hD hS => ?_)
    obtain ⟨sz2, lt2, hT2, rfl⟩ := hw
    have hP : va_P Z.1 vwCl [(hp, .inr (4, [.ref s0, .ref s1])), (s0, xI Z 121 sz2), (s1, xI Z 484 lt2)] H := hP
    have hD : va_D A [(hp, .inr (4, [.ref s0, .ref s1])), (s0, xI Z 121 sz2), (s1, xI Z 484 lt2)] := hD
    refine lv_aload_n hx hb dX4_follow_17 rfl (lv_at hl 1 rfl) ?_
    refine va_ldcS hx hb hown (hC.2.2.2.2.2.1 2 (by decide)) dX4_follow_18 ?_
    refine lv_iload_n hx hb dX4_follow_20 rfl (lv_at hl 2 rfl) ?_
    refine lv_iload hx hb dX4_follow_21 (lv_at hl 5 rfl) ?_
    refine x_Vv (y := yX4_write) (As := [.ref (Z.2.1.1 2), .int (nI q), .int (nI t)]) (wc := [(hp, .inr (4, [.ref s0, .ref s1])), (s0, xI Z 121 sz2), (s1, xI Z 484 lt2)]) (wr := []) hC hP hD hS (c_X4_write l Z hp s0 s1 sz2 lt2 (LT q T (lnone q)) hT2 2 q t (by decide) hq (by omega)) (gV wq_136 wq_133 wq_135 wq_0 wq_35) rfl kv_X4_write rfl rfl ⟨rfl, rfl⟩ rfl hl.1 rfl ⟨Nat.le_of_ble_eq_true rfl, Nat.le_of_ble_eq_true rfl⟩ [0, 1, 2] ([] : List Nat) rfl rfl (by decide) (by decide) (by decide) rfl dX4_follow_23 (fun w1 H locs hw hP hD hS => ?_)
    obtain ⟨sz3, lt3, hT3, rfl⟩ := hw
    have hP : va_P Z.1 vwCl [(hp, .inr (4, [.ref s0, .ref s1])), (s0, xI Z 121 sz3), (s1, xI Z 484 lt3)] H := hP
    have hD : va_D A [(hp, .inr (4, [.ref s0, .ref s1])), (s0, xI Z 121 sz3), (s1, xI Z 484 lt3)] := hD
    rw [(lwl_sim 2 q t T (lnone q) (lnone_len q) _).1] at hT3
    refine lv_aload_n hx hb dX4_follow_26 rfl (lv_at hl 1 rfl) ?_
    refine lv_iload hx hb dX4_follow_27 (lv_at hl 0 rfl) ?_
    refine ln_if_eq (tgt := 37) hx hb dX4_follow_29 (by decide) (by omega) (fun h29 => False.elim (by omega)) (fun h29 => ?_)
    refine va_ldcS hx hb hown (hC.2.2.2.2.2.1 3 (by decide)) dX4_follow_32 ?_
    refine lv_goto (tgt := 39) hx hb dX4_follow_34 (by decide) ?_
    refine lv_iload_n hx hb dX4_follow_39 rfl (lv_at hl 2 rfl) ?_
    refine lv_iload hx hb dX4_follow_40 (lv_at hl 5 rfl) ?_
    refine x_Vv (y := yX4_write) (As := [.ref (Z.2.1.1 3), .int (nI q), .int (nI t)]) (wc := [(hp, .inr (4, [.ref s0, .ref s1])), (s0, xI Z 121 sz3), (s1, xI Z 484 lt3)]) (wr := []) hC hP hD hS (c_X4_write l Z hp s0 s1 sz3 lt3 (LT q T (lfol0 q t)) hT3 3 q t (by decide) hq (by omega)) (gV wq_136 wq_133 wq_135 wq_0 wq_35) rfl kv_X4_write rfl rfl ⟨rfl, rfl⟩ rfl hl.1 rfl ⟨Nat.le_of_ble_eq_true rfl, Nat.le_of_ble_eq_true rfl⟩ [0, 1, 2] ([] : List Nat) rfl rfl (by decide) (by decide) (by decide) rfl dX4_follow_42 (fun w1 H locs hw hP hD hS => ?_)
    obtain ⟨sz4, lt4, hT4, rfl⟩ := hw
    have hP : va_P Z.1 vwCl [(hp, .inr (4, [.ref s0, .ref s1])), (s0, xI Z 121 sz4), (s1, xI Z 484 lt4)] H := hP
    have hD : va_D A [(hp, .inr (4, [.ref s0, .ref s1])), (s0, xI Z 121 sz4), (s1, xI Z 484 lt4)] := hD
    rw [(lwl_sim 3 q t T (lfol0 q t) (lfol0_len q t) _).1] at hT4
    have hT5 : TR (LT q T (lfol1 q y t)) sz4 lt4 := by unfold lfol1; simp only [if_pos h2]; exact hT4
    refine lv_iload_n hx hb dX4_follow_45 rfl (lv_at hl 3 rfl) ?_
    refine ln_const 1 hx hb dX4_follow_46 (by decide) ?_
    refine ln_icmp_ne (tgt := 69) hx hb dX4_follow_47 (by decide) (by omega) (by omega) (fun h47 => ?_) (fun h47 => ?_)
    · exact x_vret hC hr hk hP hD hS dX4_follow_69 ⟨sz4, lt4, by unfold lfol; rw [if_neg h47]; exact hT5, rfl⟩
    · refine lv_aload_n hx hb dX4_follow_50 rfl (lv_at hl 1 rfl) ?_
      refine lv_iload hx hb dX4_follow_51 (lv_at hl 0 rfl) ?_
      refine ln_if_eq (tgt := 61) hx hb dX4_follow_53 (by decide) (by omega) (fun h53 => False.elim (by omega)) (fun h53 => ?_)
      refine va_ldcS hx hb hown (hC.2.2.2.2.2.1 5 (by decide)) dX4_follow_56 ?_
      refine lv_goto (tgt := 63) hx hb dX4_follow_58 (by decide) ?_
      refine lv_iload_n hx hb dX4_follow_63 rfl (lv_at hl 2 rfl) ?_
      refine lv_iload hx hb dX4_follow_64 (lv_at hl 5 rfl) ?_
      refine x_Vv (y := yX4_write) (As := [.ref (Z.2.1.1 5), .int (nI q), .int (nI t)]) (wc := [(hp, .inr (4, [.ref s0, .ref s1])), (s0, xI Z 121 sz4), (s1, xI Z 484 lt4)]) (wr := []) hC hP hD hS (c_X4_write l Z hp s0 s1 sz4 lt4 (LT q T (lfol1 q y t)) hT5 5 q t (by decide) hq (by omega)) (gV wq_136 wq_133 wq_135 wq_0 wq_35) rfl kv_X4_write rfl rfl ⟨rfl, rfl⟩ rfl hl.1 rfl ⟨Nat.le_of_ble_eq_true rfl, Nat.le_of_ble_eq_true rfl⟩ [0, 1, 2] ([] : List Nat) rfl rfl (by decide) (by decide) (by decide) rfl dX4_follow_66 (fun w1 H locs hw hP hD hS => ?_)
      obtain ⟨sz6, lt6, hT6, rfl⟩ := hw
      have hP : va_P Z.1 vwCl [(hp, .inr (4, [.ref s0, .ref s1])), (s0, xI Z 121 sz6), (s1, xI Z 484 lt6)] H := hP
      have hD : va_D A [(hp, .inr (4, [.ref s0, .ref s1])), (s0, xI Z 121 sz6), (s1, xI Z 484 lt6)] := hD
      rw [(lwl_sim 5 q t T (lfol1 q y t) (lfol1_len q y t) _).1] at hT6
      exact x_vret hC hr hk hP hD hS dX4_follow_69 ⟨sz6, lt6, by unfold lfol; simp only [if_pos h2, if_pos h47]; exact hT6, rfl⟩
end
section
/-- a place as a word -/
def xtw (c : Nat) : Nat → List Nat
  | 0 => []
  | n + 1 => xtw c n ++ [c, 0]
def xlay (q f g : Nat) : List Nat := xtw (xof q 0) 1 ++ xtw (xof q 1) f ++ xtw (xof q 4) 1 ++ xtw (xof q 5) g
theorem xtw_len (c : Nat) : ∀ n, (xtw c n).length = 2 * n
  | 0 => rfl
  | n + 1 => by
    show (xtw c n ++ [c, 0]).length = _
    rw [List.length_append, xtw_len c n]
    simp only [List.length_cons, List.length_nil]
    omega
theorem xlay_len (q f g : Nat) : (xlay q f g).length = 4 + 2 * f + 2 * g := by
  unfold xlay
  simp only [List.length_append, xtw_len]
  omega
theorem getD_app (a b : List Nat) (i : Nat) : (a ++ b).getD i 0 = if i < a.length then a.getD i 0 else b.getD (i - a.length) 0 := by
  simp only [List.getD_eq_getElem?_getD]
  by_cases h : i < a.length
  · rw [if_pos h, List.getElem?_append_left h]
  · rw [if_neg h, List.getElem?_append_right (by omega)]
theorem xtw_at (c : Nat) : ∀ n i, i < 2 * n → (xtw c n).getD i 0 = if i % 2 = 0 then c else 0
  | 0, i, h => by omega
  | n + 1, i, h => by
    show (xtw c n ++ [c, 0]).getD i 0 = _
    rw [getD_app, xtw_len]
    by_cases h2 : i < 2 * n
    · rw [if_pos h2, xtw_at c n i h2]
    · rw [if_neg h2]
      rcases (show i = 2 * n ∨ i = 2 * n + 1 by omega) with e | e
      · rw [e, show 2 * n - 2 * n = 0 by omega, if_pos (by omega)]; rfl
      · rw [e, show 2 * n + 1 - 2 * n = 1 by omega, if_neg (by omega)]; rfl
/-- the letter of a place's word at i -/
def xlf (q f i : Nat) : Nat := if i % 2 = 1 then 0 else if i = 0 then xof q 0 else if i ≤ 2 * f then xof q 1 else if i = 2 * f + 2 then xof q 4 else xof q 5
theorem xlay_at {q f g i : Nat} (h : i < 4 + 2 * f + 2 * g) : (xlay q f g).getD i 0 = xlf q f i := by
  unfold xlay xlf
  simp only [getD_app, List.length_append, xtw_len]
  by_cases o : i % 2 = 1
  · rw [if_pos o]
    split
    · split
      · split
        · rw [xtw_at _ _ _ (by omega), if_neg (by omega)]
        · rw [xtw_at _ _ _ (by omega), if_neg (by omega)]
      · rw [xtw_at _ _ _ (by omega), if_neg (by omega)]
    · rw [xtw_at _ _ _ (by omega), if_neg (by omega)]
  · rw [if_neg o]
    split
    · split
      · split
        · rw [xtw_at _ _ _ (by omega), if_pos (by omega), if_pos (by omega)]
        · rw [xtw_at _ _ _ (by omega), if_pos (by omega), if_neg (by omega), if_pos (by omega)]
      · rw [xtw_at _ _ _ (by omega), if_pos (by omega), if_neg (by omega), if_neg (by omega), if_pos (by omega)]
    · rw [xtw_at _ _ _ (by omega), if_pos (by omega), if_neg (by omega), if_neg (by omega), if_neg (by omega)]
theorem getD_ext {a b : List Nat} (hl : a.length = b.length) (h : ∀ i, i < a.length → a.getD i 0 = b.getD i 0) : a = b := by
  apply List.ext_getElem hl
  intro i h1 h2
  have := h i h1
  rw [List.getD_eq_getElem?_getD, List.getD_eq_getElem?_getD, List.getElem?_eq_getElem h1, List.getElem?_eq_getElem h2] at this
  exact this
theorem xlay_of {L : List Nat} {q f g : Nat} (hl : L.length = 4 + 2 * f + 2 * g) (h : ∀ i, i < L.length → L.getD i 0 = xlf q f i) : L = xlay q f g :=
  getD_ext (by rw [hl, xlay_len]) (fun i hi => by rw [h i hi, xlay_at (by omega)])
/-- the word is a place's -/
def isPl (L : List Nat) : Prop := ∃ q f g, q < 6 ∧ L = xlay q f g
noncomputable def isPlB (L : List Nat) : Bool := @decide (isPl L) (Classical.propDecidable _)
theorem isPlB_t {L : List Nat} (h : isPl L) : isPlB L = true := @decide_eq_true _ (Classical.propDecidable _) h
theorem isPlB_f {L : List Nat} (h : ¬ isPl L) : isPlB L = false := @decide_eq_false _ (Classical.propDecidable _) h
/-- k twos of a letter and an x from a place on, no more -/
def BT (L : List Nat) (c f k : Nat) : Prop := (∀ j, j < k → f + 2 * j + 1 < L.length ∧ L.getD (f + 2 * j) 0 = c ∧ L.getD (f + 2 * j + 1) 0 = 0) ∧ ¬ (f + 2 * k + 1 < L.length ∧ L.getD (f + 2 * k) 0 = c ∧ L.getD (f + 2 * k + 1) 0 = 0)
theorem pl_k {L : List Nat} {q f g k : Nat} (e : L = xlay q f g) (h : BT L (xof q 1) 2 k) : k = f := by
  subst e
  rcases Nat.lt_trichotomy k f with h1 | h1 | h1
  · refine absurd ?_ h.2
    rw [xlay_len, xlay_at (by omega), xlay_at (by omega)]
    refine ⟨by omega, ?_, ?_⟩
    · unfold xlf; rw [if_neg (by omega), if_neg (by omega), if_pos (by omega)]
    · unfold xlf; rw [if_pos (by omega)]
  · exact h1
  · have := (h.1 f h1).2.1
    rw [xlay_at (by omega)] at this
    unfold xlf xof at this
    rw [if_neg (by omega), if_neg (by omega), if_neg (by omega), if_pos (by omega)] at this
    omega
theorem pl_n {L : List Nat} {q f g k : Nat} (e : L = xlay q f g) (h : BT L (xof q 5) (2 * f + 4) k) : k = g := by
  subst e
  rcases Nat.lt_trichotomy k g with h1 | h1 | h1
  · refine absurd ?_ h.2
    rw [xlay_len, xlay_at (by omega), xlay_at (by omega)]
    refine ⟨by omega, ?_, ?_⟩
    · unfold xlf; rw [if_neg (by omega), if_neg (by omega), if_neg (by omega), if_neg (by omega)]
    · unfold xlf; rw [if_pos (by omega)]
  · exact h1
  · have := (h.1 g h1).1
    rw [xlay_len] at this
    omega
theorem pl_mk {L : List Nat} {q k k2 : Nat} (h0 : L.getD 0 0 = xof q 0) (h1 : L.getD 1 0 = 0) (ha : BT L (xof q 1) 2 k) (hb : L.getD (2 * k + 2) 0 = xof q 4) (hb1 : L.getD (2 * k + 3) 0 = 0) (hc : BT L (xof q 5) (2 * k + 4) k2) (hl : 2 * k + 4 + 2 * k2 = L.length) : L = xlay q k k2 := by
  refine xlay_of (by omega) (fun i hi => ?_)
  unfold xlf
  by_cases o : i % 2 = 1
  · rw [if_pos o]
    rcases (show i = 1 ∨ (3 ≤ i ∧ i < 2 * k + 2) ∨ i = 2 * k + 3 ∨ 2 * k + 4 ≤ i by omega) with e | e | e | e
    · rw [e]; exact h1
    · have := (ha.1 ((i - 3) / 2) (by omega)).2.2
      rw [show 2 + 2 * ((i - 3) / 2) + 1 = i by omega] at this
      exact this
    · rw [e]; exact hb1
    · have := (hc.1 ((i - (2 * k + 5)) / 2) (by omega)).2.2
      rw [show 2 * k + 4 + 2 * ((i - (2 * k + 5)) / 2) + 1 = i by omega] at this
      exact this
  · rw [if_neg o]
    by_cases e0 : i = 0
    · rw [if_pos e0, e0]; exact h0
    · rw [if_neg e0]
      by_cases e1 : i ≤ 2 * k
      · rw [if_pos e1]
        have := (ha.1 ((i - 2) / 2) (by omega)).2.1
        rw [show 2 + 2 * ((i - 2) / 2) = i by omega] at this
        exact this
      · rw [if_neg e1]
        by_cases e2 : i = 2 * k + 2
        · rw [if_pos e2, e2]; exact hb
        · rw [if_neg e2]
          have := (hc.1 ((i - (2 * k + 4)) / 2) (by omega)).2.1
          rw [show 2 * k + 4 + 2 * ((i - (2 * k + 4)) / 2) = i by omega] at this
          exact this
theorem pl_inj {q f g q2 f2 g2 : Nat} (e : xlay q f g = xlay q2 f2 g2) : q = q2 ∧ f = f2 ∧ g = g2 := by
  have hl := congrArg List.length e
  rw [xlay_len, xlay_len] at hl
  have h0 : (xlay q f g).getD 0 0 = (xlay q2 f2 g2).getD 0 0 := by rw [e]
  rw [xlay_at (by omega), xlay_at (by omega)] at h0
  have e0 : q = q2 := by
    unfold xlf xof at h0
    rw [if_neg (by decide), if_pos rfl, if_neg (by decide), if_pos rfl] at h0
    omega
  subst e0
  have hk : f = f2 := by
    have h2 : (xlay q f g).getD (2 * f + 2) 0 = (xlay q f2 g2).getD (2 * f + 2) 0 := by rw [e]
    have h3 : (xlay q f g).getD (2 * f2 + 2) 0 = (xlay q f2 g2).getD (2 * f2 + 2) 0 := by rw [e]
    rw [xlay_at (by omega), xlay_at (by omega)] at h2
    rw [xlay_at (by omega), xlay_at (by omega)] at h3
    unfold xlf xof at h2 h3
    rw [if_neg (by omega), if_neg (by omega), if_neg (by omega), if_pos (by omega), if_neg (by omega), if_neg (by omega)] at h2
    rw [if_neg (by omega), if_neg (by omega)] at h3
    rcases Nat.lt_trichotomy f f2 with h | h | h
    · rw [if_pos (by omega)] at h2; omega
    · exact h
    · rw [if_pos (by omega), if_neg (by omega), if_neg (by omega), if_neg (by omega), if_pos (by omega)] at h3; omega
  subst hk
  exact ⟨rfl, rfl, by omega⟩
/-- the next place: how many steps, the word -/
noncomputable def xnext (R : xRl) : Nat → List Nat → Option (Nat × List Nat)
  | 0, _ => none
  | n + 1, w => match tstep R w with
    | none => none
    | some w' => if isPlB w' = true then some (1, w') else (xnext R n w').map (fun z => (z.1 + 1, z.2))
/-- k steps of it are done, none came to a place -/
def XN (R : xRl) (N : Nat) (L : List Nat) (k : Nat) (L1 : List Nat) : Prop := k ≤ N ∧ xnext R N L = (xnext R (N - k) L1).map (fun z => (z.1 + k, z.2))
theorem XN.beg (R : xRl) (N : Nat) (L : List Nat) : XN R N L 0 L := ⟨Nat.zero_le _, by cases xnext R N L <;> simp [*]⟩
theorem XN.stop {R : xRl} {N k : Nat} {L L1 : List Nat} (h : XN R N L k L1) (e : tstep R L1 = none) : xnext R N L = none := by
  rw [h.2]
  cases hd : N - k with
  | zero => rfl
  | succ d => simp only [xnext, e]; rfl
theorem XN.full {R : xRl} {N k : Nat} {L L1 : List Nat} (h : XN R N L k L1) (e : N ≤ k) : xnext R N L = none := by
  rw [h.2, show N - k = 0 by omega]
  rfl
theorem XN.hit {R : xRl} {N k : Nat} {L L1 L2 : List Nat} (h : XN R N L k L1) (hk : k < N) (e : tstep R L1 = some L2) (hp : isPl L2) : xnext R N L = some (k + 1, L2) := by
  rw [h.2]
  obtain ⟨d, hd⟩ : ∃ d, N - k = d + 1 := ⟨N - k - 1, by omega⟩
  rw [hd]
  simp only [xnext, e, isPlB_t hp, if_true, Option.map_some]
  congr 2
  omega
theorem XN.go {R : xRl} {N k : Nat} {L L1 L2 : List Nat} (h : XN R N L k L1) (hk : k < N) (e : tstep R L1 = some L2) (hp : ¬ isPl L2) : XN R N L (k + 1) L2 := by
  refine ⟨hk, ?_⟩
  rw [h.2]
  obtain ⟨d, hd⟩ : ∃ d, N - k = d + 1 := ⟨N - k - 1, by omega⟩
  rw [hd, show N - (k + 1) = d by omega]
  simp only [xnext, e, isPlB_f hp]
  cases xnext R d L2 with
  | none => rfl
  | some z => simp only [Bool.false_eq_true, if_false, Option.map_some]; congr 2; omega

set_option maxHeartbeats 4000000 in
set_option maxRecDepth 100000 in
theorem c_X5_appendTwos (l : Launch) (Z : xZ) (hw vr vk ar hd sz : Nat) (g : Nat → Nat) (L : List Nat) (hR : RR 600 hd g L) (hsz : sz = L.length) (c1 tm : Nat) (hfit : L.length + 2 * tm ≤ 600) : xMv l Z yX5_appendTwos vX5_appendTwos ({ frames := 2, cells := 0, slots := 0, locals := 42 } : Room) [.ref hw, .int (nI c1), .int (nI tm)] [(hw, .inr (5, [.ref vr, .ref vk])), (vr, .inr (2, [.ref ar, .int (nI hd), .int (nI sz)])), (ar, xI Z 600 g)] (fun w => ∃ g2, RR 600 hd g2 (L ++ xtw c1 tm) ∧ w = [(hw, .inr (5, [.ref vr, .ref vk])), (vr, .inr (2, [.ref ar, .int (nI hd), .int (nI (sz + 2 * tm))])), (ar, xI Z 600 g2)]) := by
  refine x_v (by decide) rfl (Nat.le_of_ble_eq_true rfl) ?_
  intro p e s m args below meth c ls A hC hr hk hname hl hP hD hS
  have hx := hC.1.1
  have hb := hC.1.2.1
  have hml := hC.1.2.2.1
  have hown : s.vm.findClass RX5 = some m.cls := hC.1.2.2.2.1
  have hts := hC.1.2.2.2.2
  have hK := hC.2.1
  have qq_292 := hts (Cond.fieldLink RX5 14 "TagTower$Word" "row" "LTagTower$LetterRow;") (List.mem_cons_of_mem _ wq_292)
  have iX5 : ∀ w ∈ wsX50, w ∈ vX5_appendTwos := fun w h => List.mem_cons_of_mem _ (wi_X5 w h)
  have hl : lv_has ls 4 [(0, .ref hw), (1, .int (nI c1)), (2, .int (nI tm))] := hl
  have hP : va_P Z.1 vwCl [(hw, .inr (5, [.ref vr, .ref vk])), (vr, .inr (2, [.ref ar, .int (nI hd), .int (nI sz)])), (ar, xI Z 600 g)] s.heap := hP
  have hD : va_D A [(hw, .inr (5, [.ref vr, .ref vk])), (vr, .inr (2, [.ref ar, .int (nI hd), .int (nI sz)])), (ar, xI Z 600 g)] := hD
  refine ln_const 0 hx hb dX5_appendTwos_0 (by decide) ?_
  refine lv_istore_n (lv' := [(3, .int (nI 0)), (0, .ref hw), (1, .int (nI c1)), (2, .int (nI tm))]) hx hb dX5_appendTwos_1 rfl hl (by decide) rfl (fun ls hl => ?_)
  have hloop2 : ∀ (nn : Nat) (j sz2 : Nat) (g2 : Nat → Nat) (H : Heap) (locs : List Loc) (ls : Array Slot) (hj : j ≤ tm) (hR1 : RR 600 hd g2 (L ++ xtw c1 j)) (hs1 : sz2 = L.length + 2 * j) (hmu : tm - j < nn) (hP : va_P Z.1 vwCl [(hw, .inr (5, [.ref vr, .ref vk])), (vr, .inr (2, [.ref ar, .int (nI hd), .int (nI sz2)])), (ar, xI Z 600 g2)] H) (hD : va_D A [(hw, .inr (5, [.ref vr, .ref vk])), (vr, .inr (2, [.ref ar, .int (nI hd), .int (nI sz2)])), (ar, xI Z 600 g2)]) (hS : va_S A s.heap H locs) (hl : lv_has ls 4 [(0, .ref hw), (1, .int (nI c1)), (2, .int (nI tm)), (3, .int (nI j))]), W p l e ({ frames := 2, cells := 0, slots := 0, locals := 42 } : Room) s m args below meth c H locs 0 0 (MQ below (va_Qv (fun w => ∃ g2, RR 600 hd g2 (L ++ xtw c1 tm) ∧ w = [(hw, .inr (5, [.ref vr, .ref vk])), (vr, .inr (2, [.ref ar, .int (nI hd), .int (nI (sz + 2 * tm))])), (ar, xI Z 600 g2)]) (xB Z A) A) args s ({ frames := 2, cells := 0, slots := 0, locals := 42 } : Room).cells ({ frames := 2, cells := 0, slots := 0, locals := 42 } : Room).slots A) (F0 m 2 ls []) := by
    intro nn
    induction nn with
    | zero => intro j sz2 g2 H locs ls hj hR1 hs1 hmu; exact absurd hmu (Nat.not_lt_zero _)
    | succ nn ih =>
      intro j sz2 g2 H locs ls hj hR1 hs1 hmu hP hD hS hl
      refine lv_iload_n hx hb dX5_appendTwos_2 rfl (lv_at hl 3 rfl) ?_
      refine lv_iload_n hx hb dX5_appendTwos_3 rfl (lv_at hl 2 rfl) ?_
      refine ln_icmp_ge (tgt := 29) hx hb dX5_appendTwos_4 (by decide) (by omega) (by omega) (fun h4 => ?_) (fun h4 => ?_)
      · exact x_vret hC hr hk hP hD hS dX5_appendTwos_29 ⟨g2, by rw [show j = tm by omega] at hR1; exact hR1, by rw [show sz2 = sz + 2 * tm by omega]⟩
      · refine lv_aload_n hx hb dX5_appendTwos_7 rfl (lv_at hl 0 rfl) ?_
        refine va_get (D := Z.1) (ci := 5) (v := .ref vr) (C := RX5) (T := TX5) (N := 2) hx hb hts iX5 hown hK hP 0 rfl rfl 0 (Nat.le_of_ble_eq_true rfl) qq_292 (fun _ h9 => h9) rfl dX5_appendTwos_8 ?_
        refine lv_iload_n hx hb dX5_appendTwos_11 rfl (lv_at hl 1 rfl) ?_
        refine x_Vv (y := yX2_append) (As := [.int (nI c1)]) (wc := [(vr, .inr (2, [.ref ar, .int (nI hd), .int (nI sz2)])), (ar, xI Z 600 g2)]) (wr := [(hw, .inr (5, [.ref vr, .ref vk]))]) hC hP hD hS (c_X2_append l Z vr ar 600 hd sz2 g2 (L ++ xtw c1 j) (by omega) hR1 (by rw [List.length_append, xtw_len]; omega) c1 (by rw [List.length_append, xtw_len]; omega)) (gV wq_499 wq_496 wq_497 wq_498 wq_43) rfl kv_X2_append rfl rfl ⟨rfl, rfl⟩ rfl hl.1 rfl ⟨Nat.le_of_ble_eq_true rfl, Nat.le_of_ble_eq_true rfl⟩ [1, 2] [0] rfl rfl (by decide) (by decide) (by decide) rfl dX5_appendTwos_12 (fun w1 H locs hw hP hD hS => ?_)
        obtain ⟨g3, hg3, rfl⟩ := hw
        have hP : va_P Z.1 vwCl [(hw, .inr (5, [.ref vr, .ref vk])), (vr, .inr (2, [.ref ar, .int (nI hd), .int (nI (sz2 + 1))])), (ar, xI Z 600 g3)] H := hP
        have hD : va_D A [(hw, .inr (5, [.ref vr, .ref vk])), (vr, .inr (2, [.ref ar, .int (nI hd), .int (nI (sz2 + 1))])), (ar, xI Z 600 g3)] := hD
        refine lv_aload_n hx hb dX5_appendTwos_15 rfl (lv_at hl 0 rfl) ?_
        refine va_get (D := Z.1) (ci := 5) (v := .ref vr) (C := RX5) (T := TX5) (N := 2) hx hb hts iX5 hown hK hP 0 rfl rfl 0 (Nat.le_of_ble_eq_true rfl) qq_292 (fun _ h9 => h9) rfl dX5_appendTwos_16 ?_
        refine ln_const 0 hx hb dX5_appendTwos_19 (by decide) ?_
        refine x_Vv (y := yX2_append) (As := [.int (nI 0)]) (wc := [(vr, .inr (2, [.ref ar, .int (nI hd), .int (nI (sz2 + 1))])), (ar, xI Z 600 g3)]) (wr := [(hw, .inr (5, [.ref vr, .ref vk]))]) hC hP hD hS (c_X2_append l Z vr ar 600 hd (sz2 + 1) g3 (L ++ xtw c1 j ++ [c1]) (by omega) hg3 (by simp only [List.length_append, xtw_len, List.length_cons, List.length_nil]; omega) 0 (by simp only [List.length_append, xtw_len, List.length_cons, List.length_nil]; omega)) (gV wq_499 wq_496 wq_497 wq_498 wq_43) rfl kv_X2_append rfl rfl ⟨rfl, rfl⟩ rfl hl.1 rfl ⟨Nat.le_of_ble_eq_true rfl, Nat.le_of_ble_eq_true rfl⟩ [1, 2] [0] rfl rfl (by decide) (by decide) (by decide) rfl dX5_appendTwos_20 (fun w1 H locs hw hP hD hS => ?_)
        obtain ⟨g4, hg4, rfl⟩ := hw
        have hP : va_P Z.1 vwCl [(hw, .inr (5, [.ref vr, .ref vk])), (vr, .inr (2, [.ref ar, .int (nI hd), .int (nI (sz2 + 1 + 1))])), (ar, xI Z 600 g4)] H := hP
        have hD : va_D A [(hw, .inr (5, [.ref vr, .ref vk])), (vr, .inr (2, [.ref ar, .int (nI hd), .int (nI (sz2 + 1 + 1))])), (ar, xI Z 600 g4)] := hD
        refine ln_iinc (k0 := 3) (k := 1) (j + 1) (lv' := [(3, .int (nI (j + 1))), (0, .ref hw), (1, .int (nI c1)), (2, .int (nI tm))]) hx hb dX5_appendTwos_23 hl rfl rfl (by first | rfl | omega) (by decide) rfl (fun ls hl => ?_)
        refine lv_goto (tgt := 2) hx hb dX5_appendTwos_26 (by decide) ?_
        exact ih  (j + 1) (sz2 + 1 + 1) g4 _ _ _ (by omega) (by rw [List.append_assoc, List.append_assoc] at hg4; exact hg4) (by omega) (by omega) hP hD hS (lv_sub hl [1, 2, 3, 0] rfl)
  exact hloop2 ((tm - 0) + 1) 0 sz g _ _ _ (Nat.zero_le _) (by rw [show xtw c1 0 = [] from rfl, List.append_nil]; exact hR) (by omega) (Nat.lt_succ_self _) hP hD hS (lv_sub hl [1, 2, 3, 0] rfl)

set_option maxHeartbeats 4000000 in
set_option maxRecDepth 100000 in
theorem c_layPlace_full (l : Launch) (Z : xZ) (hw vr vk ar hd sz : Nat) (g : Nat → Nat) (L : List Nat) (hR : RR 600 hd g L) (hsz : sz = L.length) (q u v : Nat) (hq : q < 6) (hu : u ≤ 100000) (hv : v ≤ 100000) (hfull : 600 < 4 + 2 * (u + v)) : xMi l Z yX5_layPlace vX5_layPlace ({ frames := 0, cells := 0, slots := 0, locals := 0 } : Room) [.ref hw, .int (nI q), .int (nI u), .int (nI v)] [(hw, .inr (5, [.ref vr, .ref vk])), (vr, .inr (2, [.ref ar, .int (nI hd), .int (nI sz)])), (ar, xI Z 600 g)] (fun r w => r = -3 ∧ w = [(hw, .inr (5, [.ref vr, .ref vk])), (vr, .inr (2, [.ref ar, .int (nI hd), .int (nI sz)])), (ar, xI Z 600 g)]) := by
  refine x_i (by decide) rfl (Nat.le_of_ble_eq_true rfl) ?_
  intro p e s m args below meth c ls A hC hr hk hl hP hD hS
  have hx := hC.1.1
  have hb := hC.1.2.1
  have hml := hC.1.2.2.1
  have hown : s.vm.findClass RX5 = some m.cls := hC.1.2.2.2.1
  have hts := hC.1.2.2.2.2
  have hK := hC.2.1
  have hl : lv_has ls 5 [(0, .ref hw), (1, .int (nI q)), (2, .int (nI u)), (3, .int (nI v))] := hl
  have hP : va_P Z.1 vwCl [(hw, .inr (5, [.ref vr, .ref vk])), (vr, .inr (2, [.ref ar, .int (nI hd), .int (nI sz)])), (ar, xI Z 600 g)] s.heap := hP
  have hD : va_D A [(hw, .inr (5, [.ref vr, .ref vk])), (vr, .inr (2, [.ref ar, .int (nI hd), .int (nI sz)])), (ar, xI Z 600 g)] := hD
  refine ln_const 4 hx hb dX5_layPlace_0 (by decide) ?_
  refine ln_const 2 hx hb dX5_layPlace_1 (by decide) ?_
  refine lv_iload_n hx hb dX5_layPlace_2 rfl (lv_at hl 2 rfl) ?_
  refine lv_iload_n hx hb dX5_layPlace_3 rfl (lv_at hl 3 rfl) ?_
  refine ln_iadd (u + v) hx hb dX5_layPlace_4 (by first | rfl | omega) ?_
  refine ln_imul (2 * (u + v)) hx hb dX5_layPlace_5 (by first | rfl | omega) ?_
  refine ln_iadd (4 + (2 * (u + v))) hx hb dX5_layPlace_6 (by first | rfl | omega) ?_
  refine ln_sipush 600 hx hb dX5_layPlace_7 (by decide) ?_
  refine ln_icmp_le (tgt := 16) hx hb dX5_layPlace_10 (by decide) (by omega) (by omega) (fun h10 => False.elim (by omega)) (fun h10 => ?_)
  refine lv_bipush (v := (-3)) hx hb dX5_layPlace_13 (by decide) ?_
  exact x_iret hC hr hk hP hD hS dX5_layPlace_15 ⟨rfl, rfl⟩

theorem kv_X5_appendTwos : yX5_appendTwos.cls = RX5 ∧ yX5_appendTwos.cls ≠ "java/lang/invoke/MethodHandle" ∧ yX5_appendTwos.cls ≠ "java/lang/invoke/VarHandle" ∧ (parseMethodDescriptor yX5_appendTwos.desc).map (fun d => d.parameters.length) = some 2 := by decide +kernel
set_option maxHeartbeats 4000000 in
set_option maxRecDepth 100000 in
theorem c_layPlace (l : Launch) (Z : xZ) (hw vr vk ar hd sz : Nat) (g : Nat → Nat) (L : List Nat) (hR : RR 600 hd g L) (hsz : sz = L.length) (q u v : Nat) (hq : q < 6) (hfit : 4 + 2 * (u + v) ≤ 600) : xMi l Z yX5_layPlace vX5_layPlace ({ frames := 3, cells := 0, slots := 0, locals := 65 } : Room) [.ref hw, .int (nI q), .int (nI u), .int (nI v)] [(hw, .inr (5, [.ref vr, .ref vk])), (vr, .inr (2, [.ref ar, .int (nI hd), .int (nI sz)])), (ar, xI Z 600 g)] (fun r w => ∃ g2, RR 600 0 g2 (xlay q u v) ∧ r = nI (4 + 2 * (u + v)) ∧ w = [(hw, .inr (5, [.ref vr, .ref vk])), (vr, .inr (2, [.ref ar, .int (nI 0), .int (nI (4 + 2 * (u + v)))])), (ar, xI Z 600 g2)]) := by
  refine x_i (by decide) rfl (Nat.le_of_ble_eq_true rfl) ?_
  intro p e s m args below meth c ls A hC hr hk hl hP hD hS
  have hx := hC.1.1
  have hb := hC.1.2.1
  have hml := hC.1.2.2.1
  have hown : s.vm.findClass RX5 = some m.cls := hC.1.2.2.2.1
  have hts := hC.1.2.2.2.2
  have hK := hC.2.1
  have qq_292 := hts (Cond.fieldLink RX5 14 "TagTower$Word" "row" "LTagTower$LetterRow;") (List.mem_cons_of_mem _ wq_292)
  have iX5 : ∀ w ∈ wsX50, w ∈ vX5_layPlace := fun w h => List.mem_cons_of_mem _ (wi_X5 w h)
  have qf_30 := va_Nw.use (A := args) rfl (hC.2.2.2.1.2 (RX5, 30, RX2, "size", "I", RX6) (List.mem_of_getElem? (i := 5) rfl))
  have iX2 : ∀ w ∈ wsX20, w ∈ vX5_layPlace := fun w h => List.mem_cons_of_mem _ (wi_X2 w h)
  have hl : lv_has ls 5 [(0, .ref hw), (1, .int (nI q)), (2, .int (nI u)), (3, .int (nI v))] := hl
  have hP : va_P Z.1 vwCl [(hw, .inr (5, [.ref vr, .ref vk])), (vr, .inr (2, [.ref ar, .int (nI hd), .int (nI sz)])), (ar, xI Z 600 g)] s.heap := hP
  have hD : va_D A [(hw, .inr (5, [.ref vr, .ref vk])), (vr, .inr (2, [.ref ar, .int (nI hd), .int (nI sz)])), (ar, xI Z 600 g)] := hD
  refine ln_const 4 hx hb dX5_layPlace_0 (by decide) ?_
  refine ln_const 2 hx hb dX5_layPlace_1 (by decide) ?_
  refine lv_iload_n hx hb dX5_layPlace_2 rfl (lv_at hl 2 rfl) ?_
  refine lv_iload_n hx hb dX5_layPlace_3 rfl (lv_at hl 3 rfl) ?_
  refine ln_iadd (u + v) hx hb dX5_layPlace_4 (by first | rfl | omega) ?_
  refine ln_imul (2 * (u + v)) hx hb dX5_layPlace_5 (by first | rfl | omega) ?_
  refine ln_iadd (4 + (2 * (u + v))) hx hb dX5_layPlace_6 (by first | rfl | omega) ?_
  refine ln_sipush 600 hx hb dX5_layPlace_7 (by decide) ?_
  refine ln_icmp_le (tgt := 16) hx hb dX5_layPlace_10 (by decide) (by omega) (by omega) (fun h10 => ?_) (fun h10 => False.elim (by omega))
  refine lv_iload_n hx hb dX5_layPlace_16 rfl (lv_at hl 1 rfl) ?_
  refine ln_bipush 20 hx hb dX5_layPlace_17 (by decide) ?_
  refine ln_imul (q * 20) hx hb dX5_layPlace_19 (by first | rfl | omega) ?_
  refine lv_istore (lv' := [(4, .int (nI (q * 20))), (0, .ref hw), (1, .int (nI q)), (2, .int (nI u)), (3, .int (nI v))]) hx hb dX5_layPlace_20 hl (by decide) rfl (fun ls hl => ?_)
  refine lv_aload_n hx hb dX5_layPlace_22 rfl (lv_at hl 1 rfl) ?_
  refine va_get (D := Z.1) (ci := 5) (v := .ref vr) (C := RX5) (T := TX5) (N := 2) hx hb hts iX5 hown hK hP 0 rfl rfl 0 (Nat.le_of_ble_eq_true rfl) qq_292 (fun _ h9 => h9) rfl dX5_layPlace_23 ?_
  refine x_Vv (y := yX2_empty) (As := []) (wc := [(vr, .inr (2, [.ref ar, .int (nI hd), .int (nI sz)])), (ar, xI Z 600 g)]) (wr := [(hw, .inr (5, [.ref vr, .ref vk]))]) hC hP hD hS (c_X2_empty l Z vr ar 600 hd sz g (by omega)) (gV wq_491 wq_488 wq_489 wq_490 wq_43) rfl kv_X2_empty rfl rfl ⟨rfl, rfl⟩ rfl hl.1 rfl ⟨Nat.le_of_ble_eq_true rfl, Nat.le_of_ble_eq_true rfl⟩ [1, 2] [0] rfl rfl (by decide) (by decide) (by decide) rfl dX5_layPlace_26 (fun w1 H locs hw hP hD hS => ?_)
  obtain rfl := hw
  have hP : va_P Z.1 vwCl [(hw, .inr (5, [.ref vr, .ref vk])), (vr, .inr (2, [.ref ar, .int (nI 0), .int (nI 0)])), (ar, xI Z 600 g)] H := hP
  have hD : va_D A [(hw, .inr (5, [.ref vr, .ref vk])), (vr, .inr (2, [.ref ar, .int (nI 0), .int (nI 0)])), (ar, xI Z 600 g)] := hD
  refine lv_aload_n hx hb dX5_layPlace_29 rfl (lv_at hl 1 rfl) ?_
  refine lv_iload hx hb dX5_layPlace_30 (lv_at hl 0 rfl) ?_
  refine ln_const 1 hx hb dX5_layPlace_32 (by decide) ?_
  refine ln_iadd ((q * 20) + 1) hx hb dX5_layPlace_33 (by first | rfl | omega) ?_
  refine ln_const 1 hx hb dX5_layPlace_34 (by decide) ?_
  refine x_Vv (y := yX5_appendTwos) (As := [.int (nI ((q * 20) + 1)), .int (nI 1)]) (wc := [(hw, .inr (5, [.ref vr, .ref vk])), (vr, .inr (2, [.ref ar, .int (nI 0), .int (nI 0)])), (ar, xI Z 600 g)]) (wr := []) hC hP hD hS (c_X5_appendTwos l Z hw vr vk ar 0 0 g ([]) (RR.nil (by decide)) (rfl) ((q * 20) + 1) 1 (by simp only [List.length_nil]; omega)) (gV wq_495 wq_492 wq_494 wq_6 wq_42) rfl kv_X5_appendTwos rfl rfl ⟨rfl, rfl⟩ rfl hl.1 rfl ⟨Nat.le_of_ble_eq_true rfl, Nat.le_of_ble_eq_true rfl⟩ [0, 1, 2] ([] : List Nat) rfl rfl (by decide) (by decide) (by decide) rfl dX5_layPlace_35 (fun w1 H locs hw hP hD hS => ?_)
  obtain ⟨g2, hg2, rfl⟩ := hw
  have hP : va_P Z.1 vwCl [(hw, .inr (5, [.ref vr, .ref vk])), (vr, .inr (2, [.ref ar, .int (nI 0), .int (nI (0 + 2 * 1))])), (ar, xI Z 600 g2)] H := hP
  have hD : va_D A [(hw, .inr (5, [.ref vr, .ref vk])), (vr, .inr (2, [.ref ar, .int (nI 0), .int (nI (0 + 2 * 1))])), (ar, xI Z 600 g2)] := hD
  refine lv_aload_n hx hb dX5_layPlace_38 rfl (lv_at hl 1 rfl) ?_
  refine lv_iload hx hb dX5_layPlace_39 (lv_at hl 0 rfl) ?_
  refine ln_const 2 hx hb dX5_layPlace_41 (by decide) ?_
  refine ln_iadd ((q * 20) + 2) hx hb dX5_layPlace_42 (by first | rfl | omega) ?_
  refine lv_iload_n hx hb dX5_layPlace_43 rfl (lv_at hl 3 rfl) ?_
  refine x_Vv (y := yX5_appendTwos) (As := [.int (nI ((q * 20) + 2)), .int (nI u)]) (wc := [(hw, .inr (5, [.ref vr, .ref vk])), (vr, .inr (2, [.ref ar, .int (nI 0), .int (nI (0 + 2 * 1))])), (ar, xI Z 600 g2)]) (wr := []) hC hP hD hS (c_X5_appendTwos l Z hw vr vk ar 0 (0 + 2 * 1) g2 ([] ++ xtw (q * 20 + 1) 1) hg2 (by simp only [List.length_append, xtw_len, List.length_nil] <;> omega) ((q * 20) + 2) u (by simp only [List.length_append, xtw_len, List.length_nil] <;> omega)) (gV wq_495 wq_492 wq_494 wq_6 wq_42) rfl kv_X5_appendTwos rfl rfl ⟨rfl, rfl⟩ rfl hl.1 rfl ⟨Nat.le_of_ble_eq_true rfl, Nat.le_of_ble_eq_true rfl⟩ [0, 1, 2] ([] : List Nat) rfl rfl (by decide) (by decide) (by decide) rfl dX5_layPlace_44 (fun w1 H locs hw hP hD hS => ?_)
  obtain ⟨g3, hg3, rfl⟩ := hw
  have hP : va_P Z.1 vwCl [(hw, .inr (5, [.ref vr, .ref vk])), (vr, .inr (2, [.ref ar, .int (nI 0), .int (nI (0 + 2 * 1 + 2 * u))])), (ar, xI Z 600 g3)] H := hP
  have hD : va_D A [(hw, .inr (5, [.ref vr, .ref vk])), (vr, .inr (2, [.ref ar, .int (nI 0), .int (nI (0 + 2 * 1 + 2 * u))])), (ar, xI Z 600 g3)] := hD
  refine lv_aload_n hx hb dX5_layPlace_47 rfl (lv_at hl 1 rfl) ?_
  refine lv_iload hx hb dX5_layPlace_48 (lv_at hl 0 rfl) ?_
  refine ln_const 5 hx hb dX5_layPlace_50 (by decide) ?_
  refine ln_iadd ((q * 20) + 5) hx hb dX5_layPlace_51 (by first | rfl | omega) ?_
  refine ln_const 1 hx hb dX5_layPlace_52 (by decide) ?_
  refine x_Vv (y := yX5_appendTwos) (As := [.int (nI ((q * 20) + 5)), .int (nI 1)]) (wc := [(hw, .inr (5, [.ref vr, .ref vk])), (vr, .inr (2, [.ref ar, .int (nI 0), .int (nI (0 + 2 * 1 + 2 * u))])), (ar, xI Z 600 g3)]) (wr := []) hC hP hD hS (c_X5_appendTwos l Z hw vr vk ar 0 (0 + 2 * 1 + 2 * u) g3 ([] ++ xtw (q * 20 + 1) 1 ++ xtw (q * 20 + 2) u) hg3 (by simp only [List.length_append, xtw_len, List.length_nil] <;> omega) ((q * 20) + 5) 1 (by simp only [List.length_append, xtw_len, List.length_nil] <;> omega)) (gV wq_495 wq_492 wq_494 wq_6 wq_42) rfl kv_X5_appendTwos rfl rfl ⟨rfl, rfl⟩ rfl hl.1 rfl ⟨Nat.le_of_ble_eq_true rfl, Nat.le_of_ble_eq_true rfl⟩ [0, 1, 2] ([] : List Nat) rfl rfl (by decide) (by decide) (by decide) rfl dX5_layPlace_53 (fun w1 H locs hw hP hD hS => ?_)
  obtain ⟨g4, hg4, rfl⟩ := hw
  have hP : va_P Z.1 vwCl [(hw, .inr (5, [.ref vr, .ref vk])), (vr, .inr (2, [.ref ar, .int (nI 0), .int (nI (0 + 2 * 1 + 2 * u + 2 * 1))])), (ar, xI Z 600 g4)] H := hP
  have hD : va_D A [(hw, .inr (5, [.ref vr, .ref vk])), (vr, .inr (2, [.ref ar, .int (nI 0), .int (nI (0 + 2 * 1 + 2 * u + 2 * 1))])), (ar, xI Z 600 g4)] := hD
  refine lv_aload_n hx hb dX5_layPlace_56 rfl (lv_at hl 1 rfl) ?_
  refine lv_iload hx hb dX5_layPlace_57 (lv_at hl 0 rfl) ?_
  refine ln_bipush 6 hx hb dX5_layPlace_59 (by decide) ?_
  refine ln_iadd ((q * 20) + 6) hx hb dX5_layPlace_61 (by first | rfl | omega) ?_
  refine lv_iload_n hx hb dX5_layPlace_62 rfl (lv_at hl 4 rfl) ?_
  refine x_Vv (y := yX5_appendTwos) (As := [.int (nI ((q * 20) + 6)), .int (nI v)]) (wc := [(hw, .inr (5, [.ref vr, .ref vk])), (vr, .inr (2, [.ref ar, .int (nI 0), .int (nI (0 + 2 * 1 + 2 * u + 2 * 1))])), (ar, xI Z 600 g4)]) (wr := []) hC hP hD hS (c_X5_appendTwos l Z hw vr vk ar 0 (0 + 2 * 1 + 2 * u + 2 * 1) g4 ([] ++ xtw (q * 20 + 1) 1 ++ xtw (q * 20 + 2) u ++ xtw (q * 20 + 5) 1) hg4 (by simp only [List.length_append, xtw_len, List.length_nil] <;> omega) ((q * 20) + 6) v (by simp only [List.length_append, xtw_len, List.length_nil] <;> omega)) (gV wq_495 wq_492 wq_494 wq_6 wq_42) rfl kv_X5_appendTwos rfl rfl ⟨rfl, rfl⟩ rfl hl.1 rfl ⟨Nat.le_of_ble_eq_true rfl, Nat.le_of_ble_eq_true rfl⟩ [0, 1, 2] ([] : List Nat) rfl rfl (by decide) (by decide) (by decide) rfl dX5_layPlace_63 (fun w1 H locs hw hP hD hS => ?_)
  obtain ⟨g5, hg5, rfl⟩ := hw
  have hP : va_P Z.1 vwCl [(hw, .inr (5, [.ref vr, .ref vk])), (vr, .inr (2, [.ref ar, .int (nI 0), .int (nI (0 + 2 * 1 + 2 * u + 2 * 1 + 2 * v))])), (ar, xI Z 600 g5)] H := hP
  have hD : va_D A [(hw, .inr (5, [.ref vr, .ref vk])), (vr, .inr (2, [.ref ar, .int (nI 0), .int (nI (0 + 2 * 1 + 2 * u + 2 * 1 + 2 * v))])), (ar, xI Z 600 g5)] := hD
  refine lv_aload_n hx hb dX5_layPlace_66 rfl (lv_at hl 1 rfl) ?_
  refine va_get (D := Z.1) (ci := 5) (v := .ref vr) (C := RX5) (T := TX5) (N := 2) hx hb hts iX5 hown hK hP 0 rfl rfl 0 (Nat.le_of_ble_eq_true rfl) qq_292 (fun _ h9 => h9) rfl dX5_layPlace_67 ?_
  refine va_getN (D := Z.1) (ci := 2) (v := .int (nI (0 + 2 * 1 + 2 * u + 2 * 1 + 2 * v))) (C := RX2) (T := TX2) (N := 3) hx hb hts iX2 hown hK hP 1 rfl rfl 2 (Nat.le_of_ble_eq_true rfl) qf_30 (fun _ h9 => h9) rfl dX5_layPlace_70 ?_
  have hf : ([] ++ xtw (q * 20 + 1) 1 ++ xtw (q * 20 + 2) u ++ xtw (q * 20 + 5) 1 ++ xtw (q * 20 + 6) v) = xlay q u v := by
    unfold xlay
    rw [List.nil_append, show xof q 0 = q * 20 + 1 by unfold xof; omega, show xof q 1 = q * 20 + 2 by unfold xof; omega, show xof q 4 = q * 20 + 5 by unfold xof; omega, show xof q 5 = q * 20 + 6 by unfold xof; omega]
  have hn : 0 + 2 * 1 + 2 * u + 2 * 1 + 2 * v = 4 + 2 * (u + v) := by omega
  exact x_iret hC hr hk hP hD hS dX5_layPlace_73 ⟨g5, by rw [← hf]; exact hg5, by rw [hn], by rw [hn]⟩

set_option maxHeartbeats 4000000 in
set_option maxRecDepth 100000 in
theorem c_addLetter (l : Launch) (Z : xZ) (hw vr vk ar hd sz : Nat) (g : Nat → Nat) (L : List Nat) (hR : RR 600 hd g L) (hsz : sz = L.length) (c1 : Nat) (hfit : L.length < 600) : xMi l Z yX5_addLetter vX5_addLetter ({ frames := 2, cells := 0, slots := 0, locals := 42 } : Room) [.ref hw, .int (nI c1)] [(hw, .inr (5, [.ref vr, .ref vk])), (vr, .inr (2, [.ref ar, .int (nI hd), .int (nI sz)])), (ar, xI Z 600 g)] (fun r w => ∃ g2, RR 600 hd g2 (L ++ [c1]) ∧ r = nI (sz + 1) ∧ w = [(hw, .inr (5, [.ref vr, .ref vk])), (vr, .inr (2, [.ref ar, .int (nI hd), .int (nI (sz + 1))])), (ar, xI Z 600 g2)]) := by
  refine x_i (by decide) rfl (Nat.le_of_ble_eq_true rfl) ?_
  intro p e s m args below meth c ls A hC hr hk hl hP hD hS
  have hx := hC.1.1
  have hb := hC.1.2.1
  have hml := hC.1.2.2.1
  have hown : s.vm.findClass RX5 = some m.cls := hC.1.2.2.2.1
  have hts := hC.1.2.2.2.2
  have hK := hC.2.1
  have qq_292 := hts (Cond.fieldLink RX5 14 "TagTower$Word" "row" "LTagTower$LetterRow;") (List.mem_cons_of_mem _ wq_292)
  have iX5 : ∀ w ∈ wsX50, w ∈ vX5_addLetter := fun w h => List.mem_cons_of_mem _ (wi_X5 w h)
  have qf_30 := va_Nw.use (A := args) rfl (hC.2.2.2.1.2 (RX5, 30, RX2, "size", "I", RX6) (List.mem_of_getElem? (i := 5) rfl))
  have iX2 : ∀ w ∈ wsX20, w ∈ vX5_addLetter := fun w h => List.mem_cons_of_mem _ (wi_X2 w h)
  have hl : lv_has ls 2 [(0, .ref hw), (1, .int (nI c1))] := hl
  have hP : va_P Z.1 vwCl [(hw, .inr (5, [.ref vr, .ref vk])), (vr, .inr (2, [.ref ar, .int (nI hd), .int (nI sz)])), (ar, xI Z 600 g)] s.heap := hP
  have hD : va_D A [(hw, .inr (5, [.ref vr, .ref vk])), (vr, .inr (2, [.ref ar, .int (nI hd), .int (nI sz)])), (ar, xI Z 600 g)] := hD
  refine lv_aload_n hx hb dX5_addLetter_0 rfl (lv_at hl 0 rfl) ?_
  refine va_get (D := Z.1) (ci := 5) (v := .ref vr) (C := RX5) (T := TX5) (N := 2) hx hb hts iX5 hown hK hP 0 rfl rfl 0 (Nat.le_of_ble_eq_true rfl) qq_292 (fun _ h9 => h9) rfl dX5_addLetter_1 ?_
  refine va_getN (D := Z.1) (ci := 2) (v := .int (nI sz)) (C := RX2) (T := TX2) (N := 3) hx hb hts iX2 hown hK hP 1 rfl rfl 2 (Nat.le_of_ble_eq_true rfl) qf_30 (fun _ h9 => h9) rfl dX5_addLetter_4 ?_
  refine ln_sipush 600 hx hb dX5_addLetter_7 (by decide) ?_
  refine ln_icmp_lt (tgt := 16) hx hb dX5_addLetter_10 (by decide) (by omega) (by omega) (fun h10 => ?_) (fun h10 => False.elim (by omega))
  refine lv_aload_n hx hb dX5_addLetter_16 rfl (lv_at hl 0 rfl) ?_
  refine va_get (D := Z.1) (ci := 5) (v := .ref vr) (C := RX5) (T := TX5) (N := 2) hx hb hts iX5 hown hK hP 0 rfl rfl 0 (Nat.le_of_ble_eq_true rfl) qq_292 (fun _ h9 => h9) rfl dX5_addLetter_17 ?_
  refine lv_iload_n hx hb dX5_addLetter_20 rfl (lv_at hl 1 rfl) ?_
  refine x_Vv (y := yX2_append) (As := [.int (nI c1)]) (wc := [(vr, .inr (2, [.ref ar, .int (nI hd), .int (nI sz)])), (ar, xI Z 600 g)]) (wr := [(hw, .inr (5, [.ref vr, .ref vk]))]) hC hP hD hS (c_X2_append l Z vr ar 600 hd sz g L (by omega) hR (hsz) c1 (by omega)) (gV wq_499 wq_496 wq_497 wq_498 wq_43) rfl kv_X2_append rfl rfl ⟨rfl, rfl⟩ rfl hl.1 rfl ⟨Nat.le_of_ble_eq_true rfl, Nat.le_of_ble_eq_true rfl⟩ [1, 2] [0] rfl rfl (by decide) (by decide) (by decide) rfl dX5_addLetter_21 (fun w1 H locs hw hP hD hS => ?_)
  obtain ⟨g2, hg2, rfl⟩ := hw
  have hP : va_P Z.1 vwCl [(hw, .inr (5, [.ref vr, .ref vk])), (vr, .inr (2, [.ref ar, .int (nI hd), .int (nI (sz + 1))])), (ar, xI Z 600 g2)] H := hP
  have hD : va_D A [(hw, .inr (5, [.ref vr, .ref vk])), (vr, .inr (2, [.ref ar, .int (nI hd), .int (nI (sz + 1))])), (ar, xI Z 600 g2)] := hD
  refine lv_aload_n hx hb dX5_addLetter_24 rfl (lv_at hl 0 rfl) ?_
  refine va_get (D := Z.1) (ci := 5) (v := .ref vr) (C := RX5) (T := TX5) (N := 2) hx hb hts iX5 hown hK hP 0 rfl rfl 0 (Nat.le_of_ble_eq_true rfl) qq_292 (fun _ h9 => h9) rfl dX5_addLetter_25 ?_
  refine va_getN (D := Z.1) (ci := 2) (v := .int (nI (sz + 1))) (C := RX2) (T := TX2) (N := 3) hx hb hts iX2 hown hK hP 1 rfl rfl 2 (Nat.le_of_ble_eq_true rfl) qf_30 (fun _ h9 => h9) rfl dX5_addLetter_28 ?_
  exact x_iret hC hr hk hP hD hS dX5_addLetter_31 ⟨g2, hg2, rfl, rfl⟩

set_option maxHeartbeats 4000000 in
set_option maxRecDepth 100000 in
theorem c_addLetter_full (l : Launch) (Z : xZ) (hw vr vk ar hd sz : Nat) (g : Nat → Nat) (L : List Nat) (hR : RR 600 hd g L) (hsz : sz = L.length) (c1 : Nat) (hfit : 600 ≤ L.length) : xMi l Z yX5_addLetter vX5_addLetter ({ frames := 0, cells := 0, slots := 0, locals := 0 } : Room) [.ref hw, .int (nI c1)] [(hw, .inr (5, [.ref vr, .ref vk])), (vr, .inr (2, [.ref ar, .int (nI hd), .int (nI sz)])), (ar, xI Z 600 g)] (fun r w => r = -3 ∧ w = [(hw, .inr (5, [.ref vr, .ref vk])), (vr, .inr (2, [.ref ar, .int (nI hd), .int (nI sz)])), (ar, xI Z 600 g)]) := by
  refine x_i (by decide) rfl (Nat.le_of_ble_eq_true rfl) ?_
  intro p e s m args below meth c ls A hC hr hk hl hP hD hS
  have hx := hC.1.1
  have hb := hC.1.2.1
  have hml := hC.1.2.2.1
  have hown : s.vm.findClass RX5 = some m.cls := hC.1.2.2.2.1
  have hts := hC.1.2.2.2.2
  have hK := hC.2.1
  have qq_292 := hts (Cond.fieldLink RX5 14 "TagTower$Word" "row" "LTagTower$LetterRow;") (List.mem_cons_of_mem _ wq_292)
  have iX5 : ∀ w ∈ wsX50, w ∈ vX5_addLetter := fun w h => List.mem_cons_of_mem _ (wi_X5 w h)
  have qf_30 := va_Nw.use (A := args) rfl (hC.2.2.2.1.2 (RX5, 30, RX2, "size", "I", RX6) (List.mem_of_getElem? (i := 5) rfl))
  have iX2 : ∀ w ∈ wsX20, w ∈ vX5_addLetter := fun w h => List.mem_cons_of_mem _ (wi_X2 w h)
  have hl : lv_has ls 2 [(0, .ref hw), (1, .int (nI c1))] := hl
  have hP : va_P Z.1 vwCl [(hw, .inr (5, [.ref vr, .ref vk])), (vr, .inr (2, [.ref ar, .int (nI hd), .int (nI sz)])), (ar, xI Z 600 g)] s.heap := hP
  have hD : va_D A [(hw, .inr (5, [.ref vr, .ref vk])), (vr, .inr (2, [.ref ar, .int (nI hd), .int (nI sz)])), (ar, xI Z 600 g)] := hD
  have hR2 := hR.2.1
  refine lv_aload_n hx hb dX5_addLetter_0 rfl (lv_at hl 0 rfl) ?_
  refine va_get (D := Z.1) (ci := 5) (v := .ref vr) (C := RX5) (T := TX5) (N := 2) hx hb hts iX5 hown hK hP 0 rfl rfl 0 (Nat.le_of_ble_eq_true rfl) qq_292 (fun _ h9 => h9) rfl dX5_addLetter_1 ?_
  refine va_getN (D := Z.1) (ci := 2) (v := .int (nI sz)) (C := RX2) (T := TX2) (N := 3) hx hb hts iX2 hown hK hP 1 rfl rfl 2 (Nat.le_of_ble_eq_true rfl) qf_30 (fun _ h9 => h9) rfl dX5_addLetter_4 ?_
  refine ln_sipush 600 hx hb dX5_addLetter_7 (by decide) ?_
  refine ln_icmp_lt (tgt := 16) hx hb dX5_addLetter_10 (by decide) (by omega) (by omega) (fun h10 => False.elim (by omega)) (fun h10 => ?_)
  refine lv_bipush (v := (-3)) hx hb dX5_addLetter_13 (by decide) ?_
  exact x_iret hC hr hk hP hD hS dX5_addLetter_15 ⟨rfl, rfl⟩

theorem kv_X2_drop : yX2_drop.cls = RX2 ∧ yX2_drop.cls ≠ "java/lang/invoke/MethodHandle" ∧ yX2_drop.cls ≠ "java/lang/invoke/VarHandle" ∧ (parseMethodDescriptor yX2_drop.desc).map (fun d => d.parameters.length) = some 1 := by decide +kernel
theorem kv_X4_appendTo : yX4_appendTo.cls = RX4 ∧ yX4_appendTo.cls ≠ "java/lang/invoke/MethodHandle" ∧ yX4_appendTo.cls ≠ "java/lang/invoke/VarHandle" ∧ (parseMethodDescriptor yX4_appendTo.desc).map (fun d => d.parameters.length) = some 2 := by decide +kernel
set_option maxHeartbeats 4000000 in
set_option maxRecDepth 100000 in
theorem c_X5_doStep (l : Launch) (Z : xZ) (hw vr vk ar hd sz : Nat) (g : Nat → Nat) (L : List Nat) (hR : RR 600 hd g L) (hsz : sz = L.length) (hp s0 s1 : Nat) (sz1 lt1 : Nat → Nat) (R : xRl) (hV : RV R) (hT : TR (xprod R) sz1 lt1) (hW : WV L) : xMi l Z yX5_doStep vX5_doStep ({ frames := 3, cells := 0, slots := 0, locals := 68 } : Room) [.ref hw, .ref hp] [(hw, .inr (5, [.ref vr, .ref vk])), (vr, .inr (2, [.ref ar, .int (nI hd), .int (nI sz)])), (ar, xI Z 600 g), (hp, .inr (4, [.ref s0, .ref s1])), (s0, xI Z 121 sz1), (s1, xI Z 484 lt1)] (fun r w => (tstep R L = none ∧ r = nI 0 ∧ w = [(hw, .inr (5, [.ref vr, .ref vk])), (vr, .inr (2, [.ref ar, .int (nI hd), .int (nI sz)])), (ar, xI Z 600 g), (hp, .inr (4, [.ref s0, .ref s1])), (s0, xI Z 121 sz1), (s1, xI Z 484 lt1)]) ∨ (∃ L2 hd2 g2, tstep R L = some L2 ∧ RR 600 hd2 g2 L2 ∧ r = nI 1 ∧ w = [(hw, .inr (5, [.ref vr, .ref vk])), (vr, .inr (2, [.ref ar, .int (nI hd2), .int (nI L2.length)])), (ar, xI Z 600 g2), (hp, .inr (4, [.ref s0, .ref s1])), (s0, xI Z 121 sz1), (s1, xI Z 484 lt1)])) := by
  refine x_i (by decide) rfl (Nat.le_of_ble_eq_true rfl) ?_
  intro p e s m args below meth c ls A hC hr hk hl hP hD hS
  have hx := hC.1.1
  have hb := hC.1.2.1
  have hml := hC.1.2.2.1
  have hown : s.vm.findClass RX5 = some m.cls := hC.1.2.2.2.1
  have hts := hC.1.2.2.2.2
  have hK := hC.2.1
  have qq_292 := hts (Cond.fieldLink RX5 14 "TagTower$Word" "row" "LTagTower$LetterRow;") (List.mem_cons_of_mem _ wq_292)
  have iX5 : ∀ w ∈ wsX50, w ∈ vX5_doStep := fun w h => List.mem_cons_of_mem _ (wi_X5 w h)
  have qf_30 := va_Nw.use (A := args) rfl (hC.2.2.2.1.2 (RX5, 30, RX2, "size", "I", RX6) (List.mem_of_getElem? (i := 5) rfl))
  have iX2 : ∀ w ∈ wsX20, w ∈ vX5_doStep := fun w h => List.mem_cons_of_mem _ (wi_X2 w h)
  have hl : lv_has ls 4 [(0, .ref hw), (1, .ref hp)] := hl
  have hP : va_P Z.1 vwCl [(hw, .inr (5, [.ref vr, .ref vk])), (vr, .inr (2, [.ref ar, .int (nI hd), .int (nI sz)])), (ar, xI Z 600 g), (hp, .inr (4, [.ref s0, .ref s1])), (s0, xI Z 121 sz1), (s1, xI Z 484 lt1)] s.heap := hP
  have hD : va_D A [(hw, .inr (5, [.ref vr, .ref vk])), (vr, .inr (2, [.ref ar, .int (nI hd), .int (nI sz)])), (ar, xI Z 600 g), (hp, .inr (4, [.ref s0, .ref s1])), (s0, xI Z 121 sz1), (s1, xI Z 484 lt1)] := hD
  have hR1 := hR.1
  have hR2 := hR.2.1
  rcases Nat.eq_zero_or_pos L.length with hle | hle
  · have hR1 := hR.1
    have hR2 := hR.2.1
    refine lv_aload_n hx hb dX5_doStep_0 rfl (lv_at hl 0 rfl) ?_
    refine va_get (D := Z.1) (ci := 5) (v := .ref vr) (C := RX5) (T := TX5) (N := 2) hx hb hts iX5 hown hK hP 0 rfl rfl 0 (Nat.le_of_ble_eq_true rfl) qq_292 (fun _ h9 => h9) rfl dX5_doStep_1 ?_
    refine ln_const 0 hx hb dX5_doStep_4 (by decide) ?_
    refine x_Vi (y := yX2_get) (As := [.int (nI 0)]) (wc := [(vr, .inr (2, [.ref ar, .int (nI hd), .int (nI sz)])), (ar, xI Z 600 g)]) (wr := [(hw, .inr (5, [.ref vr, .ref vk])), (hp, .inr (4, [.ref s0, .ref s1])), (s0, xI Z 121 sz1), (s1, xI Z 484 lt1)]) hC hP hD hS (c_X2_get_out l Z vr ar 600 hd sz g L (by omega) hR hsz (nI 0) (by rw [hle]; decide)) (gV wq_524 wq_542 wq_522 wq_523 wq_43) rfl kv_X2_get rfl rfl ⟨rfl, rfl⟩ rfl hl.1 rfl ⟨Nat.le_of_ble_eq_true rfl, Nat.le_of_ble_eq_true rfl⟩ [1, 2] [0, 3, 4, 5] rfl rfl (by decide) (by decide) (by decide) rfl dX5_doStep_5 (fun r5 w1 H locs hw hP hD hS => ?_)
    obtain ⟨rfl, rfl⟩ := hw
    have hP := hP.sub (ws' := [(hw, .inr (5, [.ref vr, .ref vk])), (vr, .inr (2, [.ref ar, .int (nI hd), .int (nI sz)])), (ar, xI Z 600 g), (hp, .inr (4, [.ref s0, .ref s1])), (s0, xI Z 121 sz1), (s1, xI Z 484 lt1)]) [0, 4, 5, 1, 2, 3] rfl
    have hD := hD.sub (ws' := [(hw, .inr (5, [.ref vr, .ref vk])), (vr, .inr (2, [.ref ar, .int (nI hd), .int (nI sz)])), (ar, xI Z 600 g), (hp, .inr (4, [.ref s0, .ref s1])), (s0, xI Z 121 sz1), (s1, xI Z 484 lt1)]) [0, 4, 5, 1, 2, 3] (by decide) rfl
    refine lv_istore_n (lv' := [(2, .int ((-9))), (0, .ref hw), (1, .ref hp)]) hx hb dX5_doStep_8 rfl hl (by decide) rfl (fun ls hl => ?_)
    refine lv_aload_n hx hb dX5_doStep_9 rfl (lv_at hl 2 rfl) ?_
    refine lv_iload_n hx hb dX5_doStep_10 rfl (lv_at hl 0 rfl) ?_
    refine x_Vi (y := yX4_sizeOf) (As := [.int ((-9))]) (wc := [(hp, .inr (4, [.ref s0, .ref s1])), (s0, xI Z 121 sz1), (s1, xI Z 484 lt1)]) (wr := [(hw, .inr (5, [.ref vr, .ref vk])), (vr, .inr (2, [.ref ar, .int (nI hd), .int (nI sz)])), (ar, xI Z 600 g)]) hC hP hD hS (c_sizeOf_no l Z hp s0 s1 sz1 lt1) (gV wq_478 wq_543 wq_476 wq_477 wq_35) rfl kv_X4_sizeOf rfl rfl ⟨rfl, rfl⟩ rfl hl.1 rfl ⟨Nat.le_of_ble_eq_true rfl, Nat.le_of_ble_eq_true rfl⟩ [3, 4, 5] [0, 1, 2] rfl rfl (by decide) (by decide) (by decide) rfl dX5_doStep_11 (fun r11 w1 H locs hw hP hD hS => ?_)
    obtain ⟨rfl, rfl⟩ := hw
    have hP : va_P Z.1 vwCl [(hw, .inr (5, [.ref vr, .ref vk])), (vr, .inr (2, [.ref ar, .int (nI hd), .int (nI sz)])), (ar, xI Z 600 g), (hp, .inr (4, [.ref s0, .ref s1])), (s0, xI Z 121 sz1), (s1, xI Z 484 lt1)] H := hP
    have hD : va_D A [(hw, .inr (5, [.ref vr, .ref vk])), (vr, .inr (2, [.ref ar, .int (nI hd), .int (nI sz)])), (ar, xI Z 600 g), (hp, .inr (4, [.ref s0, .ref s1])), (s0, xI Z 121 sz1), (s1, xI Z 484 lt1)] := hD
    refine lv_istore_n (lv' := [(3, .int (nI 0)), (2, .int ((-9))), (0, .ref hw), (1, .ref hp)]) hx hb dX5_doStep_14 rfl hl (by decide) rfl (fun ls hl => ?_)
    refine lv_aload_n hx hb dX5_doStep_15 rfl (lv_at hl 2 rfl) ?_
    refine va_get (D := Z.1) (ci := 5) (v := .ref vr) (C := RX5) (T := TX5) (N := 2) hx hb hts iX5 hown hK hP 0 rfl rfl 0 (Nat.le_of_ble_eq_true rfl) qq_292 (fun _ h9 => h9) rfl dX5_doStep_16 ?_
    refine va_getN (D := Z.1) (ci := 2) (v := .int (nI sz)) (C := RX2) (T := TX2) (N := 3) hx hb hts iX2 hown hK hP 1 rfl rfl 2 (Nat.le_of_ble_eq_true rfl) qf_30 (fun _ h9 => h9) rfl dX5_doStep_19 ?_
    refine ln_const 2 hx hb dX5_doStep_22 (by decide) ?_
    refine ln_icmp_lt (tgt := 47) hx hb dX5_doStep_23 (by decide) (by omega) (by omega) (fun h23 => ?_) (fun h23 => False.elim (by omega))
    refine ln_const 0 hx hb dX5_doStep_47 (by decide) ?_
    exact x_zret hC hr rfl hk hP hD hS dX5_doStep_48 (Or.inl ⟨by unfold tstep; rw [if_pos (by omega)], rfl, rfl⟩)
  · have hR1 := hR.1
    have hR2 := hR.2.1
    refine lv_aload_n hx hb dX5_doStep_0 rfl (lv_at hl 0 rfl) ?_
    refine va_get (D := Z.1) (ci := 5) (v := .ref vr) (C := RX5) (T := TX5) (N := 2) hx hb hts iX5 hown hK hP 0 rfl rfl 0 (Nat.le_of_ble_eq_true rfl) qq_292 (fun _ h9 => h9) rfl dX5_doStep_1 ?_
    refine ln_const 0 hx hb dX5_doStep_4 (by decide) ?_
    refine x_Vi (y := yX2_get) (As := [.int (nI 0)]) (wc := [(vr, .inr (2, [.ref ar, .int (nI hd), .int (nI sz)])), (ar, xI Z 600 g)]) (wr := [(hw, .inr (5, [.ref vr, .ref vk])), (hp, .inr (4, [.ref s0, .ref s1])), (s0, xI Z 121 sz1), (s1, xI Z 484 lt1)]) hC hP hD hS (c_X2_get_in l Z vr ar 600 hd sz g L (by omega) hR hsz 0 (by omega)) (gV wq_524 wq_542 wq_522 wq_523 wq_43) rfl kv_X2_get rfl rfl ⟨rfl, rfl⟩ rfl hl.1 rfl ⟨Nat.le_of_ble_eq_true rfl, Nat.le_of_ble_eq_true rfl⟩ [1, 2] [0, 3, 4, 5] rfl rfl (by decide) (by decide) (by decide) rfl dX5_doStep_5 (fun r5 w1 H locs hw hP hD hS => ?_)
    obtain ⟨rfl, rfl⟩ := hw
    have hP := hP.sub (ws' := [(hw, .inr (5, [.ref vr, .ref vk])), (vr, .inr (2, [.ref ar, .int (nI hd), .int (nI sz)])), (ar, xI Z 600 g), (hp, .inr (4, [.ref s0, .ref s1])), (s0, xI Z 121 sz1), (s1, xI Z 484 lt1)]) [0, 4, 5, 1, 2, 3] rfl
    have hD := hD.sub (ws' := [(hw, .inr (5, [.ref vr, .ref vk])), (vr, .inr (2, [.ref ar, .int (nI hd), .int (nI sz)])), (ar, xI Z 600 g), (hp, .inr (4, [.ref s0, .ref s1])), (s0, xI Z 121 sz1), (s1, xI Z 484 lt1)]) [0, 4, 5, 1, 2, 3] (by decide) rfl
    have hc0 := hW.at0 (i := 0) (by omega)
    have hT4 := (xprod_ok hV hc0).1
    have htp := tapp_in (T := xprod R) hc0
    refine lv_istore_n (lv' := [(2, .int (nI (L.getD 0 0))), (0, .ref hw), (1, .ref hp)]) hx hb dX5_doStep_8 rfl hl (by decide) rfl (fun ls hl => ?_)
    refine lv_aload_n hx hb dX5_doStep_9 rfl (lv_at hl 2 rfl) ?_
    refine lv_iload_n hx hb dX5_doStep_10 rfl (lv_at hl 0 rfl) ?_
    refine x_Vi (y := yX4_sizeOf) (As := [.int (nI (L.getD 0 0))]) (wc := [(hp, .inr (4, [.ref s0, .ref s1])), (s0, xI Z 121 sz1), (s1, xI Z 484 lt1)]) (wr := [(hw, .inr (5, [.ref vr, .ref vk])), (vr, .inr (2, [.ref ar, .int (nI hd), .int (nI sz)])), (ar, xI Z 600 g)]) hC hP hD hS (c_sizeOf l Z hp s0 s1 sz1 lt1 (xprod R) hT (L.getD 0 0) (by omega)) (gV wq_478 wq_543 wq_476 wq_477 wq_35) rfl kv_X4_sizeOf rfl rfl ⟨rfl, rfl⟩ rfl hl.1 rfl ⟨Nat.le_of_ble_eq_true rfl, Nat.le_of_ble_eq_true rfl⟩ [3, 4, 5] [0, 1, 2] rfl rfl (by decide) (by decide) (by decide) rfl dX5_doStep_11 (fun r11 w1 H locs hw hP hD hS => ?_)
    obtain ⟨rfl, rfl⟩ := hw
    have hP : va_P Z.1 vwCl [(hw, .inr (5, [.ref vr, .ref vk])), (vr, .inr (2, [.ref ar, .int (nI hd), .int (nI sz)])), (ar, xI Z 600 g), (hp, .inr (4, [.ref s0, .ref s1])), (s0, xI Z 121 sz1), (s1, xI Z 484 lt1)] H := hP
    have hD : va_D A [(hw, .inr (5, [.ref vr, .ref vk])), (vr, .inr (2, [.ref ar, .int (nI hd), .int (nI sz)])), (ar, xI Z 600 g), (hp, .inr (4, [.ref s0, .ref s1])), (s0, xI Z 121 sz1), (s1, xI Z 484 lt1)] := hD
    rw [htp]
    refine lv_istore_n (lv' := [(3, .int (nI ((xprod R (L.getD 0 0)).length))), (2, .int (nI (L.getD 0 0))), (0, .ref hw), (1, .ref hp)]) hx hb dX5_doStep_14 rfl hl (by decide) rfl (fun ls hl => ?_)
    refine lv_aload_n hx hb dX5_doStep_15 rfl (lv_at hl 2 rfl) ?_
    refine va_get (D := Z.1) (ci := 5) (v := .ref vr) (C := RX5) (T := TX5) (N := 2) hx hb hts iX5 hown hK hP 0 rfl rfl 0 (Nat.le_of_ble_eq_true rfl) qq_292 (fun _ h9 => h9) rfl dX5_doStep_16 ?_
    refine va_getN (D := Z.1) (ci := 2) (v := .int (nI sz)) (C := RX2) (T := TX2) (N := 3) hx hb hts iX2 hown hK hP 1 rfl rfl 2 (Nat.le_of_ble_eq_true rfl) qf_30 (fun _ h9 => h9) rfl dX5_doStep_19 ?_
    refine ln_const 2 hx hb dX5_doStep_22 (by decide) ?_
    refine ln_icmp_lt (tgt := 47) hx hb dX5_doStep_23 (by decide) (by omega) (by omega) (fun h23 => ?_) (fun h23 => ?_)
    · refine ln_const 0 hx hb dX5_doStep_47 (by decide) ?_
      exact x_zret hC hr rfl hk hP hD hS dX5_doStep_48 (Or.inl ⟨by unfold tstep; rw [if_pos (by omega)], rfl, rfl⟩)
    · refine lv_iload_n hx hb dX5_doStep_26 rfl (lv_at hl 0 rfl) ?_
      refine ln_if_eq (tgt := 47) hx hb dX5_doStep_27 (by decide) (by omega) (fun h27 => ?_) (fun h27 => ?_)
      · refine ln_const 0 hx hb dX5_doStep_47 (by decide) ?_
        exact x_zret hC hr rfl hk hP hD hS dX5_doStep_48 (Or.inl ⟨by unfold tstep; rw [if_neg (by omega), if_pos (by omega)], rfl, rfl⟩)
      · refine lv_aload_n hx hb dX5_doStep_30 rfl (lv_at hl 2 rfl) ?_
        refine va_get (D := Z.1) (ci := 5) (v := .ref vr) (C := RX5) (T := TX5) (N := 2) hx hb hts iX5 hown hK hP 0 rfl rfl 0 (Nat.le_of_ble_eq_true rfl) qq_292 (fun _ h9 => h9) rfl dX5_doStep_31 ?_
        refine va_getN (D := Z.1) (ci := 2) (v := .int (nI sz)) (C := RX2) (T := TX2) (N := 3) hx hb hts iX2 hown hK hP 1 rfl rfl 2 (Nat.le_of_ble_eq_true rfl) qf_30 (fun _ h9 => h9) rfl dX5_doStep_34 ?_
        refine ln_const 2 hx hb dX5_doStep_37 (by decide) ?_
        refine ln_isub (sz - 2) hx hb dX5_doStep_38 (by omega) (by first | rfl | omega) ?_
        refine lv_iload_n hx hb dX5_doStep_39 rfl (lv_at hl 0 rfl) ?_
        refine ln_iadd ((sz - 2) + ((xprod R (L.getD 0 0)).length)) hx hb dX5_doStep_40 (by first | rfl | omega) ?_
        refine ln_sipush 600 hx hb dX5_doStep_41 (by decide) ?_
        refine ln_icmp_le (tgt := 49) hx hb dX5_doStep_44 (by decide) (by omega) (by omega) (fun h44 => ?_) (fun h44 => ?_)
        · refine lv_aload_n hx hb dX5_doStep_49 rfl (lv_at hl 2 rfl) ?_
          refine va_get (D := Z.1) (ci := 5) (v := .ref vr) (C := RX5) (T := TX5) (N := 2) hx hb hts iX5 hown hK hP 0 rfl rfl 0 (Nat.le_of_ble_eq_true rfl) qq_292 (fun _ h9 => h9) rfl dX5_doStep_50 ?_
          refine ln_const 2 hx hb dX5_doStep_53 (by decide) ?_
          refine x_Vv (y := yX2_drop) (As := [.int (nI 2)]) (wc := [(vr, .inr (2, [.ref ar, .int (nI hd), .int (nI sz)])), (ar, xI Z 600 g)]) (wr := [(hw, .inr (5, [.ref vr, .ref vk])), (hp, .inr (4, [.ref s0, .ref s1])), (s0, xI Z 121 sz1), (s1, xI Z 484 lt1)]) hC hP hD hS (c_X2_drop l Z vr ar 600 hd sz g L (by omega) hR hsz 2 (by omega)) (gV wq_547 wq_544 wq_545 wq_546 wq_43) rfl kv_X2_drop rfl rfl ⟨rfl, rfl⟩ rfl hl.1 rfl ⟨Nat.le_of_ble_eq_true rfl, Nat.le_of_ble_eq_true rfl⟩ [1, 2] [0, 3, 4, 5] rfl rfl (by decide) (by decide) (by decide) rfl dX5_doStep_54 (fun w1 H locs hw hP hD hS => ?_)
          obtain ⟨hRd, rfl⟩ := hw
          have hP := hP.sub (ws' := [(hw, .inr (5, [.ref vr, .ref vk])), (vr, .inr (2, [.ref ar, .int (nI (xwr 600 (hd + 2))), .int (nI (sz - 2))])), (ar, xI Z 600 g), (hp, .inr (4, [.ref s0, .ref s1])), (s0, xI Z 121 sz1), (s1, xI Z 484 lt1)]) [0, 4, 5, 1, 2, 3] rfl
          have hD := hD.sub (ws' := [(hw, .inr (5, [.ref vr, .ref vk])), (vr, .inr (2, [.ref ar, .int (nI (xwr 600 (hd + 2))), .int (nI (sz - 2))])), (ar, xI Z 600 g), (hp, .inr (4, [.ref s0, .ref s1])), (s0, xI Z 121 sz1), (s1, xI Z 484 lt1)]) [0, 4, 5, 1, 2, 3] (by decide) rfl
          refine lv_aload_n hx hb dX5_doStep_57 rfl (lv_at hl 3 rfl) ?_
          refine lv_aload_n hx hb dX5_doStep_58 rfl (lv_at hl 2 rfl) ?_
          refine va_get (D := Z.1) (ci := 5) (v := .ref vr) (C := RX5) (T := TX5) (N := 2) hx hb hts iX5 hown hK hP 0 rfl rfl 0 (Nat.le_of_ble_eq_true rfl) qq_292 (fun _ h9 => h9) rfl dX5_doStep_59 ?_
          refine lv_iload_n hx hb dX5_doStep_62 rfl (lv_at hl 1 rfl) ?_
          refine x_Vv (y := yX4_appendTo) (As := [.ref vr, .int (nI (L.getD 0 0))]) (wc := [(hp, .inr (4, [.ref s0, .ref s1])), (s0, xI Z 121 sz1), (s1, xI Z 484 lt1), (vr, .inr (2, [.ref ar, .int (nI (xwr 600 (hd + 2))), .int (nI (sz - 2))])), (ar, xI Z 600 g)]) (wr := [(hw, .inr (5, [.ref vr, .ref vk]))]) hC hP hD hS (c_X4_appendTo l Z hp s0 s1 sz1 lt1 (xprod R) hT vr ar 600 (xwr 600 (hd + 2)) (sz - 2) g (L.drop 2) (by decide) hRd (by rw [List.length_drop]; omega) (L.getD 0 0) (by omega) (by rw [htp, List.length_drop]; omega)) (gV wq_552 wq_549 wq_550 wq_551 wq_35) rfl kv_X4_appendTo rfl rfl ⟨rfl, rfl⟩ rfl hl.1 rfl ⟨Nat.le_of_ble_eq_true rfl, Nat.le_of_ble_eq_true rfl⟩ [3, 4, 5, 1, 2] [0] rfl rfl (by decide) (by decide) (by decide) rfl dX5_doStep_63 (fun w1 H locs hw hP hD hS => ?_)
          obtain ⟨g2, hg2, rfl⟩ := hw
          have hP := hP.sub (ws' := [(hw, .inr (5, [.ref vr, .ref vk])), (vr, .inr (2, [.ref ar, .int (nI (xwr 600 (hd + 2))), .int (nI (sz - 2 + (tapp (xprod R) (L.getD 0 0)).length))])), (ar, xI Z 600 g2), (hp, .inr (4, [.ref s0, .ref s1])), (s0, xI Z 121 sz1), (s1, xI Z 484 lt1)]) [0, 4, 5, 1, 2, 3] rfl
          have hD := hD.sub (ws' := [(hw, .inr (5, [.ref vr, .ref vk])), (vr, .inr (2, [.ref ar, .int (nI (xwr 600 (hd + 2))), .int (nI (sz - 2 + (tapp (xprod R) (L.getD 0 0)).length))])), (ar, xI Z 600 g2), (hp, .inr (4, [.ref s0, .ref s1])), (s0, xI Z 121 sz1), (s1, xI Z 484 lt1)]) [0, 4, 5, 1, 2, 3] (by decide) rfl
          refine ln_const 1 hx hb dX5_doStep_66 (by decide) ?_
          rw [htp] at hg2 hP hD
          exact x_zret hC hr rfl hk hP hD hS dX5_doStep_67 (Or.inr ⟨L.drop 2 ++ xprod R (L.getD 0 0), _, g2, by unfold tstep; rw [if_neg (by omega), if_neg (by omega), if_neg (by omega)], hg2, rfl, by rw [List.length_append, List.length_drop, hsz]⟩)
        · refine ln_const 0 hx hb dX5_doStep_47 (by decide) ?_
          exact x_zret hC hr rfl hk hP hD hS dX5_doStep_48 (Or.inl ⟨by unfold tstep; rw [if_neg (by omega), if_neg (by omega), if_pos (by omega)], rfl, rfl⟩)

theorem kv_X5_doStep : yX5_doStep.cls = RX5 ∧ yX5_doStep.cls ≠ "java/lang/invoke/MethodHandle" ∧ yX5_doStep.cls ≠ "java/lang/invoke/VarHandle" ∧ (parseMethodDescriptor yX5_doStep.desc).map (fun d => d.parameters.length) = some 1 := by decide +kernel
set_option maxHeartbeats 4000000 in
set_option maxRecDepth 100000 in
theorem c_X5_doSteps (l : Launch) (Z : xZ) (hw vr vk ar hd sz : Nat) (g : Nat → Nat) (L : List Nat) (hR : RR 600 hd g L) (hsz : sz = L.length) (hp s0 s1 : Nat) (sz1 lt1 : Nat → Nat) (R : xRl) (hV : RV R) (hT : TR (xprod R) sz1 lt1) (hW : WV L) (n : Nat) (hn : n ≤ 20000) : xMi l Z yX5_doSteps vX5_doSteps ({ frames := 4, cells := 0, slots := 0, locals := 91 } : Room) [.ref hw, .int (nI n), .ref hp] [(hw, .inr (5, [.ref vr, .ref vk])), (vr, .inr (2, [.ref ar, .int (nI hd), .int (nI sz)])), (ar, xI Z 600 g), (hp, .inr (4, [.ref s0, .ref s1])), (s0, xI Z 121 sz1), (s1, xI Z 484 lt1)] (fun r w => ∃ k L2 hd2 g2, xrun (tstep R) n L = (k, L2) ∧ RR 600 hd2 g2 L2 ∧ WV L2 ∧ r = nI k ∧ w = [(hw, .inr (5, [.ref vr, .ref vk])), (vr, .inr (2, [.ref ar, .int (nI hd2), .int (nI L2.length)])), (ar, xI Z 600 g2), (hp, .inr (4, [.ref s0, .ref s1])), (s0, xI Z 121 sz1), (s1, xI Z 484 lt1)]) := by
  refine x_i (by decide) rfl (Nat.le_of_ble_eq_true rfl) ?_
  intro p e s m args below meth c ls A hC hr hk hl hP hD hS
  have hx := hC.1.1
  have hb := hC.1.2.1
  have hml := hC.1.2.2.1
  have hown : s.vm.findClass RX5 = some m.cls := hC.1.2.2.2.1
  have hts := hC.1.2.2.2.2
  have hK := hC.2.1
  have hl : lv_has ls 4 [(0, .ref hw), (1, .int (nI n)), (2, .ref hp)] := hl
  have hP : va_P Z.1 vwCl [(hw, .inr (5, [.ref vr, .ref vk])), (vr, .inr (2, [.ref ar, .int (nI hd), .int (nI sz)])), (ar, xI Z 600 g), (hp, .inr (4, [.ref s0, .ref s1])), (s0, xI Z 121 sz1), (s1, xI Z 484 lt1)] s.heap := hP
  have hD : va_D A [(hw, .inr (5, [.ref vr, .ref vk])), (vr, .inr (2, [.ref ar, .int (nI hd), .int (nI sz)])), (ar, xI Z 600 g), (hp, .inr (4, [.ref s0, .ref s1])), (s0, xI Z 121 sz1), (s1, xI Z 484 lt1)] := hD
  refine ln_const 0 hx hb dX5_doSteps_0 (by decide) ?_
  refine lv_istore_n (lv' := [(3, .int (nI 0)), (0, .ref hw), (1, .int (nI n)), (2, .ref hp)]) hx hb dX5_doSteps_1 rfl hl (by decide) rfl (fun ls hl => ?_)
  have hloop2 : ∀ (nn : Nat) (k hd1 sz2 : Nat) (g1 : Nat → Nat) (L1 : List Nat) (H : Heap) (locs : List Loc) (ls : Array Slot) (hX : XR (tstep R) n L k L1) (hR1 : RR 600 hd1 g1 L1) (hs1 : sz2 = L1.length) (hW1 : WV L1) (hmu : n - k < nn) (hP : va_P Z.1 vwCl [(hw, .inr (5, [.ref vr, .ref vk])), (vr, .inr (2, [.ref ar, .int (nI hd1), .int (nI sz2)])), (ar, xI Z 600 g1), (hp, .inr (4, [.ref s0, .ref s1])), (s0, xI Z 121 sz1), (s1, xI Z 484 lt1)] H) (hD : va_D A [(hw, .inr (5, [.ref vr, .ref vk])), (vr, .inr (2, [.ref ar, .int (nI hd1), .int (nI sz2)])), (ar, xI Z 600 g1), (hp, .inr (4, [.ref s0, .ref s1])), (s0, xI Z 121 sz1), (s1, xI Z 484 lt1)]) (hS : va_S A s.heap H locs) (hl : lv_has ls 4 [(0, .ref hw), (1, .int (nI n)), (2, .ref hp), (3, .int (nI k))]), W p l e ({ frames := 4, cells := 0, slots := 0, locals := 91 } : Room) s m args below meth c H locs 0 0 (MQ below (va_Qi (fun r w => ∃ k L2 hd2 g2, xrun (tstep R) n L = (k, L2) ∧ RR 600 hd2 g2 L2 ∧ WV L2 ∧ r = nI k ∧ w = [(hw, .inr (5, [.ref vr, .ref vk])), (vr, .inr (2, [.ref ar, .int (nI hd2), .int (nI L2.length)])), (ar, xI Z 600 g2), (hp, .inr (4, [.ref s0, .ref s1])), (s0, xI Z 121 sz1), (s1, xI Z 484 lt1)]) (xB Z A) A) args s ({ frames := 4, cells := 0, slots := 0, locals := 91 } : Room).cells ({ frames := 4, cells := 0, slots := 0, locals := 91 } : Room).slots A) (F0 m 2 ls []) := by
    intro nn
    induction nn with
    | zero => intro k hd1 sz2 g1 L1 H locs ls hX hR1 hs1 hW1 hmu; exact absurd hmu (Nat.not_lt_zero _)
    | succ nn ih =>
      intro k hd1 sz2 g1 L1 H locs ls hX hR1 hs1 hW1 hmu hP hD hS hl
      have hk1 := hX.1
      refine lv_iload_n hx hb dX5_doSteps_2 rfl (lv_at hl 3 rfl) ?_
      refine lv_iload_n hx hb dX5_doSteps_3 rfl (lv_at hl 1 rfl) ?_
      refine ln_icmp_ge (tgt := 21) hx hb dX5_doSteps_4 (by decide) (by omega) (by omega) (fun h4 => ?_) (fun h4 => ?_)
      · refine lv_iload_n hx hb dX5_doSteps_21 rfl (lv_at hl 3 rfl) ?_
        exact x_iret hC hr hk hP hD hS dX5_doSteps_22 ⟨k, L1, hd1, g1, hX.full (by omega), hR1, hW1, rfl, by rw [hs1]⟩
      · refine lv_aload_n hx hb dX5_doSteps_7 rfl (lv_at hl 0 rfl) ?_
        refine lv_aload_n hx hb dX5_doSteps_8 rfl (lv_at hl 2 rfl) ?_
        refine x_Vi (y := yX5_doStep) (As := [.ref hp]) (wc := [(hw, .inr (5, [.ref vr, .ref vk])), (vr, .inr (2, [.ref ar, .int (nI hd1), .int (nI sz2)])), (ar, xI Z 600 g1), (hp, .inr (4, [.ref s0, .ref s1])), (s0, xI Z 121 sz1), (s1, xI Z 484 lt1)]) (wr := []) hC hP hD hS (c_X5_doStep l Z hw vr vk ar hd1 sz2 g1 L1 hR1 hs1 hp s0 s1 sz1 lt1 R hV hT hW1) (gV wq_541 wq_538 wq_540 wq_8 wq_42) rfl kv_X5_doStep rfl rfl ⟨rfl, rfl⟩ rfl hl.1 rfl ⟨Nat.le_of_ble_eq_true rfl, Nat.le_of_ble_eq_true rfl⟩ [0, 1, 2, 3, 4, 5] ([] : List Nat) rfl rfl (by decide) (by decide) (by decide) rfl dX5_doSteps_9 (fun r9 w1 H locs hw hP hD hS => ?_)
        rcases hw with ⟨hst, rfl, rfl⟩ | ⟨L2, hd2, g2, hst, hR2, rfl, rfl⟩
        · have hP : va_P Z.1 vwCl [(hw, .inr (5, [.ref vr, .ref vk])), (vr, .inr (2, [.ref ar, .int (nI hd1), .int (nI sz2)])), (ar, xI Z 600 g1), (hp, .inr (4, [.ref s0, .ref s1])), (s0, xI Z 121 sz1), (s1, xI Z 484 lt1)] H := hP
          have hD : va_D A [(hw, .inr (5, [.ref vr, .ref vk])), (vr, .inr (2, [.ref ar, .int (nI hd1), .int (nI sz2)])), (ar, xI Z 600 g1), (hp, .inr (4, [.ref s0, .ref s1])), (s0, xI Z 121 sz1), (s1, xI Z 484 lt1)] := hD
          refine ln_if_eq (tgt := 21) hx hb dX5_doSteps_12 (by decide) (by omega) (fun h12 => ?_) (fun h12 => False.elim (by omega))
          refine lv_iload_n hx hb dX5_doSteps_21 rfl (lv_at hl 3 rfl) ?_
          exact x_iret hC hr hk hP hD hS dX5_doSteps_22 ⟨k, L1, hd1, g1, hX.stop hst, hR1, hW1, rfl, by rw [hs1]⟩
        · have hP : va_P Z.1 vwCl [(hw, .inr (5, [.ref vr, .ref vk])), (vr, .inr (2, [.ref ar, .int (nI hd2), .int (nI L2.length)])), (ar, xI Z 600 g2), (hp, .inr (4, [.ref s0, .ref s1])), (s0, xI Z 121 sz1), (s1, xI Z 484 lt1)] H := hP
          have hD : va_D A [(hw, .inr (5, [.ref vr, .ref vk])), (vr, .inr (2, [.ref ar, .int (nI hd2), .int (nI L2.length)])), (ar, xI Z 600 g2), (hp, .inr (4, [.ref s0, .ref s1])), (s0, xI Z 121 sz1), (s1, xI Z 484 lt1)] := hD
          refine ln_if_eq (tgt := 21) hx hb dX5_doSteps_12 (by decide) (by omega) (fun h12 => False.elim (by omega)) (fun h12 => ?_)
          refine ln_iinc (k0 := 3) (k := 1) (k + 1) (lv' := [(3, .int (nI (k + 1))), (0, .ref hw), (1, .int (nI n)), (2, .ref hp)]) hx hb dX5_doSteps_15 hl rfl rfl (by first | rfl | omega) (by decide) rfl (fun ls hl => ?_)
          refine lv_goto (tgt := 2) hx hb dX5_doSteps_18 (by decide) ?_
          exact ih  (k + 1) hd2 L2.length g2 L2 _ _ _ (hX.step (by omega) hst) hR2 rfl (tstep_ok hV hW1 hst) (by omega) hP hD hS (lv_sub hl [1, 2, 3, 0] rfl)
  exact hloop2 ((n - 0) + 1) 0 hd sz g L _ _ _ (XR.beg _ _ _) hR hsz hW (Nat.lt_succ_self _) hP hD hS (lv_sub hl [1, 2, 3, 0] rfl)

set_option maxHeartbeats 4000000 in
set_option maxRecDepth 100000 in
theorem c_X5_behindTwos (l : Launch) (Z : xZ) (hw vr vk ar hd sz : Nat) (g : Nat → Nat) (L : List Nat) (hR : RR 600 hd g L) (hsz : sz = L.length) (c1 f : Nat) (hc : c1 < 200) (hf : f < 1000) (h121 : ∀ z ∈ L, z < 121) : xMi l Z yX5_behindTwos vX5_behindTwos ({ frames := 2, cells := 0, slots := 0, locals := 43 } : Room) [.ref hw, .int (nI c1), .int (nI f)] [(hw, .inr (5, [.ref vr, .ref vk])), (vr, .inr (2, [.ref ar, .int (nI hd), .int (nI sz)])), (ar, xI Z 600 g)] (fun r w => ∃ k, BT L c1 f k ∧ r = nI (f + 2 * k) ∧ f + 2 * k < 3000 ∧ w = [(hw, .inr (5, [.ref vr, .ref vk])), (vr, .inr (2, [.ref ar, .int (nI hd), .int (nI sz)])), (ar, xI Z 600 g)]) := by
  refine x_i (by decide) rfl (Nat.le_of_ble_eq_true rfl) ?_
  intro p e s m args below meth c ls A hC hr hk hl hP hD hS
  have hx := hC.1.1
  have hb := hC.1.2.1
  have hml := hC.1.2.2.1
  have hown : s.vm.findClass RX5 = some m.cls := hC.1.2.2.2.1
  have hts := hC.1.2.2.2.2
  have hK := hC.2.1
  have qq_292 := hts (Cond.fieldLink RX5 14 "TagTower$Word" "row" "LTagTower$LetterRow;") (List.mem_cons_of_mem _ wq_292)
  have iX5 : ∀ w ∈ wsX50, w ∈ vX5_behindTwos := fun w h => List.mem_cons_of_mem _ (wi_X5 w h)
  have qf_30 := va_Nw.use (A := args) rfl (hC.2.2.2.1.2 (RX5, 30, RX2, "size", "I", RX6) (List.mem_of_getElem? (i := 5) rfl))
  have iX2 : ∀ w ∈ wsX20, w ∈ vX5_behindTwos := fun w h => List.mem_cons_of_mem _ (wi_X2 w h)
  have hl : lv_has ls 4 [(0, .ref hw), (1, .int (nI c1)), (2, .int (nI f))] := hl
  have hP : va_P Z.1 vwCl [(hw, .inr (5, [.ref vr, .ref vk])), (vr, .inr (2, [.ref ar, .int (nI hd), .int (nI sz)])), (ar, xI Z 600 g)] s.heap := hP
  have hD : va_D A [(hw, .inr (5, [.ref vr, .ref vk])), (vr, .inr (2, [.ref ar, .int (nI hd), .int (nI sz)])), (ar, xI Z 600 g)] := hD
  have hR1 := hR.1
  have hR2 := hR.2.1
  refine lv_iload_n hx hb dX5_behindTwos_0 rfl (lv_at hl 2 rfl) ?_
  refine lv_istore_n (lv' := [(3, .int (nI f)), (0, .ref hw), (1, .int (nI c1)), (2, .int (nI f))]) hx hb dX5_behindTwos_1 rfl hl (by decide) rfl (fun ls hl => ?_)
  have hloop2 : ∀ (nn : Nat) (k : Nat) (H : Heap) (locs : List Loc) (ls : Array Slot) (hB : ∀ j, j < k → f + 2 * j + 1 < L.length ∧ L.getD (f + 2 * j) 0 = c1 ∧ L.getD (f + 2 * j + 1) 0 = 0) (hmu : 1000 - k < nn) (hP : va_P Z.1 vwCl [(hw, .inr (5, [.ref vr, .ref vk])), (vr, .inr (2, [.ref ar, .int (nI hd), .int (nI sz)])), (ar, xI Z 600 g)] H) (hD : va_D A [(hw, .inr (5, [.ref vr, .ref vk])), (vr, .inr (2, [.ref ar, .int (nI hd), .int (nI sz)])), (ar, xI Z 600 g)]) (hS : va_S A s.heap H locs) (hl : lv_has ls 4 [(0, .ref hw), (1, .int (nI c1)), (2, .int (nI f)), (3, .int (nI (f + 2 * k)))]), W p l e ({ frames := 2, cells := 0, slots := 0, locals := 43 } : Room) s m args below meth c H locs 0 0 (MQ below (va_Qi (fun r w => ∃ k, BT L c1 f k ∧ r = nI (f + 2 * k) ∧ f + 2 * k < 3000 ∧ w = [(hw, .inr (5, [.ref vr, .ref vk])), (vr, .inr (2, [.ref ar, .int (nI hd), .int (nI sz)])), (ar, xI Z 600 g)]) (xB Z A) A) args s ({ frames := 2, cells := 0, slots := 0, locals := 43 } : Room).cells ({ frames := 2, cells := 0, slots := 0, locals := 43 } : Room).slots A) (F0 m 2 ls []) := by
    intro nn
    induction nn with
    | zero => intro k H locs ls hB hmu; exact absurd hmu (Nat.not_lt_zero _)
    | succ nn ih =>
      intro k H locs ls hB hmu hP hD hS hl
      have hk9 : k < 600 := by
        rcases Nat.eq_zero_or_pos k with q | q
        · omega
        · have := (hB (k - 1) (by omega)).1; omega
      refine lv_iload_n hx hb dX5_behindTwos_2 rfl (lv_at hl 3 rfl) ?_
      refine lv_aload_n hx hb dX5_behindTwos_3 rfl (lv_at hl 0 rfl) ?_
      refine va_get (D := Z.1) (ci := 5) (v := .ref vr) (C := RX5) (T := TX5) (N := 2) hx hb hts iX5 hown hK hP 0 rfl rfl 0 (Nat.le_of_ble_eq_true rfl) qq_292 (fun _ h9 => h9) rfl dX5_behindTwos_4 ?_
      refine va_getN (D := Z.1) (ci := 2) (v := .int (nI sz)) (C := RX2) (T := TX2) (N := 3) hx hb hts iX2 hown hK hP 1 rfl rfl 2 (Nat.le_of_ble_eq_true rfl) qf_30 (fun _ h9 => h9) rfl dX5_behindTwos_7 ?_
      refine ln_icmp_ge (tgt := 44) hx hb dX5_behindTwos_10 (by decide) (by omega) (by omega) (fun h10 => ?_) (fun h10 => ?_)
      · refine lv_iload_n hx hb dX5_behindTwos_44 rfl (lv_at hl 3 rfl) ?_
        exact x_iret hC hr hk hP hD hS dX5_behindTwos_45 ⟨k, ⟨hB, fun q => absurd q.1 (by omega)⟩, rfl, by omega, rfl⟩
      · refine lv_aload_n hx hb dX5_behindTwos_13 rfl (lv_at hl 0 rfl) ?_
        refine va_get (D := Z.1) (ci := 5) (v := .ref vr) (C := RX5) (T := TX5) (N := 2) hx hb hts iX5 hown hK hP 0 rfl rfl 0 (Nat.le_of_ble_eq_true rfl) qq_292 (fun _ h9 => h9) rfl dX5_behindTwos_14 ?_
        refine lv_iload_n hx hb dX5_behindTwos_17 rfl (lv_at hl 3 rfl) ?_
        refine x_Vi (y := yX2_get) (As := [.int (nI (f + 2 * k))]) (wc := [(vr, .inr (2, [.ref ar, .int (nI hd), .int (nI sz)])), (ar, xI Z 600 g)]) (wr := [(hw, .inr (5, [.ref vr, .ref vk]))]) hC hP hD hS (c_X2_get_in l Z vr ar 600 hd sz g L (by omega) hR hsz (f + 2 * k) (by omega)) (gV wq_524 wq_542 wq_522 wq_523 wq_43) rfl kv_X2_get rfl rfl ⟨rfl, rfl⟩ rfl hl.1 rfl ⟨Nat.le_of_ble_eq_true rfl, Nat.le_of_ble_eq_true rfl⟩ [1, 2] [0] rfl rfl (by decide) (by decide) (by decide) rfl dX5_behindTwos_18 (fun r18 w1 H locs hw hP hD hS => ?_)
        obtain ⟨rfl, rfl⟩ := hw
        have hP : va_P Z.1 vwCl [(hw, .inr (5, [.ref vr, .ref vk])), (vr, .inr (2, [.ref ar, .int (nI hd), .int (nI sz)])), (ar, xI Z 600 g)] H := hP
        have hD : va_D A [(hw, .inr (5, [.ref vr, .ref vk])), (vr, .inr (2, [.ref ar, .int (nI hd), .int (nI sz)])), (ar, xI Z 600 g)] := hD
        have hz := h121 _ (getD_mem (i := f + 2 * k) (by omega))
        refine lv_iload_n hx hb dX5_behindTwos_21 rfl (lv_at hl 1 rfl) ?_
        refine ln_icmp_ne (tgt := 44) hx hb dX5_behindTwos_22 (by decide) (by omega) (by omega) (fun h22 => ?_) (fun h22 => ?_)
        · refine lv_iload_n hx hb dX5_behindTwos_44 rfl (lv_at hl 3 rfl) ?_
          exact x_iret hC hr hk hP hD hS dX5_behindTwos_45 ⟨k, ⟨hB, fun q => h22 q.2.1⟩, rfl, by omega, rfl⟩
        · rcases Nat.lt_or_ge (f + 2 * k + 1) L.length with hin | hin
          · refine lv_aload_n hx hb dX5_behindTwos_25 rfl (lv_at hl 0 rfl) ?_
            refine va_get (D := Z.1) (ci := 5) (v := .ref vr) (C := RX5) (T := TX5) (N := 2) hx hb hts iX5 hown hK hP 0 rfl rfl 0 (Nat.le_of_ble_eq_true rfl) qq_292 (fun _ h9 => h9) rfl dX5_behindTwos_26 ?_
            refine lv_iload_n hx hb dX5_behindTwos_29 rfl (lv_at hl 3 rfl) ?_
            refine ln_const 1 hx hb dX5_behindTwos_30 (by decide) ?_
            refine ln_iadd ((f + 2 * k) + 1) hx hb dX5_behindTwos_31 (by first | rfl | omega) ?_
            refine x_Vi (y := yX2_get) (As := [.int (nI ((f + 2 * k) + 1))]) (wc := [(vr, .inr (2, [.ref ar, .int (nI hd), .int (nI sz)])), (ar, xI Z 600 g)]) (wr := [(hw, .inr (5, [.ref vr, .ref vk]))]) hC hP hD hS (c_X2_get_in l Z vr ar 600 hd sz g L (by omega) hR hsz ((f + 2 * k) + 1) (by omega)) (gV wq_524 wq_542 wq_522 wq_523 wq_43) rfl kv_X2_get rfl rfl ⟨rfl, rfl⟩ rfl hl.1 rfl ⟨Nat.le_of_ble_eq_true rfl, Nat.le_of_ble_eq_true rfl⟩ [1, 2] [0] rfl rfl (by decide) (by decide) (by decide) rfl dX5_behindTwos_32 (fun r32 w1 H locs hw hP hD hS => ?_)
            obtain ⟨rfl, rfl⟩ := hw
            have hP : va_P Z.1 vwCl [(hw, .inr (5, [.ref vr, .ref vk])), (vr, .inr (2, [.ref ar, .int (nI hd), .int (nI sz)])), (ar, xI Z 600 g)] H := hP
            have hD : va_D A [(hw, .inr (5, [.ref vr, .ref vk])), (vr, .inr (2, [.ref ar, .int (nI hd), .int (nI sz)])), (ar, xI Z 600 g)] := hD
            have hz2 := h121 _ (getD_mem (i := f + 2 * k + 1) (by omega))
            refine ln_if_ne (tgt := 44) hx hb dX5_behindTwos_35 (by decide) (by omega) (fun h35 => ?_) (fun h35 => ?_)
            · refine lv_iload_n hx hb dX5_behindTwos_44 rfl (lv_at hl 3 rfl) ?_
              exact x_iret hC hr hk hP hD hS dX5_behindTwos_45 ⟨k, ⟨hB, fun q => h35 q.2.2⟩, rfl, by omega, rfl⟩
            · refine ln_iinc (k0 := 3) (k := 2) (f + 2 * (k + 1)) (lv' := [(3, .int (nI (f + 2 * (k + 1)))), (0, .ref hw), (1, .int (nI c1)), (2, .int (nI f))]) hx hb dX5_behindTwos_38 hl rfl rfl (by first | rfl | omega) (by decide) rfl (fun ls hl => ?_)
              refine lv_goto (tgt := 2) hx hb dX5_behindTwos_41 (by decide) ?_
              exact ih  (k + 1) _ _ _ (fun j hj => (Nat.lt_or_ge j k).elim (hB j) (fun q => by rw [show j = k by omega]; exact ⟨hin, h22, h35⟩)) (by omega) hP hD hS (lv_sub hl [1, 2, 3, 0] rfl)
          · refine lv_aload_n hx hb dX5_behindTwos_25 rfl (lv_at hl 0 rfl) ?_
            refine va_get (D := Z.1) (ci := 5) (v := .ref vr) (C := RX5) (T := TX5) (N := 2) hx hb hts iX5 hown hK hP 0 rfl rfl 0 (Nat.le_of_ble_eq_true rfl) qq_292 (fun _ h9 => h9) rfl dX5_behindTwos_26 ?_
            refine lv_iload_n hx hb dX5_behindTwos_29 rfl (lv_at hl 3 rfl) ?_
            refine ln_const 1 hx hb dX5_behindTwos_30 (by decide) ?_
            refine ln_iadd ((f + 2 * k) + 1) hx hb dX5_behindTwos_31 (by first | rfl | omega) ?_
            refine x_Vi (y := yX2_get) (As := [.int (nI ((f + 2 * k) + 1))]) (wc := [(vr, .inr (2, [.ref ar, .int (nI hd), .int (nI sz)])), (ar, xI Z 600 g)]) (wr := [(hw, .inr (5, [.ref vr, .ref vk]))]) hC hP hD hS (c_X2_get_out l Z vr ar 600 hd sz g L (by omega) hR hsz (nI ((f + 2 * k) + 1)) (by rw [nI_toInt (by omega)]; omega)) (gV wq_524 wq_542 wq_522 wq_523 wq_43) rfl kv_X2_get rfl rfl ⟨rfl, rfl⟩ rfl hl.1 rfl ⟨Nat.le_of_ble_eq_true rfl, Nat.le_of_ble_eq_true rfl⟩ [1, 2] [0] rfl rfl (by decide) (by decide) (by decide) rfl dX5_behindTwos_32 (fun r32 w1 H locs hw hP hD hS => ?_)
            obtain ⟨rfl, rfl⟩ := hw
            have hP : va_P Z.1 vwCl [(hw, .inr (5, [.ref vr, .ref vk])), (vr, .inr (2, [.ref ar, .int (nI hd), .int (nI sz)])), (ar, xI Z 600 g)] H := hP
            have hD : va_D A [(hw, .inr (5, [.ref vr, .ref vk])), (vr, .inr (2, [.ref ar, .int (nI hd), .int (nI sz)])), (ar, xI Z 600 g)] := hD
            refine lv_if_ne (tgt := 44) hx hb dX5_behindTwos_35 (by decide) (fun h35 => ?_) (fun h35 => False.elim (by revert h35; decide))
            refine lv_iload_n hx hb dX5_behindTwos_44 rfl (lv_at hl 3 rfl) ?_
            exact x_iret hC hr hk hP hD hS dX5_behindTwos_45 ⟨k, ⟨hB, fun q => absurd q.1 (by omega)⟩, rfl, by omega, rfl⟩
  exact hloop2 ((1000 - 0) + 1) 0 _ _ _ (fun j hj => absurd hj (Nat.not_lt_zero _)) (Nat.lt_succ_self _) hP hD hS (lv_sub hl [1, 2, 3, 0] rfl)

theorem xne9 {c : Nat} (h : c < 2147483648) (e : (-9 : Int32) = nI c) : False := by
  have h1 := congrArg Int32.toInt e
  rw [nI_toInt h] at h1
  have : (-9 : Int32).toInt = -9 := by decide
  omega

theorem kv_X5_behindTwos : yX5_behindTwos.cls = RX5 ∧ yX5_behindTwos.cls ≠ "java/lang/invoke/MethodHandle" ∧ yX5_behindTwos.cls ≠ "java/lang/invoke/VarHandle" ∧ (parseMethodDescriptor yX5_behindTwos.desc).map (fun d => d.parameters.length) = some 2 := by decide +kernel
set_option maxHeartbeats 4000000 in
set_option maxRecDepth 100000 in
theorem c_X5_middle (l : Launch) (Z : xZ) (hw vr vk ar hd sz : Nat) (g : Nat → Nat) (L : List Nat) (hR : RR 600 hd g L) (hsz : sz = L.length) (hW : WV L) : xMi l Z yX5_middle vX5_middle ({ frames := 3, cells := 0, slots := 0, locals := 66 } : Room) [.ref hw] [(hw, .inr (5, [.ref vr, .ref vk])), (vr, .inr (2, [.ref ar, .int (nI hd), .int (nI sz)])), (ar, xI Z 600 g)] (fun r w => (∃ q f1 g1, q < 6 ∧ L = xlay q f1 g1 ∧ r = nI (2 * f1 + 2) ∧ w = [(hw, .inr (5, [.ref vr, .ref vk])), (vr, .inr (2, [.ref ar, .int (nI hd), .int (nI sz)])), (ar, xI Z 600 g)]) ∨ (¬ isPl L ∧ r = -9 ∧ w = [(hw, .inr (5, [.ref vr, .ref vk])), (vr, .inr (2, [.ref ar, .int (nI hd), .int (nI sz)])), (ar, xI Z 600 g)])) := by
  refine x_i (by decide) rfl (Nat.le_of_ble_eq_true rfl) ?_
  intro p e s m args below meth c ls A hC hr hk hl hP hD hS
  have hx := hC.1.1
  have hb := hC.1.2.1
  have hml := hC.1.2.2.1
  have hown : s.vm.findClass RX5 = some m.cls := hC.1.2.2.2.1
  have hts := hC.1.2.2.2.2
  have hK := hC.2.1
  have qq_292 := hts (Cond.fieldLink RX5 14 "TagTower$Word" "row" "LTagTower$LetterRow;") (List.mem_cons_of_mem _ wq_292)
  have iX5 : ∀ w ∈ wsX50, w ∈ vX5_middle := fun w h => List.mem_cons_of_mem _ (wi_X5 w h)
  have qf_30 := va_Nw.use (A := args) rfl (hC.2.2.2.1.2 (RX5, 30, RX2, "size", "I", RX6) (List.mem_of_getElem? (i := 5) rfl))
  have iX2 : ∀ w ∈ wsX20, w ∈ vX5_middle := fun w h => List.mem_cons_of_mem _ (wi_X2 w h)
  have hl : lv_has ls 4 [(0, .ref hw)] := hl
  have hP : va_P Z.1 vwCl [(hw, .inr (5, [.ref vr, .ref vk])), (vr, .inr (2, [.ref ar, .int (nI hd), .int (nI sz)])), (ar, xI Z 600 g)] s.heap := hP
  have hD : va_D A [(hw, .inr (5, [.ref vr, .ref vk])), (vr, .inr (2, [.ref ar, .int (nI hd), .int (nI sz)])), (ar, xI Z 600 g)] := hD
  have hR1 := hR.1
  have hR2 := hR.2.1
  rcases Nat.eq_zero_or_pos L.length with hle | hle
  · have hR1 := hR.1
    have hR2 := hR.2.1
    refine lv_aload_n hx hb dX5_middle_0 rfl (lv_at hl 0 rfl) ?_
    refine va_get (D := Z.1) (ci := 5) (v := .ref vr) (C := RX5) (T := TX5) (N := 2) hx hb hts iX5 hown hK hP 0 rfl rfl 0 (Nat.le_of_ble_eq_true rfl) qq_292 (fun _ h9 => h9) rfl dX5_middle_1 ?_
    refine ln_const 0 hx hb dX5_middle_4 (by decide) ?_
    refine x_Vi (y := yX2_get) (As := [.int (nI 0)]) (wc := [(vr, .inr (2, [.ref ar, .int (nI hd), .int (nI sz)])), (ar, xI Z 600 g)]) (wr := [(hw, .inr (5, [.ref vr, .ref vk]))]) hC hP hD hS (c_X2_get_out l Z vr ar 600 hd sz g L (by omega) hR hsz (nI 0) (by rw [hle]; decide)) (gV wq_524 wq_542 wq_522 wq_523 wq_43) rfl kv_X2_get rfl rfl ⟨rfl, rfl⟩ rfl hl.1 rfl ⟨Nat.le_of_ble_eq_true rfl, Nat.le_of_ble_eq_true rfl⟩ [1, 2] [0] rfl rfl (by decide) (by decide) (by decide) rfl dX5_middle_5 (fun r5 w1 H locs hw hP hD hS => ?_)
    obtain ⟨rfl, rfl⟩ := hw
    have hP : va_P Z.1 vwCl [(hw, .inr (5, [.ref vr, .ref vk])), (vr, .inr (2, [.ref ar, .int (nI hd), .int (nI sz)])), (ar, xI Z 600 g)] H := hP
    have hD : va_D A [(hw, .inr (5, [.ref vr, .ref vk])), (vr, .inr (2, [.ref ar, .int (nI hd), .int (nI sz)])), (ar, xI Z 600 g)] := hD
    refine lv_istore_n (lv' := [(1, .int ((-9))), (0, .ref hw)]) hx hb dX5_middle_8 rfl hl (by decide) rfl (fun ls hl => ?_)
    refine lv_iload_n hx hb dX5_middle_9 rfl (lv_at hl 0 rfl) ?_
    refine ln_bipush 20 hx hb dX5_middle_10 (by decide) ?_
    refine lv_irem hx hb dX5_middle_12 (by decide) ?_
    refine ln_const 1 hx hb dX5_middle_13 (by decide) ?_
    refine lv_icmp_ne (tgt := 28) hx hb dX5_middle_14 (by decide) (fun h14 => ?_) (fun h14 => False.elim (by revert h14; decide))
    refine lv_bipush (v := (-9)) hx hb dX5_middle_28 (by decide) ?_
    exact x_iret hC hr hk hP hD hS dX5_middle_30 (Or.inr ⟨by rintro ⟨q, f1, g1, hq, e⟩; have el := congrArg List.length e; rw [xlay_len] at el; omega, rfl, rfl⟩)
  · have hR1 := hR.1
    have hR2 := hR.2.1
    refine lv_aload_n hx hb dX5_middle_0 rfl (lv_at hl 0 rfl) ?_
    refine va_get (D := Z.1) (ci := 5) (v := .ref vr) (C := RX5) (T := TX5) (N := 2) hx hb hts iX5 hown hK hP 0 rfl rfl 0 (Nat.le_of_ble_eq_true rfl) qq_292 (fun _ h9 => h9) rfl dX5_middle_1 ?_
    refine ln_const 0 hx hb dX5_middle_4 (by decide) ?_
    refine x_Vi (y := yX2_get) (As := [.int (nI 0)]) (wc := [(vr, .inr (2, [.ref ar, .int (nI hd), .int (nI sz)])), (ar, xI Z 600 g)]) (wr := [(hw, .inr (5, [.ref vr, .ref vk]))]) hC hP hD hS (c_X2_get_in l Z vr ar 600 hd sz g L (by omega) hR hsz 0 (by omega)) (gV wq_524 wq_542 wq_522 wq_523 wq_43) rfl kv_X2_get rfl rfl ⟨rfl, rfl⟩ rfl hl.1 rfl ⟨Nat.le_of_ble_eq_true rfl, Nat.le_of_ble_eq_true rfl⟩ [1, 2] [0] rfl rfl (by decide) (by decide) (by decide) rfl dX5_middle_5 (fun r5 w1 H locs hw hP hD hS => ?_)
    obtain ⟨rfl, rfl⟩ := hw
    have hP : va_P Z.1 vwCl [(hw, .inr (5, [.ref vr, .ref vk])), (vr, .inr (2, [.ref ar, .int (nI hd), .int (nI sz)])), (ar, xI Z 600 g)] H := hP
    have hD : va_D A [(hw, .inr (5, [.ref vr, .ref vk])), (vr, .inr (2, [.ref ar, .int (nI hd), .int (nI sz)])), (ar, xI Z 600 g)] := hD
    have hc0 := hW.at0 (i := 0) (by omega)
    refine lv_istore_n (lv' := [(1, .int (nI (L.getD 0 0))), (0, .ref hw)]) hx hb dX5_middle_8 rfl hl (by decide) rfl (fun ls hl => ?_)
    refine lv_iload_n hx hb dX5_middle_9 rfl (lv_at hl 0 rfl) ?_
    refine ln_bipush 20 hx hb dX5_middle_10 (by decide) ?_
    refine ln_irem ((L.getD 0 0) % 20) hx hb dX5_middle_12 (by omega) (by omega) (by omega) (by first | rfl | omega) ?_
    refine ln_const 1 hx hb dX5_middle_13 (by decide) ?_
    refine ln_icmp_ne (tgt := 28) hx hb dX5_middle_14 (by decide) (by omega) (by omega) (fun h14 => ?_) (fun h14 => ?_)
    · refine lv_bipush (v := (-9)) hx hb dX5_middle_28 (by decide) ?_
      exact x_iret hC hr hk hP hD hS dX5_middle_30 (Or.inr ⟨by rintro ⟨q, f1, g1, hq, e⟩; have el := congrArg List.length e; rw [xlay_len] at el; have e0 : L.getD 0 0 = 20 * q + 1 := (congrArg (fun l => List.getD l 0 0) e).trans (xlay_at (by omega)); omega, rfl, rfl⟩)
    · rcases Nat.lt_or_ge 1 L.length with hl1 | hl1
      · refine lv_aload_n hx hb dX5_middle_17 rfl (lv_at hl 1 rfl) ?_
        refine va_get (D := Z.1) (ci := 5) (v := .ref vr) (C := RX5) (T := TX5) (N := 2) hx hb hts iX5 hown hK hP 0 rfl rfl 0 (Nat.le_of_ble_eq_true rfl) qq_292 (fun _ h9 => h9) rfl dX5_middle_18 ?_
        refine ln_const 1 hx hb dX5_middle_21 (by decide) ?_
        refine x_Vi (y := yX2_get) (As := [.int (nI 1)]) (wc := [(vr, .inr (2, [.ref ar, .int (nI hd), .int (nI sz)])), (ar, xI Z 600 g)]) (wr := [(hw, .inr (5, [.ref vr, .ref vk]))]) hC hP hD hS (c_X2_get_in l Z vr ar 600 hd sz g L (by omega) hR hsz 1 (by omega)) (gV wq_524 wq_542 wq_522 wq_523 wq_43) rfl kv_X2_get rfl rfl ⟨rfl, rfl⟩ rfl hl.1 rfl ⟨Nat.le_of_ble_eq_true rfl, Nat.le_of_ble_eq_true rfl⟩ [1, 2] [0] rfl rfl (by decide) (by decide) (by decide) rfl dX5_middle_22 (fun r22 w1 H locs hw hP hD hS => ?_)
        obtain ⟨rfl, rfl⟩ := hw
        have hP : va_P Z.1 vwCl [(hw, .inr (5, [.ref vr, .ref vk])), (vr, .inr (2, [.ref ar, .int (nI hd), .int (nI sz)])), (ar, xI Z 600 g)] H := hP
        have hD : va_D A [(hw, .inr (5, [.ref vr, .ref vk])), (vr, .inr (2, [.ref ar, .int (nI hd), .int (nI sz)])), (ar, xI Z 600 g)] := hD
        have hc1 := hW.at0 (i := 1) (by omega)
        refine ln_if_eq (tgt := 31) hx hb dX5_middle_25 (by decide) (by omega) (fun h25 => ?_) (fun h25 => ?_)
        · refine lv_iload_n hx hb dX5_middle_31 rfl (lv_at hl 0 rfl) ?_
          refine ln_const 1 hx hb dX5_middle_32 (by decide) ?_
          refine ln_isub ((L.getD 0 0) - 1) hx hb dX5_middle_33 (by omega) (by first | rfl | omega) ?_
          refine lv_istore_n (lv' := [(2, .int (nI ((L.getD 0 0) - 1))), (1, .int (nI (L.getD 0 0))), (0, .ref hw)]) hx hb dX5_middle_34 rfl hl (by decide) rfl (fun ls hl => ?_)
          refine lv_aload_n hx hb dX5_middle_35 rfl (lv_at hl 2 rfl) ?_
          refine lv_iload_n hx hb dX5_middle_36 rfl (lv_at hl 0 rfl) ?_
          refine ln_const 2 hx hb dX5_middle_37 (by decide) ?_
          refine ln_iadd (((L.getD 0 0) - 1) + 2) hx hb dX5_middle_38 (by first | rfl | omega) ?_
          refine ln_const 2 hx hb dX5_middle_39 (by decide) ?_
          refine x_Vi (y := yX5_behindTwos) (As := [.int (nI (((L.getD 0 0) - 1) + 2)), .int (nI 2)]) (wc := [(hw, .inr (5, [.ref vr, .ref vk])), (vr, .inr (2, [.ref ar, .int (nI hd), .int (nI sz)])), (ar, xI Z 600 g)]) (wr := []) hC hP hD hS (c_X5_behindTwos l Z hw vr vk ar hd sz g L hR hsz (((L.getD 0 0) - 1) + 2) 2 (by omega) (by omega) hW.2) (gV wq_576 wq_573 wq_575 wq_10 wq_42) rfl kv_X5_behindTwos rfl rfl ⟨rfl, rfl⟩ rfl hl.1 rfl ⟨Nat.le_of_ble_eq_true rfl, Nat.le_of_ble_eq_true rfl⟩ [0, 1, 2] ([] : List Nat) rfl rfl (by decide) (by decide) (by decide) rfl dX5_middle_40 (fun r40 w1 H locs hw hP hD hS => ?_)
          obtain ⟨k, hBk, rfl, hlk, rfl⟩ := hw
          have hP : va_P Z.1 vwCl [(hw, .inr (5, [.ref vr, .ref vk])), (vr, .inr (2, [.ref ar, .int (nI hd), .int (nI sz)])), (ar, xI Z 600 g)] H := hP
          have hD : va_D A [(hw, .inr (5, [.ref vr, .ref vk])), (vr, .inr (2, [.ref ar, .int (nI hd), .int (nI sz)])), (ar, xI Z 600 g)] := hD
          refine lv_istore_n (lv' := [(3, .int (nI (2 + 2 * k))), (2, .int (nI ((L.getD 0 0) - 1))), (1, .int (nI (L.getD 0 0))), (0, .ref hw)]) hx hb dX5_middle_43 rfl hl (by decide) rfl (fun ls hl => ?_)
          rcases Nat.lt_or_ge (2 + 2 * k) L.length with hm1 | hm1
          · refine lv_aload_n hx hb dX5_middle_44 rfl (lv_at hl 3 rfl) ?_
            refine va_get (D := Z.1) (ci := 5) (v := .ref vr) (C := RX5) (T := TX5) (N := 2) hx hb hts iX5 hown hK hP 0 rfl rfl 0 (Nat.le_of_ble_eq_true rfl) qq_292 (fun _ h9 => h9) rfl dX5_middle_45 ?_
            refine lv_iload_n hx hb dX5_middle_48 rfl (lv_at hl 0 rfl) ?_
            refine x_Vi (y := yX2_get) (As := [.int (nI (2 + 2 * k))]) (wc := [(vr, .inr (2, [.ref ar, .int (nI hd), .int (nI sz)])), (ar, xI Z 600 g)]) (wr := [(hw, .inr (5, [.ref vr, .ref vk]))]) hC hP hD hS (c_X2_get_in l Z vr ar 600 hd sz g L (by omega) hR hsz (2 + 2 * k) (by omega)) (gV wq_524 wq_542 wq_522 wq_523 wq_43) rfl kv_X2_get rfl rfl ⟨rfl, rfl⟩ rfl hl.1 rfl ⟨Nat.le_of_ble_eq_true rfl, Nat.le_of_ble_eq_true rfl⟩ [1, 2] [0] rfl rfl (by decide) (by decide) (by decide) rfl dX5_middle_49 (fun r49 w1 H locs hw hP hD hS => ?_)
            obtain ⟨rfl, rfl⟩ := hw
            have hP : va_P Z.1 vwCl [(hw, .inr (5, [.ref vr, .ref vk])), (vr, .inr (2, [.ref ar, .int (nI hd), .int (nI sz)])), (ar, xI Z 600 g)] H := hP
            have hD : va_D A [(hw, .inr (5, [.ref vr, .ref vk])), (vr, .inr (2, [.ref ar, .int (nI hd), .int (nI sz)])), (ar, xI Z 600 g)] := hD
            have hcm := hW.at0 (i := 2 + 2 * k) (by omega)
            refine lv_iload_n hx hb dX5_middle_52 rfl (lv_at hl 1 rfl) ?_
            refine ln_const 5 hx hb dX5_middle_53 (by decide) ?_
            refine ln_iadd (((L.getD 0 0) - 1) + 5) hx hb dX5_middle_54 (by first | rfl | omega) ?_
            refine ln_icmp_ne (tgt := 71) hx hb dX5_middle_55 (by decide) (by omega) (by omega) (fun h55 => ?_) (fun h55 => ?_)
            · refine lv_bipush (v := (-9)) hx hb dX5_middle_71 (by decide) ?_
              exact x_iret hC hr hk hP hD hS dX5_middle_73 (Or.inr ⟨by rintro ⟨q, f1, g1, hq, e⟩; have el := congrArg List.length e; rw [xlay_len] at el; have e0 : L.getD 0 0 = 20 * q + 1 := (congrArg (fun l => List.getD l 0 0) e).trans (xlay_at (by omega)); have ek := pl_k e (show BT L (xof q 1) 2 k from (by unfold xof; rw [show 20 * q + 1 + 1 = L.getD 0 0 - 1 + 2 by omega]; exact hBk)); subst ek; have eb : L.getD (2 + 2 * k) 0 = 20 * q + 1 + 4 := (congrArg (fun l => List.getD l (2 + 2 * k) 0) e).trans ((xlay_at (by omega)).trans (by unfold xlf xof; rw [if_neg (by omega), if_neg (by omega), if_neg (by omega), if_pos (by omega)])); omega, rfl, rfl⟩)
            · rcases Nat.lt_or_ge (2 + 2 * k + 1) L.length with hm2 | hm2
              · refine lv_aload_n hx hb dX5_middle_58 rfl (lv_at hl 3 rfl) ?_
                refine va_get (D := Z.1) (ci := 5) (v := .ref vr) (C := RX5) (T := TX5) (N := 2) hx hb hts iX5 hown hK hP 0 rfl rfl 0 (Nat.le_of_ble_eq_true rfl) qq_292 (fun _ h9 => h9) rfl dX5_middle_59 ?_
                refine lv_iload_n hx hb dX5_middle_62 rfl (lv_at hl 0 rfl) ?_
                refine ln_const 1 hx hb dX5_middle_63 (by decide) ?_
                refine ln_iadd ((2 + 2 * k) + 1) hx hb dX5_middle_64 (by first | rfl | omega) ?_
                refine x_Vi (y := yX2_get) (As := [.int (nI ((2 + 2 * k) + 1))]) (wc := [(vr, .inr (2, [.ref ar, .int (nI hd), .int (nI sz)])), (ar, xI Z 600 g)]) (wr := [(hw, .inr (5, [.ref vr, .ref vk]))]) hC hP hD hS (c_X2_get_in l Z vr ar 600 hd sz g L (by omega) hR hsz ((2 + 2 * k) + 1) (by omega)) (gV wq_524 wq_542 wq_522 wq_523 wq_43) rfl kv_X2_get rfl rfl ⟨rfl, rfl⟩ rfl hl.1 rfl ⟨Nat.le_of_ble_eq_true rfl, Nat.le_of_ble_eq_true rfl⟩ [1, 2] [0] rfl rfl (by decide) (by decide) (by decide) rfl dX5_middle_65 (fun r65 w1 H locs hw hP hD hS => ?_)
                obtain ⟨rfl, rfl⟩ := hw
                have hP : va_P Z.1 vwCl [(hw, .inr (5, [.ref vr, .ref vk])), (vr, .inr (2, [.ref ar, .int (nI hd), .int (nI sz)])), (ar, xI Z 600 g)] H := hP
                have hD : va_D A [(hw, .inr (5, [.ref vr, .ref vk])), (vr, .inr (2, [.ref ar, .int (nI hd), .int (nI sz)])), (ar, xI Z 600 g)] := hD
                have hcm1 := hW.at0 (i := 2 + 2 * k + 1) (by omega)
                refine ln_if_eq (tgt := 74) hx hb dX5_middle_68 (by decide) (by omega) (fun h68 => ?_) (fun h68 => ?_)
                · refine lv_aload_n hx hb dX5_middle_74 rfl (lv_at hl 3 rfl) ?_
                  refine lv_iload_n hx hb dX5_middle_75 rfl (lv_at hl 1 rfl) ?_
                  refine ln_bipush 6 hx hb dX5_middle_76 (by decide) ?_
                  refine ln_iadd (((L.getD 0 0) - 1) + 6) hx hb dX5_middle_78 (by first | rfl | omega) ?_
                  refine lv_iload_n hx hb dX5_middle_79 rfl (lv_at hl 0 rfl) ?_
                  refine ln_const 2 hx hb dX5_middle_80 (by decide) ?_
                  refine ln_iadd ((2 + 2 * k) + 2) hx hb dX5_middle_81 (by first | rfl | omega) ?_
                  refine x_Vi (y := yX5_behindTwos) (As := [.int (nI (((L.getD 0 0) - 1) + 6)), .int (nI ((2 + 2 * k) + 2))]) (wc := [(hw, .inr (5, [.ref vr, .ref vk])), (vr, .inr (2, [.ref ar, .int (nI hd), .int (nI sz)])), (ar, xI Z 600 g)]) (wr := []) hC hP hD hS (c_X5_behindTwos l Z hw vr vk ar hd sz g L hR hsz (((L.getD 0 0) - 1) + 6) ((2 + 2 * k) + 2) (by omega) (by omega) hW.2) (gV wq_576 wq_573 wq_575 wq_10 wq_42) rfl kv_X5_behindTwos rfl rfl ⟨rfl, rfl⟩ rfl hl.1 rfl ⟨Nat.le_of_ble_eq_true rfl, Nat.le_of_ble_eq_true rfl⟩ [0, 1, 2] ([] : List Nat) rfl rfl (by decide) (by decide) (by decide) rfl dX5_middle_82 (fun r82 w1 H locs hw hP hD hS => ?_)
                  obtain ⟨k2, hBk2, rfl, hlk2, rfl⟩ := hw
                  have hP : va_P Z.1 vwCl [(hw, .inr (5, [.ref vr, .ref vk])), (vr, .inr (2, [.ref ar, .int (nI hd), .int (nI sz)])), (ar, xI Z 600 g)] H := hP
                  have hD : va_D A [(hw, .inr (5, [.ref vr, .ref vk])), (vr, .inr (2, [.ref ar, .int (nI hd), .int (nI sz)])), (ar, xI Z 600 g)] := hD
                  refine lv_aload_n hx hb dX5_middle_85 rfl (lv_at hl 3 rfl) ?_
                  refine va_get (D := Z.1) (ci := 5) (v := .ref vr) (C := RX5) (T := TX5) (N := 2) hx hb hts iX5 hown hK hP 0 rfl rfl 0 (Nat.le_of_ble_eq_true rfl) qq_292 (fun _ h9 => h9) rfl dX5_middle_86 ?_
                  refine va_getN (D := Z.1) (ci := 2) (v := .int (nI sz)) (C := RX2) (T := TX2) (N := 3) hx hb hts iX2 hown hK hP 1 rfl rfl 2 (Nat.le_of_ble_eq_true rfl) qf_30 (fun _ h9 => h9) rfl dX5_middle_89 ?_
                  refine ln_icmp_ne (tgt := 99) hx hb dX5_middle_92 (by decide) (by omega) (by omega) (fun h92 => ?_) (fun h92 => ?_)
                  · refine lv_bipush (v := (-9)) hx hb dX5_middle_99 (by decide) ?_
                    exact x_iret hC hr hk hP hD hS dX5_middle_101 (Or.inr ⟨by rintro ⟨q, f1, g1, hq, e⟩; have el := congrArg List.length e; rw [xlay_len] at el; have e0 : L.getD 0 0 = 20 * q + 1 := (congrArg (fun l => List.getD l 0 0) e).trans (xlay_at (by omega)); have ek := pl_k e (show BT L (xof q 1) 2 k from (by unfold xof; rw [show 20 * q + 1 + 1 = L.getD 0 0 - 1 + 2 by omega]; exact hBk)); subst ek; have en := pl_n e (show BT L (xof q 5) (2 * k + 4) k2 from (by unfold xof; rw [show 20 * q + 1 + 5 = L.getD 0 0 - 1 + 6 by omega, show 2 * k + 4 = 2 + 2 * k + 2 by omega]; exact hBk2)); subst en; omega, rfl, rfl⟩)
                  · refine lv_iload_n hx hb dX5_middle_95 rfl (lv_at hl 0 rfl) ?_
                    refine lv_goto (tgt := 101) hx hb dX5_middle_96 (by decide) ?_
                    exact x_iret hC hr hk hP hD hS dX5_middle_101 (Or.inl ⟨(L.getD 0 0 - 1) / 20, k, k2, by omega, pl_mk (by unfold xof; omega) h25 (by rw [show xof ((L.getD 0 0 - 1) / 20) 1 = L.getD 0 0 - 1 + 2 by unfold xof; omega]; exact hBk) (by rw [show 2 * k + 2 = 2 + 2 * k by omega]; unfold xof; omega) (by rw [show 2 * k + 3 = 2 + 2 * k + 1 by omega]; exact h68) (by rw [show xof ((L.getD 0 0 - 1) / 20) 5 = L.getD 0 0 - 1 + 6 by unfold xof; omega, show 2 * k + 4 = 2 + 2 * k + 2 by omega]; exact hBk2) (by omega), by rw [show 2 + 2 * k = 2 * k + 2 by omega], rfl⟩)
                · refine lv_bipush (v := (-9)) hx hb dX5_middle_71 (by decide) ?_
                  exact x_iret hC hr hk hP hD hS dX5_middle_73 (Or.inr ⟨by rintro ⟨q, f1, g1, hq, e⟩; have el := congrArg List.length e; rw [xlay_len] at el; have e0 : L.getD 0 0 = 20 * q + 1 := (congrArg (fun l => List.getD l 0 0) e).trans (xlay_at (by omega)); have ek := pl_k e (show BT L (xof q 1) 2 k from (by unfold xof; rw [show 20 * q + 1 + 1 = L.getD 0 0 - 1 + 2 by omega]; exact hBk)); subst ek; have eb1 : L.getD (2 + 2 * k + 1) 0 = 0 := (congrArg (fun l => List.getD l (2 + 2 * k + 1) 0) e).trans ((xlay_at (by omega)).trans (by unfold xlf; rw [if_pos (by omega)])); omega, rfl, rfl⟩)
              · refine lv_aload_n hx hb dX5_middle_58 rfl (lv_at hl 3 rfl) ?_
                refine va_get (D := Z.1) (ci := 5) (v := .ref vr) (C := RX5) (T := TX5) (N := 2) hx hb hts iX5 hown hK hP 0 rfl rfl 0 (Nat.le_of_ble_eq_true rfl) qq_292 (fun _ h9 => h9) rfl dX5_middle_59 ?_
                refine lv_iload_n hx hb dX5_middle_62 rfl (lv_at hl 0 rfl) ?_
                refine ln_const 1 hx hb dX5_middle_63 (by decide) ?_
                refine ln_iadd ((2 + 2 * k) + 1) hx hb dX5_middle_64 (by first | rfl | omega) ?_
                refine x_Vi (y := yX2_get) (As := [.int (nI ((2 + 2 * k) + 1))]) (wc := [(vr, .inr (2, [.ref ar, .int (nI hd), .int (nI sz)])), (ar, xI Z 600 g)]) (wr := [(hw, .inr (5, [.ref vr, .ref vk]))]) hC hP hD hS (c_X2_get_out l Z vr ar 600 hd sz g L (by omega) hR hsz (nI ((2 + 2 * k) + 1)) (by rw [nI_toInt (by omega)]; omega)) (gV wq_524 wq_542 wq_522 wq_523 wq_43) rfl kv_X2_get rfl rfl ⟨rfl, rfl⟩ rfl hl.1 rfl ⟨Nat.le_of_ble_eq_true rfl, Nat.le_of_ble_eq_true rfl⟩ [1, 2] [0] rfl rfl (by decide) (by decide) (by decide) rfl dX5_middle_65 (fun r65 w1 H locs hw hP hD hS => ?_)
                obtain ⟨rfl, rfl⟩ := hw
                have hP : va_P Z.1 vwCl [(hw, .inr (5, [.ref vr, .ref vk])), (vr, .inr (2, [.ref ar, .int (nI hd), .int (nI sz)])), (ar, xI Z 600 g)] H := hP
                have hD : va_D A [(hw, .inr (5, [.ref vr, .ref vk])), (vr, .inr (2, [.ref ar, .int (nI hd), .int (nI sz)])), (ar, xI Z 600 g)] := hD
                refine lv_if_eq (tgt := 74) hx hb dX5_middle_68 (by decide) (fun h68 => False.elim (by revert h68; decide)) (fun h68 => ?_)
                refine lv_bipush (v := (-9)) hx hb dX5_middle_71 (by decide) ?_
                exact x_iret hC hr hk hP hD hS dX5_middle_73 (Or.inr ⟨by rintro ⟨q, f1, g1, hq, e⟩; have el := congrArg List.length e; rw [xlay_len] at el; have e0 : L.getD 0 0 = 20 * q + 1 := (congrArg (fun l => List.getD l 0 0) e).trans (xlay_at (by omega)); have ek := pl_k e (show BT L (xof q 1) 2 k from (by unfold xof; rw [show 20 * q + 1 + 1 = L.getD 0 0 - 1 + 2 by omega]; exact hBk)); subst ek; omega, rfl, rfl⟩)
          · refine lv_aload_n hx hb dX5_middle_44 rfl (lv_at hl 3 rfl) ?_
            refine va_get (D := Z.1) (ci := 5) (v := .ref vr) (C := RX5) (T := TX5) (N := 2) hx hb hts iX5 hown hK hP 0 rfl rfl 0 (Nat.le_of_ble_eq_true rfl) qq_292 (fun _ h9 => h9) rfl dX5_middle_45 ?_
            refine lv_iload_n hx hb dX5_middle_48 rfl (lv_at hl 0 rfl) ?_
            refine x_Vi (y := yX2_get) (As := [.int (nI (2 + 2 * k))]) (wc := [(vr, .inr (2, [.ref ar, .int (nI hd), .int (nI sz)])), (ar, xI Z 600 g)]) (wr := [(hw, .inr (5, [.ref vr, .ref vk]))]) hC hP hD hS (c_X2_get_out l Z vr ar 600 hd sz g L (by omega) hR hsz (nI (2 + 2 * k)) (by rw [nI_toInt (by omega)]; omega)) (gV wq_524 wq_542 wq_522 wq_523 wq_43) rfl kv_X2_get rfl rfl ⟨rfl, rfl⟩ rfl hl.1 rfl ⟨Nat.le_of_ble_eq_true rfl, Nat.le_of_ble_eq_true rfl⟩ [1, 2] [0] rfl rfl (by decide) (by decide) (by decide) rfl dX5_middle_49 (fun r49 w1 H locs hw hP hD hS => ?_)
            obtain ⟨rfl, rfl⟩ := hw
            have hP : va_P Z.1 vwCl [(hw, .inr (5, [.ref vr, .ref vk])), (vr, .inr (2, [.ref ar, .int (nI hd), .int (nI sz)])), (ar, xI Z 600 g)] H := hP
            have hD : va_D A [(hw, .inr (5, [.ref vr, .ref vk])), (vr, .inr (2, [.ref ar, .int (nI hd), .int (nI sz)])), (ar, xI Z 600 g)] := hD
            refine lv_iload_n hx hb dX5_middle_52 rfl (lv_at hl 1 rfl) ?_
            refine ln_const 5 hx hb dX5_middle_53 (by decide) ?_
            refine ln_iadd (((L.getD 0 0) - 1) + 5) hx hb dX5_middle_54 (by first | rfl | omega) ?_
            refine lv_icmp_ne (tgt := 71) hx hb dX5_middle_55 (by decide) (fun h55 => ?_) (fun h55 => False.elim (xne9 (by omega) h55))
            refine lv_bipush (v := (-9)) hx hb dX5_middle_71 (by decide) ?_
            exact x_iret hC hr hk hP hD hS dX5_middle_73 (Or.inr ⟨by rintro ⟨q, f1, g1, hq, e⟩; have el := congrArg List.length e; rw [xlay_len] at el; have e0 : L.getD 0 0 = 20 * q + 1 := (congrArg (fun l => List.getD l 0 0) e).trans (xlay_at (by omega)); have ek := pl_k e (show BT L (xof q 1) 2 k from (by unfold xof; rw [show 20 * q + 1 + 1 = L.getD 0 0 - 1 + 2 by omega]; exact hBk)); subst ek; have eb1 : L.getD (2 + 2 * k + 1) 0 = 0 := (congrArg (fun l => List.getD l (2 + 2 * k + 1) 0) e).trans ((xlay_at (by omega)).trans (by unfold xlf; rw [if_pos (by omega)])); omega, rfl, rfl⟩)
        · refine lv_bipush (v := (-9)) hx hb dX5_middle_28 (by decide) ?_
          exact x_iret hC hr hk hP hD hS dX5_middle_30 (Or.inr ⟨by rintro ⟨q, f1, g1, hq, e⟩; have el := congrArg List.length e; rw [xlay_len] at el; have e0 : L.getD 0 0 = 20 * q + 1 := (congrArg (fun l => List.getD l 0 0) e).trans (xlay_at (by omega)); have e1 : L.getD 1 0 = 0 := (congrArg (fun l => List.getD l 1 0) e).trans (xlay_at (by omega)); omega, rfl, rfl⟩)
      · refine lv_aload_n hx hb dX5_middle_17 rfl (lv_at hl 1 rfl) ?_
        refine va_get (D := Z.1) (ci := 5) (v := .ref vr) (C := RX5) (T := TX5) (N := 2) hx hb hts iX5 hown hK hP 0 rfl rfl 0 (Nat.le_of_ble_eq_true rfl) qq_292 (fun _ h9 => h9) rfl dX5_middle_18 ?_
        refine ln_const 1 hx hb dX5_middle_21 (by decide) ?_
        refine x_Vi (y := yX2_get) (As := [.int (nI 1)]) (wc := [(vr, .inr (2, [.ref ar, .int (nI hd), .int (nI sz)])), (ar, xI Z 600 g)]) (wr := [(hw, .inr (5, [.ref vr, .ref vk]))]) hC hP hD hS (c_X2_get_out l Z vr ar 600 hd sz g L (by omega) hR hsz (nI 1) (by rw [nI_toInt (by omega)]; omega)) (gV wq_524 wq_542 wq_522 wq_523 wq_43) rfl kv_X2_get rfl rfl ⟨rfl, rfl⟩ rfl hl.1 rfl ⟨Nat.le_of_ble_eq_true rfl, Nat.le_of_ble_eq_true rfl⟩ [1, 2] [0] rfl rfl (by decide) (by decide) (by decide) rfl dX5_middle_22 (fun r22 w1 H locs hw hP hD hS => ?_)
        obtain ⟨rfl, rfl⟩ := hw
        have hP : va_P Z.1 vwCl [(hw, .inr (5, [.ref vr, .ref vk])), (vr, .inr (2, [.ref ar, .int (nI hd), .int (nI sz)])), (ar, xI Z 600 g)] H := hP
        have hD : va_D A [(hw, .inr (5, [.ref vr, .ref vk])), (vr, .inr (2, [.ref ar, .int (nI hd), .int (nI sz)])), (ar, xI Z 600 g)] := hD
        refine lv_if_eq (tgt := 31) hx hb dX5_middle_25 (by decide) (fun h25 => False.elim (by revert h25; decide)) (fun h25 => ?_)
        refine lv_bipush (v := (-9)) hx hb dX5_middle_28 (by decide) ?_
        exact x_iret hC hr hk hP hD hS dX5_middle_30 (Or.inr ⟨by rintro ⟨q, f1, g1, hq, e⟩; have el := congrArg List.length e; rw [xlay_len] at el; omega, rfl, rfl⟩)
end
section
theorem kv_X2_become : yX2_become.cls = RX2 ∧ yX2_become.cls ≠ "java/lang/invoke/MethodHandle" ∧ yX2_become.cls ≠ "java/lang/invoke/VarHandle" ∧ (parseMethodDescriptor yX2_become.desc).map (fun d => d.parameters.length) = some 1 := by decide +kernel
theorem kv_X5_middle : yX5_middle.cls = RX5 ∧ yX5_middle.cls ≠ "java/lang/invoke/MethodHandle" ∧ yX5_middle.cls ≠ "java/lang/invoke/VarHandle" ∧ (parseMethodDescriptor yX5_middle.desc).map (fun d => d.parameters.length) = some 0 := by decide +kernel
set_option maxHeartbeats 4000000 in
set_option maxRecDepth 100000 in
theorem c_X5_stepsToPlace (l : Launch) (Z : xZ) (hw vr vk ar hd sz : Nat) (g : Nat → Nat) (L : List Nat) (hR : RR 600 hd g L) (hsz : sz = L.length) (hp s0 s1 : Nat) (sz1 lt1 : Nat → Nat) (R : xRl) (hV : RV R) (hT : TR (xprod R) sz1 lt1) (hW : WV L) (ak hd3 sz3 : Nat) (g3 : Nat → Nat) : xMi l Z yX5_stepsToPlace vX5_stepsToPlace ({ frames := 4, cells := 0, slots := 0, locals := 91 } : Room) [.ref hw, .ref hp] [(hw, .inr (5, [.ref vr, .ref vk])), (vr, .inr (2, [.ref ar, .int (nI hd), .int (nI sz)])), (ar, xI Z 600 g), (vk, .inr (2, [.ref ak, .int (nI hd3), .int (nI sz3)])), (ak, xI Z 600 g3), (hp, .inr (4, [.ref s0, .ref s1])), (s0, xI Z 121 sz1), (s1, xI Z 484 lt1)] (fun r w => (∃ k L2 hd2 g2, xnext R 20000 L = some (k, L2) ∧ RR 600 hd2 g2 L2 ∧ WV L2 ∧ r = nI k ∧ ∃ hd5 g5, w = [(hw, .inr (5, [.ref vr, .ref vk])), (vr, .inr (2, [.ref ar, .int (nI hd2), .int (nI L2.length)])), (ar, xI Z 600 g2), (vk, .inr (2, [.ref ak, .int (nI hd5), .int (nI sz)])), (ak, xI Z 600 g5), (hp, .inr (4, [.ref s0, .ref s1])), (s0, xI Z 121 sz1), (s1, xI Z 484 lt1)]) ∨ (∃ hd2 g2, xnext R 20000 L = none ∧ RR 600 hd2 g2 L ∧ r = -2 ∧ ∃ hd5 g5, w = [(hw, .inr (5, [.ref vr, .ref vk])), (vr, .inr (2, [.ref ar, .int (nI hd2), .int (nI sz)])), (ar, xI Z 600 g2), (vk, .inr (2, [.ref ak, .int (nI hd5), .int (nI sz)])), (ak, xI Z 600 g5), (hp, .inr (4, [.ref s0, .ref s1])), (s0, xI Z 121 sz1), (s1, xI Z 484 lt1)])) := by
  refine x_i (by decide) rfl (Nat.le_of_ble_eq_true rfl) ?_
  intro p e s m args below meth c ls A hC hr hk hl hP hD hS
  have hx := hC.1.1
  have hb := hC.1.2.1
  have hml := hC.1.2.2.1
  have hown : s.vm.findClass RX5 = some m.cls := hC.1.2.2.2.1
  have hts := hC.1.2.2.2.2
  have hK := hC.2.1
  have qq_294 := hts (Cond.fieldLink RX5 20 "TagTower$Word" "kept" "LTagTower$LetterRow;") (List.mem_cons_of_mem _ wq_294)
  have iX5 : ∀ w ∈ wsX50, w ∈ vX5_stepsToPlace := fun w h => List.mem_cons_of_mem _ (wi_X5 w h)
  have qq_292 := hts (Cond.fieldLink RX5 14 "TagTower$Word" "row" "LTagTower$LetterRow;") (List.mem_cons_of_mem _ wq_292)
  have hl : lv_has ls 3 [(0, .ref hw), (1, .ref hp)] := hl
  have hP : va_P Z.1 vwCl [(hw, .inr (5, [.ref vr, .ref vk])), (vr, .inr (2, [.ref ar, .int (nI hd), .int (nI sz)])), (ar, xI Z 600 g), (vk, .inr (2, [.ref ak, .int (nI hd3), .int (nI sz3)])), (ak, xI Z 600 g3), (hp, .inr (4, [.ref s0, .ref s1])), (s0, xI Z 121 sz1), (s1, xI Z 484 lt1)] s.heap := hP
  have hD : va_D A [(hw, .inr (5, [.ref vr, .ref vk])), (vr, .inr (2, [.ref ar, .int (nI hd), .int (nI sz)])), (ar, xI Z 600 g), (vk, .inr (2, [.ref ak, .int (nI hd3), .int (nI sz3)])), (ak, xI Z 600 g3), (hp, .inr (4, [.ref s0, .ref s1])), (s0, xI Z 121 sz1), (s1, xI Z 484 lt1)] := hD
  have hR1 := hR.1
  have hR2 := hR.2.1
  refine lv_aload_n hx hb dX5_stepsToPlace_0 rfl (lv_at hl 0 rfl) ?_
  refine va_get (D := Z.1) (ci := 5) (v := .ref vk) (C := RX5) (T := TX5) (N := 2) hx hb hts iX5 hown hK hP 0 rfl rfl 1 (Nat.le_of_ble_eq_true rfl) qq_294 (fun _ h9 => h9) rfl dX5_stepsToPlace_1 ?_
  refine lv_aload_n hx hb dX5_stepsToPlace_4 rfl (lv_at hl 0 rfl) ?_
  refine va_get (D := Z.1) (ci := 5) (v := .ref vr) (C := RX5) (T := TX5) (N := 2) hx hb hts iX5 hown hK hP 0 rfl rfl 0 (Nat.le_of_ble_eq_true rfl) qq_292 (fun _ h9 => h9) rfl dX5_stepsToPlace_5 ?_
  refine x_Vv (y := yX2_become) (As := [.ref vr]) (wc := [(vk, .inr (2, [.ref ak, .int (nI hd3), .int (nI sz3)])), (ak, xI Z 600 g3), (vr, .inr (2, [.ref ar, .int (nI hd), .int (nI sz)])), (ar, xI Z 600 g)]) (wr := [(hw, .inr (5, [.ref vr, .ref vk])), (hp, .inr (4, [.ref s0, .ref s1])), (s0, xI Z 121 sz1), (s1, xI Z 484 lt1)]) hC hP hD hS (c_X2_become l Z vk ak 600 hd3 sz3 g3 (by decide) vr ar 600 hd sz g L (by decide) hR hsz (by omega) (by decide)) (gV wq_565 wq_562 wq_563 wq_564 wq_43) rfl kv_X2_become rfl rfl ⟨rfl, rfl⟩ rfl hl.1 rfl ⟨Nat.le_of_ble_eq_true rfl, Nat.le_of_ble_eq_true rfl⟩ [3, 4, 1, 2] [0, 5, 6, 7] rfl rfl (by decide) (by decide) (by decide) rfl dX5_stepsToPlace_8 (fun w1 H locs hw hP hD hS => ?_)
  obtain ⟨hd4, g4, hR4, rfl⟩ := hw
  have hP := hP.sub (ws' := [(hw, .inr (5, [.ref vr, .ref vk])), (vr, .inr (2, [.ref ar, .int (nI hd), .int (nI sz)])), (ar, xI Z 600 g), (vk, .inr (2, [.ref ak, .int (nI hd4), .int (nI sz)])), (ak, xI Z 600 g4), (hp, .inr (4, [.ref s0, .ref s1])), (s0, xI Z 121 sz1), (s1, xI Z 484 lt1)]) [0, 6, 7, 4, 5, 1, 2, 3] rfl
  have hD := hD.sub (ws' := [(hw, .inr (5, [.ref vr, .ref vk])), (vr, .inr (2, [.ref ar, .int (nI hd), .int (nI sz)])), (ar, xI Z 600 g), (vk, .inr (2, [.ref ak, .int (nI hd4), .int (nI sz)])), (ak, xI Z 600 g4), (hp, .inr (4, [.ref s0, .ref s1])), (s0, xI Z 121 sz1), (s1, xI Z 484 lt1)]) [0, 6, 7, 4, 5, 1, 2, 3] (by decide) rfl
  refine ln_const 0 hx hb dX5_stepsToPlace_11 (by decide) ?_
  refine lv_istore_n (lv' := [(2, .int (nI 0)), (0, .ref hw), (1, .ref hp)]) hx hb dX5_stepsToPlace_12 rfl hl (by decide) rfl (fun ls hl => ?_)
  have hloop13 : ∀ (nn : Nat) (k hd1 sz2 : Nat) (g1 : Nat → Nat) (L1 : List Nat) (H : Heap) (locs : List Loc) (ls : Array Slot) (hX : XN R 20000 L k L1) (hR1 : RR 600 hd1 g1 L1) (hs1 : sz2 = L1.length) (hW1 : WV L1) (hmu : 20000 - k < nn) (hP : va_P Z.1 vwCl [(hw, .inr (5, [.ref vr, .ref vk])), (vr, .inr (2, [.ref ar, .int (nI hd1), .int (nI sz2)])), (ar, xI Z 600 g1), (vk, .inr (2, [.ref ak, .int (nI hd4), .int (nI sz)])), (ak, xI Z 600 g4), (hp, .inr (4, [.ref s0, .ref s1])), (s0, xI Z 121 sz1), (s1, xI Z 484 lt1)] H) (hD : va_D A [(hw, .inr (5, [.ref vr, .ref vk])), (vr, .inr (2, [.ref ar, .int (nI hd1), .int (nI sz2)])), (ar, xI Z 600 g1), (vk, .inr (2, [.ref ak, .int (nI hd4), .int (nI sz)])), (ak, xI Z 600 g4), (hp, .inr (4, [.ref s0, .ref s1])), (s0, xI Z 121 sz1), (s1, xI Z 484 lt1)]) (hS : va_S A s.heap H locs) (hl : lv_has ls 3 [(0, .ref hw), (1, .ref hp), (2, .int (nI k))]), W p l e ({ frames := 4, cells := 0, slots := 0, locals := 91 } : Room) s m args below meth c H locs 0 0 (MQ below (va_Qi (fun r w => (∃ k L2 hd2 g2, xnext R 20000 L = some (k, L2) ∧ RR 600 hd2 g2 L2 ∧ WV L2 ∧ r = nI k ∧ ∃ hd5 g5, w = [(hw, .inr (5, [.ref vr, .ref vk])), (vr, .inr (2, [.ref ar, .int (nI hd2), .int (nI L2.length)])), (ar, xI Z 600 g2), (vk, .inr (2, [.ref ak, .int (nI hd5), .int (nI sz)])), (ak, xI Z 600 g5), (hp, .inr (4, [.ref s0, .ref s1])), (s0, xI Z 121 sz1), (s1, xI Z 484 lt1)]) ∨ (∃ hd2 g2, xnext R 20000 L = none ∧ RR 600 hd2 g2 L ∧ r = -2 ∧ ∃ hd5 g5, w = [(hw, .inr (5, [.ref vr, .ref vk])), (vr, .inr (2, [.ref ar, .int (nI hd2), .int (nI sz)])), (ar, xI Z 600 g2), (vk, .inr (2, [.ref ak, .int (nI hd5), .int (nI sz)])), (ak, xI Z 600 g5), (hp, .inr (4, [.ref s0, .ref s1])), (s0, xI Z 121 sz1), (s1, xI Z 484 lt1)])) (xB Z A) A) args s ({ frames := 4, cells := 0, slots := 0, locals := 91 } : Room).cells ({ frames := 4, cells := 0, slots := 0, locals := 91 } : Room).slots A) (F0 m 13 ls []) := by
    intro nn
    induction nn with
    | zero => intro k hd1 sz2 g1 L1 H locs ls hX hR1 hs1 hW1 hmu; exact absurd hmu (Nat.not_lt_zero _)
    | succ nn ih =>
      intro k hd1 sz2 g1 L1 H locs ls hX hR1 hs1 hW1 hmu hP hD hS hl
      have hk1 := hX.1
      have hR11 := hR1.1
      have hR12 := hR1.2.1
      refine lv_iload_n hx hb dX5_stepsToPlace_13 rfl (lv_at hl 2 rfl) ?_
      refine ln_sipush 20000 hx hb dX5_stepsToPlace_14 (by decide) ?_
      refine ln_icmp_ge (tgt := 42) hx hb dX5_stepsToPlace_17 (by decide) (by omega) (by omega) (fun h17 => ?_) (fun h17 => ?_)
      · refine lv_aload_n hx hb dX5_stepsToPlace_42 rfl (lv_at hl 0 rfl) ?_
        refine va_get (D := Z.1) (ci := 5) (v := .ref vr) (C := RX5) (T := TX5) (N := 2) hx hb hts iX5 hown hK hP 0 rfl rfl 0 (Nat.le_of_ble_eq_true rfl) qq_292 (fun _ h9 => h9) rfl dX5_stepsToPlace_43 ?_
        refine lv_aload_n hx hb dX5_stepsToPlace_46 rfl (lv_at hl 0 rfl) ?_
        refine va_get (D := Z.1) (ci := 5) (v := .ref vk) (C := RX5) (T := TX5) (N := 2) hx hb hts iX5 hown hK hP 0 rfl rfl 1 (Nat.le_of_ble_eq_true rfl) qq_294 (fun _ h9 => h9) rfl dX5_stepsToPlace_47 ?_
        refine x_Vv (y := yX2_become) (As := [.ref vk]) (wc := [(vr, .inr (2, [.ref ar, .int (nI hd1), .int (nI sz2)])), (ar, xI Z 600 g1), (vk, .inr (2, [.ref ak, .int (nI hd4), .int (nI sz)])), (ak, xI Z 600 g4)]) (wr := [(hw, .inr (5, [.ref vr, .ref vk])), (hp, .inr (4, [.ref s0, .ref s1])), (s0, xI Z 121 sz1), (s1, xI Z 484 lt1)]) hC hP hD hS (c_X2_become l Z vr ar 600 hd1 sz2 g1 (by decide) vk ak 600 hd4 sz g4 L (by decide) hR4 hsz (by omega) (by decide)) (gV wq_565 wq_562 wq_563 wq_564 wq_43) rfl kv_X2_become rfl rfl ⟨rfl, rfl⟩ rfl hl.1 rfl ⟨Nat.le_of_ble_eq_true rfl, Nat.le_of_ble_eq_true rfl⟩ [1, 2, 3, 4] [0, 5, 6, 7] rfl rfl (by decide) (by decide) (by decide) rfl dX5_stepsToPlace_50 (fun w1 H locs hw hP hD hS => ?_)
        obtain ⟨hd5, g5, hR5, rfl⟩ := hw
        have hP := hP.sub (ws' := [(hw, .inr (5, [.ref vr, .ref vk])), (vr, .inr (2, [.ref ar, .int (nI hd5), .int (nI sz)])), (ar, xI Z 600 g5), (vk, .inr (2, [.ref ak, .int (nI hd4), .int (nI sz)])), (ak, xI Z 600 g4), (hp, .inr (4, [.ref s0, .ref s1])), (s0, xI Z 121 sz1), (s1, xI Z 484 lt1)]) [0, 4, 5, 6, 7, 1, 2, 3] rfl
        have hD := hD.sub (ws' := [(hw, .inr (5, [.ref vr, .ref vk])), (vr, .inr (2, [.ref ar, .int (nI hd5), .int (nI sz)])), (ar, xI Z 600 g5), (vk, .inr (2, [.ref ak, .int (nI hd4), .int (nI sz)])), (ak, xI Z 600 g4), (hp, .inr (4, [.ref s0, .ref s1])), (s0, xI Z 121 sz1), (s1, xI Z 484 lt1)]) [0, 4, 5, 6, 7, 1, 2, 3] (by decide) rfl
        refine lv_bipush (v := (-2)) hx hb dX5_stepsToPlace_53 (by decide) ?_
        exact x_iret hC hr hk hP hD hS dX5_stepsToPlace_55 (Or.inr ⟨hd5, g5, hX.full (by omega), hR5, rfl, hd4, g4, rfl⟩)
      · refine lv_aload_n hx hb dX5_stepsToPlace_20 rfl (lv_at hl 0 rfl) ?_
        refine lv_aload_n hx hb dX5_stepsToPlace_21 rfl (lv_at hl 1 rfl) ?_
        refine x_Vi (y := yX5_doStep) (As := [.ref hp]) (wc := [(hw, .inr (5, [.ref vr, .ref vk])), (vr, .inr (2, [.ref ar, .int (nI hd1), .int (nI sz2)])), (ar, xI Z 600 g1), (hp, .inr (4, [.ref s0, .ref s1])), (s0, xI Z 121 sz1), (s1, xI Z 484 lt1)]) (wr := [(vk, .inr (2, [.ref ak, .int (nI hd4), .int (nI sz)])), (ak, xI Z 600 g4)]) hC hP hD hS (c_X5_doStep l Z hw vr vk ar hd1 sz2 g1 L1 hR1 hs1 hp s0 s1 sz1 lt1 R hV hT hW1) (gV wq_541 wq_538 wq_540 wq_8 wq_42) rfl kv_X5_doStep rfl rfl ⟨rfl, rfl⟩ rfl hl.1 rfl ⟨Nat.le_of_ble_eq_true rfl, Nat.le_of_ble_eq_true rfl⟩ [0, 1, 2, 5, 6, 7] [3, 4] rfl rfl (by decide) (by decide) (by decide) rfl dX5_stepsToPlace_22 (fun r22 w1 H locs hw hP hD hS => ?_)
        rcases hw with ⟨hst, rfl, rfl⟩ | ⟨L2, hd2, g2, hst, hR2, rfl, rfl⟩
        · have hP := hP.sub (ws' := [(hw, .inr (5, [.ref vr, .ref vk])), (vr, .inr (2, [.ref ar, .int (nI hd1), .int (nI sz2)])), (ar, xI Z 600 g1), (vk, .inr (2, [.ref ak, .int (nI hd4), .int (nI sz)])), (ak, xI Z 600 g4), (hp, .inr (4, [.ref s0, .ref s1])), (s0, xI Z 121 sz1), (s1, xI Z 484 lt1)]) [2, 3, 4, 0, 1, 5, 6, 7] rfl
          have hD := hD.sub (ws' := [(hw, .inr (5, [.ref vr, .ref vk])), (vr, .inr (2, [.ref ar, .int (nI hd1), .int (nI sz2)])), (ar, xI Z 600 g1), (vk, .inr (2, [.ref ak, .int (nI hd4), .int (nI sz)])), (ak, xI Z 600 g4), (hp, .inr (4, [.ref s0, .ref s1])), (s0, xI Z 121 sz1), (s1, xI Z 484 lt1)]) [2, 3, 4, 0, 1, 5, 6, 7] (by decide) rfl
          refine ln_if_eq (tgt := 42) hx hb dX5_stepsToPlace_25 (by decide) (by omega) (fun h25 => ?_) (fun h25 => False.elim (by omega))
          refine lv_aload_n hx hb dX5_stepsToPlace_42 rfl (lv_at hl 0 rfl) ?_
          refine va_get (D := Z.1) (ci := 5) (v := .ref vr) (C := RX5) (T := TX5) (N := 2) hx hb hts iX5 hown hK hP 0 rfl rfl 0 (Nat.le_of_ble_eq_true rfl) qq_292 (fun _ h9 => h9) rfl dX5_stepsToPlace_43 ?_
          refine lv_aload_n hx hb dX5_stepsToPlace_46 rfl (lv_at hl 0 rfl) ?_
          refine va_get (D := Z.1) (ci := 5) (v := .ref vk) (C := RX5) (T := TX5) (N := 2) hx hb hts iX5 hown hK hP 0 rfl rfl 1 (Nat.le_of_ble_eq_true rfl) qq_294 (fun _ h9 => h9) rfl dX5_stepsToPlace_47 ?_
          refine x_Vv (y := yX2_become) (As := [.ref vk]) (wc := [(vr, .inr (2, [.ref ar, .int (nI hd1), .int (nI sz2)])), (ar, xI Z 600 g1), (vk, .inr (2, [.ref ak, .int (nI hd4), .int (nI sz)])), (ak, xI Z 600 g4)]) (wr := [(hw, .inr (5, [.ref vr, .ref vk])), (hp, .inr (4, [.ref s0, .ref s1])), (s0, xI Z 121 sz1), (s1, xI Z 484 lt1)]) hC hP hD hS (c_X2_become l Z vr ar 600 hd1 sz2 g1 (by decide) vk ak 600 hd4 sz g4 L (by decide) hR4 hsz (by omega) (by decide)) (gV wq_565 wq_562 wq_563 wq_564 wq_43) rfl kv_X2_become rfl rfl ⟨rfl, rfl⟩ rfl hl.1 rfl ⟨Nat.le_of_ble_eq_true rfl, Nat.le_of_ble_eq_true rfl⟩ [1, 2, 3, 4] [0, 5, 6, 7] rfl rfl (by decide) (by decide) (by decide) rfl dX5_stepsToPlace_50 (fun w1 H locs hw hP hD hS => ?_)
          obtain ⟨hd5, g5, hR5, rfl⟩ := hw
          have hP := hP.sub (ws' := [(hw, .inr (5, [.ref vr, .ref vk])), (vr, .inr (2, [.ref ar, .int (nI hd5), .int (nI sz)])), (ar, xI Z 600 g5), (vk, .inr (2, [.ref ak, .int (nI hd4), .int (nI sz)])), (ak, xI Z 600 g4), (hp, .inr (4, [.ref s0, .ref s1])), (s0, xI Z 121 sz1), (s1, xI Z 484 lt1)]) [0, 4, 5, 6, 7, 1, 2, 3] rfl
          have hD := hD.sub (ws' := [(hw, .inr (5, [.ref vr, .ref vk])), (vr, .inr (2, [.ref ar, .int (nI hd5), .int (nI sz)])), (ar, xI Z 600 g5), (vk, .inr (2, [.ref ak, .int (nI hd4), .int (nI sz)])), (ak, xI Z 600 g4), (hp, .inr (4, [.ref s0, .ref s1])), (s0, xI Z 121 sz1), (s1, xI Z 484 lt1)]) [0, 4, 5, 6, 7, 1, 2, 3] (by decide) rfl
          refine lv_bipush (v := (-2)) hx hb dX5_stepsToPlace_53 (by decide) ?_
          exact x_iret hC hr hk hP hD hS dX5_stepsToPlace_55 (Or.inr ⟨hd5, g5, hX.stop hst, hR5, rfl, hd4, g4, rfl⟩)
        · have hP := hP.sub (ws' := [(hw, .inr (5, [.ref vr, .ref vk])), (vr, .inr (2, [.ref ar, .int (nI hd2), .int (nI L2.length)])), (ar, xI Z 600 g2), (vk, .inr (2, [.ref ak, .int (nI hd4), .int (nI sz)])), (ak, xI Z 600 g4), (hp, .inr (4, [.ref s0, .ref s1])), (s0, xI Z 121 sz1), (s1, xI Z 484 lt1)]) [2, 3, 4, 0, 1, 5, 6, 7] rfl
          have hD := hD.sub (ws' := [(hw, .inr (5, [.ref vr, .ref vk])), (vr, .inr (2, [.ref ar, .int (nI hd2), .int (nI L2.length)])), (ar, xI Z 600 g2), (vk, .inr (2, [.ref ak, .int (nI hd4), .int (nI sz)])), (ak, xI Z 600 g4), (hp, .inr (4, [.ref s0, .ref s1])), (s0, xI Z 121 sz1), (s1, xI Z 484 lt1)]) [2, 3, 4, 0, 1, 5, 6, 7] (by decide) rfl
          have hW2 := tstep_ok hV hW1 hst
          refine ln_if_eq (tgt := 42) hx hb dX5_stepsToPlace_25 (by decide) (by omega) (fun h25 => False.elim (by omega)) (fun h25 => ?_)
          refine ln_iinc (k0 := 2) (k := 1) (k + 1) (lv' := [(2, .int (nI (k + 1))), (0, .ref hw), (1, .ref hp)]) hx hb dX5_stepsToPlace_28 hl rfl rfl (by first | rfl | omega) (by decide) rfl (fun ls hl => ?_)
          refine lv_aload_n hx hb dX5_stepsToPlace_31 rfl (lv_at hl 1 rfl) ?_
          refine x_Vi (y := yX5_middle) (As := []) (wc := [(hw, .inr (5, [.ref vr, .ref vk])), (vr, .inr (2, [.ref ar, .int (nI hd2), .int (nI L2.length)])), (ar, xI Z 600 g2)]) (wr := [(vk, .inr (2, [.ref ak, .int (nI hd4), .int (nI sz)])), (ak, xI Z 600 g4), (hp, .inr (4, [.ref s0, .ref s1])), (s0, xI Z 121 sz1), (s1, xI Z 484 lt1)]) hC hP hD hS (c_X5_middle l Z hw vr vk ar hd2 L2.length g2 L2 hR2 rfl hW2) (gV wq_572 wq_569 wq_571 wq_9 wq_42) rfl kv_X5_middle rfl rfl ⟨rfl, rfl⟩ rfl hl.1 rfl ⟨Nat.le_of_ble_eq_true rfl, Nat.le_of_ble_eq_true rfl⟩ [0, 1, 2] [3, 4, 5, 6, 7] rfl rfl (by decide) (by decide) (by decide) rfl dX5_stepsToPlace_32 (fun r32 w1 H locs hw hP hD hS => ?_)
          rcases hw with ⟨q, f1, g6, hq, he, rfl, rfl⟩ | ⟨hnp, rfl, rfl⟩
          · have hP := hP.sub (ws' := [(hw, .inr (5, [.ref vr, .ref vk])), (vr, .inr (2, [.ref ar, .int (nI hd2), .int (nI L2.length)])), (ar, xI Z 600 g2), (vk, .inr (2, [.ref ak, .int (nI hd4), .int (nI sz)])), (ak, xI Z 600 g4), (hp, .inr (4, [.ref s0, .ref s1])), (s0, xI Z 121 sz1), (s1, xI Z 484 lt1)]) [5, 6, 7, 0, 1, 2, 3, 4] rfl
            have hD := hD.sub (ws' := [(hw, .inr (5, [.ref vr, .ref vk])), (vr, .inr (2, [.ref ar, .int (nI hd2), .int (nI L2.length)])), (ar, xI Z 600 g2), (vk, .inr (2, [.ref ak, .int (nI hd4), .int (nI sz)])), (ak, xI Z 600 g4), (hp, .inr (4, [.ref s0, .ref s1])), (s0, xI Z 121 sz1), (s1, xI Z 484 lt1)]) [5, 6, 7, 0, 1, 2, 3, 4] (by decide) rfl
            have hel := hW2.1
            rw [he, xlay_len] at hel
            refine lv_bipush (v := (-9)) hx hb dX5_stepsToPlace_35 (by decide) ?_
            refine lv_icmp_eq (tgt := 13) hx hb dX5_stepsToPlace_37 (by decide) (fun h37 => False.elim (xne9 (by omega) h37.symm)) (fun h37 => ?_)
            refine lv_iload_n hx hb dX5_stepsToPlace_40 rfl (lv_at hl 0 rfl) ?_
            exact x_iret hC hr hk hP hD hS dX5_stepsToPlace_41 (Or.inl ⟨k + 1, L2, hd2, g2, hX.hit (by omega) hst ⟨q, f1, g6, hq, he⟩, hR2, hW2, rfl, hd4, g4, rfl⟩)
          · have hP := hP.sub (ws' := [(hw, .inr (5, [.ref vr, .ref vk])), (vr, .inr (2, [.ref ar, .int (nI hd2), .int (nI L2.length)])), (ar, xI Z 600 g2), (vk, .inr (2, [.ref ak, .int (nI hd4), .int (nI sz)])), (ak, xI Z 600 g4), (hp, .inr (4, [.ref s0, .ref s1])), (s0, xI Z 121 sz1), (s1, xI Z 484 lt1)]) [5, 6, 7, 0, 1, 2, 3, 4] rfl
            have hD := hD.sub (ws' := [(hw, .inr (5, [.ref vr, .ref vk])), (vr, .inr (2, [.ref ar, .int (nI hd2), .int (nI L2.length)])), (ar, xI Z 600 g2), (vk, .inr (2, [.ref ak, .int (nI hd4), .int (nI sz)])), (ak, xI Z 600 g4), (hp, .inr (4, [.ref s0, .ref s1])), (s0, xI Z 121 sz1), (s1, xI Z 484 lt1)]) [5, 6, 7, 0, 1, 2, 3, 4] (by decide) rfl
            refine lv_bipush (v := (-9)) hx hb dX5_stepsToPlace_35 (by decide) ?_
            refine lv_icmp_eq (tgt := 13) hx hb dX5_stepsToPlace_37 (by decide) (fun h37 => ?_) (fun h37 => False.elim (h37 rfl))
            exact ih  (k + 1) hd2 L2.length g2 L2 _ _ _ (hX.go (by omega) hst hnp) hR2 rfl hW2 (by omega) hP hD hS (lv_sub hl [1, 2, 0] rfl)
  exact hloop13 ((20000 - 0) + 1) 0 hd sz g L _ _ _ (XN.beg _ _ _) hR hsz hW (Nat.lt_succ_self _) hP hD hS (lv_sub hl [1, 2, 0] rfl)

def tv (q f g o : Nat) : Nat := if o = 0 then q / 2 else if o = 1 then q % 2 else if o = 2 then f else g

set_option maxHeartbeats 4000000 in
set_option maxRecDepth 100000 in
theorem c_X5_tellPlace (l : Launch) (Z : xZ) (hw vr vk ar hd sz : Nat) (g : Nat → Nat) (L : List Nat) (hR : RR 600 hd g L) (hsz : sz = L.length) (hW : WV L) (o : Nat) (ho : o ≤ 3) : xMi l Z yX5_tellPlace vX5_tellPlace ({ frames := 4, cells := 0, slots := 0, locals := 89 } : Room) [.ref hw, .int (nI o)] [(hw, .inr (5, [.ref vr, .ref vk])), (vr, .inr (2, [.ref ar, .int (nI hd), .int (nI sz)])), (ar, xI Z 600 g)] (fun r w => (∃ q f1 g1, q < 6 ∧ L = xlay q f1 g1 ∧ r = nI (tv q f1 g1 o) ∧ w = [(hw, .inr (5, [.ref vr, .ref vk])), (vr, .inr (2, [.ref ar, .int (nI hd), .int (nI sz)])), (ar, xI Z 600 g)]) ∨ (¬ isPl L ∧ r = -9 ∧ w = [(hw, .inr (5, [.ref vr, .ref vk])), (vr, .inr (2, [.ref ar, .int (nI hd), .int (nI sz)])), (ar, xI Z 600 g)])) := by
  refine x_i (by decide) rfl (Nat.le_of_ble_eq_true rfl) ?_
  intro p e s m args below meth c ls A hC hr hk hl hP hD hS
  have hx := hC.1.1
  have hb := hC.1.2.1
  have hml := hC.1.2.2.1
  have hown : s.vm.findClass RX5 = some m.cls := hC.1.2.2.2.1
  have hts := hC.1.2.2.2.2
  have hK := hC.2.1
  have qq_292 := hts (Cond.fieldLink RX5 14 "TagTower$Word" "row" "LTagTower$LetterRow;") (List.mem_cons_of_mem _ wq_292)
  have iX5 : ∀ w ∈ wsX50, w ∈ vX5_tellPlace := fun w h => List.mem_cons_of_mem _ (wi_X5 w h)
  have qf_30 := va_Nw.use (A := args) rfl (hC.2.2.2.1.2 (RX5, 30, RX2, "size", "I", RX6) (List.mem_of_getElem? (i := 5) rfl))
  have iX2 : ∀ w ∈ wsX20, w ∈ vX5_tellPlace := fun w h => List.mem_cons_of_mem _ (wi_X2 w h)
  have hl : lv_has ls 4 [(0, .ref hw), (1, .int (nI o))] := hl
  have hP : va_P Z.1 vwCl [(hw, .inr (5, [.ref vr, .ref vk])), (vr, .inr (2, [.ref ar, .int (nI hd), .int (nI sz)])), (ar, xI Z 600 g)] s.heap := hP
  have hD : va_D A [(hw, .inr (5, [.ref vr, .ref vk])), (vr, .inr (2, [.ref ar, .int (nI hd), .int (nI sz)])), (ar, xI Z 600 g)] := hD
  have hR1 := hR.1
  have hR2 := hR.2.1
  refine lv_aload_n hx hb dX5_tellPlace_0 rfl (lv_at hl 0 rfl) ?_
  refine x_Vi (y := yX5_middle) (As := []) (wc := [(hw, .inr (5, [.ref vr, .ref vk])), (vr, .inr (2, [.ref ar, .int (nI hd), .int (nI sz)])), (ar, xI Z 600 g)]) (wr := []) hC hP hD hS (c_X5_middle l Z hw vr vk ar hd sz g L hR hsz hW) (gV wq_572 wq_569 wq_571 wq_9 wq_42) rfl kv_X5_middle rfl rfl ⟨rfl, rfl⟩ rfl hl.1 rfl ⟨Nat.le_of_ble_eq_true rfl, Nat.le_of_ble_eq_true rfl⟩ [0, 1, 2] ([] : List Nat) rfl rfl (by decide) (by decide) (by decide) rfl dX5_tellPlace_1 (fun r1 w1 H locs hw hP hD hS => ?_)
  rcases hw with ⟨q, f1, g6, hq, he, rfl, rfl⟩ | ⟨hnp, rfl, rfl⟩
  · have hP : va_P Z.1 vwCl [(hw, .inr (5, [.ref vr, .ref vk])), (vr, .inr (2, [.ref ar, .int (nI hd), .int (nI sz)])), (ar, xI Z 600 g)] H := hP
    have hD : va_D A [(hw, .inr (5, [.ref vr, .ref vk])), (vr, .inr (2, [.ref ar, .int (nI hd), .int (nI sz)])), (ar, xI Z 600 g)] := hD
    have hel := congrArg List.length he
    rw [xlay_len] at hel
    have hL6 := hW.1
    have e0 : L.getD 0 0 = 20 * q + 1 := (congrArg (fun l => List.getD l 0 0) he).trans (xlay_at (by omega))
    refine lv_istore_n (lv' := [(2, .int (nI (2 * f1 + 2))), (0, .ref hw), (1, .int (nI o))]) hx hb dX5_tellPlace_4 rfl hl (by decide) rfl (fun ls hl => ?_)
    refine lv_iload_n hx hb dX5_tellPlace_5 rfl (lv_at hl 0 rfl) ?_
    refine lv_bipush (v := (-9)) hx hb dX5_tellPlace_6 (by decide) ?_
    refine lv_icmp_ne (tgt := 14) hx hb dX5_tellPlace_8 (by decide) (fun h8 => ?_) (fun h8 => False.elim (xne9 (by omega) h8.symm))
    refine lv_aload_n hx hb dX5_tellPlace_14 rfl (lv_at hl 1 rfl) ?_
    refine va_get (D := Z.1) (ci := 5) (v := .ref vr) (C := RX5) (T := TX5) (N := 2) hx hb hts iX5 hown hK hP 0 rfl rfl 0 (Nat.le_of_ble_eq_true rfl) qq_292 (fun _ h9 => h9) rfl dX5_tellPlace_15 ?_
    refine ln_const 0 hx hb dX5_tellPlace_18 (by decide) ?_
    refine x_Vi (y := yX2_get) (As := [.int (nI 0)]) (wc := [(vr, .inr (2, [.ref ar, .int (nI hd), .int (nI sz)])), (ar, xI Z 600 g)]) (wr := [(hw, .inr (5, [.ref vr, .ref vk]))]) hC hP hD hS (c_X2_get_in l Z vr ar 600 hd sz g L (by omega) hR hsz 0 (by omega)) (gV wq_524 wq_542 wq_522 wq_523 wq_43) rfl kv_X2_get rfl rfl ⟨rfl, rfl⟩ rfl hl.1 rfl ⟨Nat.le_of_ble_eq_true rfl, Nat.le_of_ble_eq_true rfl⟩ [1, 2] [0] rfl rfl (by decide) (by decide) (by decide) rfl dX5_tellPlace_19 (fun r19 w1 H locs hw hP hD hS => ?_)
    obtain ⟨rfl, rfl⟩ := hw
    have hP : va_P Z.1 vwCl [(hw, .inr (5, [.ref vr, .ref vk])), (vr, .inr (2, [.ref ar, .int (nI hd), .int (nI sz)])), (ar, xI Z 600 g)] H := hP
    have hD : va_D A [(hw, .inr (5, [.ref vr, .ref vk])), (vr, .inr (2, [.ref ar, .int (nI hd), .int (nI sz)])), (ar, xI Z 600 g)] := hD
    refine ln_bipush 20 hx hb dX5_tellPlace_22 (by decide) ?_
    refine ln_idiv ((L.getD 0 0) / 20) hx hb dX5_tellPlace_24 (by omega) (by omega) (by omega) (by first | rfl | omega) ?_
    refine lv_istore_n (lv' := [(3, .int (nI ((L.getD 0 0) / 20))), (2, .int (nI (2 * f1 + 2))), (0, .ref hw), (1, .int (nI o))]) hx hb dX5_tellPlace_25 rfl hl (by decide) rfl (fun ls hl => ?_)
    refine lv_iload_n hx hb dX5_tellPlace_26 rfl (lv_at hl 3 rfl) ?_
    rcases (show o = 0 ∨ o = 1 ∨ o = 2 ∨ o = 3 by omega) with rfl | rfl | rfl | rfl
    · refine lv_tableIn (off := 25) (tgt := 52) hx hb dX5_tellPlace_27 (by decide) (by decide) (by decide) (by decide) ?_
      refine lv_iload_n hx hb dX5_tellPlace_52 rfl (lv_at hl 0 rfl) ?_
      refine ln_const 2 hx hb dX5_tellPlace_53 (by decide) ?_
      refine ln_idiv (((L.getD 0 0) / 20) / 2) hx hb dX5_tellPlace_54 (by omega) (by omega) (by omega) (by first | rfl | omega) ?_
      exact x_iret hC hr hk hP hD hS dX5_tellPlace_55 (Or.inl ⟨q, f1, g6, hq, he, by rw [show tv q f1 g6 0 = q / 2 from rfl, show L.getD 0 0 / 20 / 2 = q / 2 by omega], rfl⟩)
    · refine lv_tableIn (off := 29) (tgt := 56) hx hb dX5_tellPlace_27 (by decide) (by decide) (by decide) (by decide) ?_
      refine lv_iload_n hx hb dX5_tellPlace_56 rfl (lv_at hl 0 rfl) ?_
      refine ln_const 2 hx hb dX5_tellPlace_57 (by decide) ?_
      refine ln_irem (((L.getD 0 0) / 20) % 2) hx hb dX5_tellPlace_58 (by omega) (by omega) (by omega) (by first | rfl | omega) ?_
      exact x_iret hC hr hk hP hD hS dX5_tellPlace_59 (Or.inl ⟨q, f1, g6, hq, he, by rw [show tv q f1 g6 1 = q % 2 from rfl, show L.getD 0 0 / 20 % 2 = q % 2 by omega], rfl⟩)
    · refine lv_tableIn (off := 33) (tgt := 60) hx hb dX5_tellPlace_27 (by decide) (by decide) (by decide) (by decide) ?_
      refine lv_iload_n hx hb dX5_tellPlace_60 rfl (lv_at hl 1 rfl) ?_
      refine ln_const 2 hx hb dX5_tellPlace_61 (by decide) ?_
      refine ln_isub ((2 * f1 + 2) - 2) hx hb dX5_tellPlace_62 (by omega) (by first | rfl | omega) ?_
      refine ln_const 2 hx hb dX5_tellPlace_63 (by decide) ?_
      refine ln_idiv (((2 * f1 + 2) - 2) / 2) hx hb dX5_tellPlace_64 (by omega) (by omega) (by omega) (by first | rfl | omega) ?_
      exact x_iret hC hr hk hP hD hS dX5_tellPlace_65 (Or.inl ⟨q, f1, g6, hq, he, by rw [show tv q f1 g6 2 = f1 from rfl, show (2 * f1 + 2 - 2) / 2 = f1 by omega], rfl⟩)
    · refine lv_tableOut (tgt := 66) hx hb dX5_tellPlace_27 (by decide) (by decide) ?_
      refine lv_aload_n hx hb dX5_tellPlace_66 rfl (lv_at hl 2 rfl) ?_
      refine va_get (D := Z.1) (ci := 5) (v := .ref vr) (C := RX5) (T := TX5) (N := 2) hx hb hts iX5 hown hK hP 0 rfl rfl 0 (Nat.le_of_ble_eq_true rfl) qq_292 (fun _ h9 => h9) rfl dX5_tellPlace_67 ?_
      refine va_getN (D := Z.1) (ci := 2) (v := .int (nI sz)) (C := RX2) (T := TX2) (N := 3) hx hb hts iX2 hown hK hP 1 rfl rfl 2 (Nat.le_of_ble_eq_true rfl) qf_30 (fun _ h9 => h9) rfl dX5_tellPlace_70 ?_
      refine lv_iload_n hx hb dX5_tellPlace_73 rfl (lv_at hl 1 rfl) ?_
      refine ln_isub (sz - (2 * f1 + 2)) hx hb dX5_tellPlace_74 (by omega) (by first | rfl | omega) ?_
      refine ln_const 2 hx hb dX5_tellPlace_75 (by decide) ?_
      refine ln_isub ((sz - (2 * f1 + 2)) - 2) hx hb dX5_tellPlace_76 (by omega) (by first | rfl | omega) ?_
      refine ln_const 2 hx hb dX5_tellPlace_77 (by decide) ?_
      refine ln_idiv (((sz - (2 * f1 + 2)) - 2) / 2) hx hb dX5_tellPlace_78 (by omega) (by omega) (by omega) (by first | rfl | omega) ?_
      exact x_iret hC hr hk hP hD hS dX5_tellPlace_79 (Or.inl ⟨q, f1, g6, hq, he, by rw [show tv q f1 g6 3 = g6 from rfl, show (sz - (2 * f1 + 2) - 2) / 2 = g6 by omega], rfl⟩)
  · have hP : va_P Z.1 vwCl [(hw, .inr (5, [.ref vr, .ref vk])), (vr, .inr (2, [.ref ar, .int (nI hd), .int (nI sz)])), (ar, xI Z 600 g)] H := hP
    have hD : va_D A [(hw, .inr (5, [.ref vr, .ref vk])), (vr, .inr (2, [.ref ar, .int (nI hd), .int (nI sz)])), (ar, xI Z 600 g)] := hD
    refine lv_istore_n (lv' := [(2, .int ((-9))), (0, .ref hw), (1, .int (nI o))]) hx hb dX5_tellPlace_4 rfl hl (by decide) rfl (fun ls hl => ?_)
    refine lv_iload_n hx hb dX5_tellPlace_5 rfl (lv_at hl 0 rfl) ?_
    refine lv_bipush (v := (-9)) hx hb dX5_tellPlace_6 (by decide) ?_
    refine lv_icmp_ne (tgt := 14) hx hb dX5_tellPlace_8 (by decide) (fun h8 => False.elim (h8 rfl)) (fun h8 => ?_)
    refine lv_bipush (v := (-9)) hx hb dX5_tellPlace_11 (by decide) ?_
    exact x_iret hC hr hk hP hD hS dX5_tellPlace_13 (Or.inr ⟨hnp, rfl, rfl⟩)
end
section
def bones (s : List Nat × Nat) : Nat := if 0 < s.1.length ∧ s.1.getD 0 0 < s.2 % 121 then s.1.length - 1 else s.1.length
theorem nI_min {a b : Nat} (ha : a < 2147483648) (hb : b < 2147483648) : (if nI b < nI a then nI b else nI a) = nI (min a b) := by
  by_cases h : b < a
  · rw [if_pos ((nI_ltI hb ha).mpr h), Nat.min_eq_right (by omega)]
  · rw [if_neg (fun q => h ((nI_ltI hb ha).mp q)), Nat.min_eq_left (by omega)]
/-- what k zeros do at once -/
def bpk (k : Nat) (s : List Nat × Nat) : List Nat × Nat := (if (s.2 + k) % 121 = 0 then s.1.drop 1 else s.1, if 242 ≤ s.2 + k then 0 else s.2 + k)
theorem bpk_1 {L : List Nat} {t : Nat} (ht : t < 242) : bpk 1 (L, t) = bpass (L, t) := by
  unfold bpk bpass
  dsimp only
  by_cases h : t + 1 = 242
  · rw [if_pos (show 242 ≤ t + 1 by omega), if_pos h]
  · rw [if_neg (show ¬ 242 ≤ t + 1 by omega), if_neg h]
theorem bstep_0 {R : xRl} {L : List Nat} {t : Nat} (hs : ¬ bstill R (L, t)) (h0 : L.getD 0 0 ≠ t % 121) : bstep R (L, t) = some (bpass (L, t)) := by
  unfold bstep
  dsimp only
  rw [if_neg (show ¬ (t = 0 ∧ (L.length < 2 ∨ (xprod R (L.getD 0 0)).length = 0)) from hs), if_neg h0]
theorem xit_some {σ : Type} {f : σ → Option σ} {n : Nat} {s s' : σ} (h : f s = some s') : xit f (n + 1) s = xit f n s' := by simp only [xit, h]
theorem bzeros (R : xRl) (L : List Nat) : ∀ k t, t < 242 → ¬ bstill R (L, t) → (∀ j, j < k + 1 → t % 121 + j ≠ L.getD 0 0) → t % 121 + (k + 1) ≤ 121 → xit (bstep R) (k + 1) (L, t) = some (bpk (k + 1) (L, t))
  | 0, t, ht, hs, hz, hk => by
    have := hz 0 (by omega)
    simp only [xit, bstep_0 hs (show L.getD 0 0 ≠ t % 121 by omega)]
    rw [bpk_1 ht]
  | k + 1, t, ht, hs, hz, hk => by
    have h0 := hz 0 (by omega)
    have e : bpass (L, t) = (L, t + 1) := by
      unfold bpass
      dsimp only
      rw [if_neg (by omega), if_neg (by omega)]
    have ih := bzeros R L k (t + 1) (by omega) (fun q => absurd q.1 (by dsimp only; omega)) (fun j hj => by have := hz (j + 1) (by omega); omega) (by omega)
    rw [xit_some (show bstep R (L, t) = some (L, t + 1) by rw [bstep_0 hs (show L.getD 0 0 ≠ t % 121 by omega), e]), ih]
    unfold bpk
    dsimp only
    rw [show t + 1 + (k + 1) = t + (k + 1 + 1) by omega]
theorem BV.one {R : xRl} {L : List Nat} {t : Nat} (h : BV (L, t)) (hs : ¬ bstill R (L, t)) : 1 ≤ L.length ∧ (t < 121 → 2 ≤ L.length) := by
  obtain ⟨h1, h2, h3, h4, h5⟩ := h
  dsimp only at h1 h2 h3 h4 h5
  by_cases ht : t = 0
  · have : ¬ (L.length < 2 ∨ (xprod R (L.getD 0 0)).length = 0) := fun q => hs ⟨ht, q⟩
    omega
  · exact ⟨h4 ht, h5 ht⟩

set_option maxHeartbeats 4000000 in
set_option maxRecDepth 100000 in
theorem c_X0_gone (l : Launch) (Z : xZ) (vb vq t : Nat) (ht : t < 1000) : xMi l Z yX0_gone vX0_gone ({ frames := 0, cells := 0, slots := 0, locals := 0 } : Room) [.ref vb] [(vb, .inr (0, [.ref vq, .int (nI t)]))] (fun r w => r = nI (t % 121) ∧ w = [(vb, .inr (0, [.ref vq, .int (nI t)]))]) := by
  refine x_i (by decide) rfl (Nat.le_of_ble_eq_true rfl) ?_
  intro p e s m args below meth c ls A hC hr hk hl hP hD hS
  have hx := hC.1.1
  have hb := hC.1.2.1
  have hml := hC.1.2.2.1
  have hown : s.vm.findClass RX0 = some m.cls := hC.1.2.2.2.1
  have hts := hC.1.2.2.2.2
  have hK := hC.2.1
  have qq_310 := hts (Cond.fieldLink RX0 29 "TagTower$Bits" "turn" "I") (List.mem_cons_of_mem _ wq_310)
  have iX0 : ∀ w ∈ wsX00, w ∈ vX0_gone := fun w h => List.mem_cons_of_mem _ (wi_X0 w h)
  have hl : lv_has ls 1 [(0, .ref vb)] := hl
  have hP : va_P Z.1 vwCl [(vb, .inr (0, [.ref vq, .int (nI t)]))] s.heap := hP
  have hD : va_D A [(vb, .inr (0, [.ref vq, .int (nI t)]))] := hD
  refine lv_aload_n hx hb dX0_gone_0 rfl (lv_at hl 0 rfl) ?_
  refine va_get (D := Z.1) (ci := 0) (v := .int (nI t)) (C := RX0) (T := TX0) (N := 2) hx hb hts iX0 hown hK hP 0 rfl rfl 1 (Nat.le_of_ble_eq_true rfl) qq_310 (fun _ h9 => h9) rfl dX0_gone_1 ?_
  refine ln_bipush 121 hx hb dX0_gone_4 (by decide) ?_
  refine ln_irem (t % 121) hx hb dX0_gone_6 (by omega) (by omega) (by omega) (by first | rfl | omega) ?_
  exact x_iret hC hr hk hP hD hS dX0_gone_7 ⟨rfl, rfl⟩

theorem kv_X0_gone : yX0_gone.cls = RX0 ∧ yX0_gone.cls ≠ "java/lang/invoke/MethodHandle" ∧ yX0_gone.cls ≠ "java/lang/invoke/VarHandle" ∧ (parseMethodDescriptor yX0_gone.desc).map (fun d => d.parameters.length) = some 0 := by decide +kernel
set_option maxHeartbeats 4000000 in
set_option maxRecDepth 100000 in
theorem c_X0_size (l : Launch) (Z : xZ) (vb vq aq hd sz t : Nat) (g : Nat → Nat) (L : List Nat) (hR : RR 662 hd g L) (hsz : sz = L.length) (hB : BV (L, t)) : xMi l Z yX0_size vX0_size ({ frames := 1, cells := 0, slots := 0, locals := 20 } : Room) [.ref vb] [(vb, .inr (0, [.ref vq, .int (nI t)])), (vq, .inr (2, [.ref aq, .int (nI hd), .int (nI sz)])), (aq, xI Z 662 g)] (fun r w => r = nI (bmany (L, t)) ∧ w = [(vb, .inr (0, [.ref vq, .int (nI t)])), (vq, .inr (2, [.ref aq, .int (nI hd), .int (nI sz)])), (aq, xI Z 662 g)]) := by
  refine x_i (by decide) rfl (Nat.le_of_ble_eq_true rfl) ?_
  intro p e s m args below meth c ls A hC hr hk hl hP hD hS
  have hx := hC.1.1
  have hb := hC.1.2.1
  have hml := hC.1.2.2.1
  have hown : s.vm.findClass RX0 = some m.cls := hC.1.2.2.2.1
  have hts := hC.1.2.2.2.2
  have hK := hC.2.1
  have qq_308 := hts (Cond.fieldLink RX0 14 "TagTower$Bits" "row" "LTagTower$LetterRow;") (List.mem_cons_of_mem _ wq_308)
  have iX0 : ∀ w ∈ wsX00, w ∈ vX0_size := fun w h => List.mem_cons_of_mem _ (wi_X0 w h)
  have qf_20 := va_Nw.use (A := args) rfl (hC.2.2.2.1.2 (RX0, 20, RX2, "size", "I", RX6) (List.mem_of_getElem? (i := 4) rfl))
  have iX2 : ∀ w ∈ wsX20, w ∈ vX0_size := fun w h => List.mem_cons_of_mem _ (wi_X2 w h)
  have hl : lv_has ls 1 [(0, .ref vb)] := hl
  have hP : va_P Z.1 vwCl [(vb, .inr (0, [.ref vq, .int (nI t)])), (vq, .inr (2, [.ref aq, .int (nI hd), .int (nI sz)])), (aq, xI Z 662 g)] s.heap := hP
  have hD : va_D A [(vb, .inr (0, [.ref vq, .int (nI t)])), (vq, .inr (2, [.ref aq, .int (nI hd), .int (nI sz)])), (aq, xI Z 662 g)] := hD
  have hR1 := hR.1
  have hR2 := hR.2.1
  obtain ⟨b1, b2, b3, b4, b5⟩ := id hB
  unfold bmany at b3
  dsimp only at b1 b2 b3 b4 b5
  refine lv_aload_n hx hb dX0_size_0 rfl (lv_at hl 0 rfl) ?_
  refine va_get (D := Z.1) (ci := 0) (v := .ref vq) (C := RX0) (T := TX0) (N := 2) hx hb hts iX0 hown hK hP 0 rfl rfl 0 (Nat.le_of_ble_eq_true rfl) qq_308 (fun _ h9 => h9) rfl dX0_size_1 ?_
  refine va_getN (D := Z.1) (ci := 2) (v := .int (nI sz)) (C := RX2) (T := TX2) (N := 3) hx hb hts iX2 hown hK hP 1 rfl rfl 2 (Nat.le_of_ble_eq_true rfl) qf_20 (fun _ h9 => h9) rfl dX0_size_4 ?_
  refine ln_bipush 121 hx hb dX0_size_7 (by decide) ?_
  refine ln_imul (sz * 121) hx hb dX0_size_9 (by first | rfl | omega) ?_
  refine lv_aload_n hx hb dX0_size_10 rfl (lv_at hl 0 rfl) ?_
  refine x_Vi (y := yX0_gone) (As := []) (wc := [(vb, .inr (0, [.ref vq, .int (nI t)]))]) (wr := [(vq, .inr (2, [.ref aq, .int (nI hd), .int (nI sz)])), (aq, xI Z 662 g)]) hC hP hD hS (c_X0_gone l Z vb vq t (by omega)) (gV wq_626 wq_623 wq_625 wq_12 wq_44) rfl kv_X0_gone rfl rfl ⟨rfl, rfl⟩ rfl hl.1 rfl ⟨Nat.le_of_ble_eq_true rfl, Nat.le_of_ble_eq_true rfl⟩ [0] [1, 2] rfl rfl (by decide) (by decide) (by decide) rfl dX0_size_11 (fun r11 w1 H locs hw hP hD hS => ?_)
  obtain ⟨rfl, rfl⟩ := hw
  have hP := hP.sub (ws' := [(vb, .inr (0, [.ref vq, .int (nI t)])), (vq, .inr (2, [.ref aq, .int (nI hd), .int (nI sz)])), (aq, xI Z 662 g)]) [2, 0, 1] rfl
  have hD := hD.sub (ws' := [(vb, .inr (0, [.ref vq, .int (nI t)])), (vq, .inr (2, [.ref aq, .int (nI hd), .int (nI sz)])), (aq, xI Z 662 g)]) [2, 0, 1] (by decide) rfl
  refine ln_isub ((sz * 121) - (t % 121)) hx hb dX0_size_14 (by omega) (by first | rfl | omega) ?_
  exact x_iret hC hr hk hP hD hS dX0_size_15 ⟨by unfold bmany; dsimp only; rw [show 121 * L.length - t % 121 = sz * 121 - t % 121 by omega], rfl⟩

set_option maxHeartbeats 4000000 in
set_option maxRecDepth 100000 in
theorem c_X0_layWord (l : Launch) (Z : xZ) (vb vq aq hd sz t : Nat) (g : Nat → Nat) (vr ar hd3 sz3 : Nat) (g3 : Nat → Nat) (L : List Nat) (hR3 : RR 600 hd3 g3 L) (hsz3 : sz3 = L.length) : xMi l Z yX0_layWord vX0_layWord ({ frames := 3, cells := 0, slots := 0, locals := 65 } : Room) [.ref vb, .ref vr] [(vb, .inr (0, [.ref vq, .int (nI t)])), (vq, .inr (2, [.ref aq, .int (nI hd), .int (nI sz)])), (aq, xI Z 662 g), (vr, .inr (2, [.ref ar, .int (nI hd3), .int (nI sz3)])), (ar, xI Z 600 g3)] (fun r w => ∃ hd2 g2, RR 662 hd2 g2 L ∧ r = nI (L.length * 121) ∧ w = [(vb, .inr (0, [.ref vq, .int (nI 0)])), (vq, .inr (2, [.ref aq, .int (nI hd2), .int (nI L.length)])), (aq, xI Z 662 g2), (vr, .inr (2, [.ref ar, .int (nI hd3), .int (nI sz3)])), (ar, xI Z 600 g3)]) := by
  refine x_i (by decide) rfl (Nat.le_of_ble_eq_true rfl) ?_
  intro p e s m args below meth c ls A hC hr hk hl hP hD hS
  have hx := hC.1.1
  have hb := hC.1.2.1
  have hml := hC.1.2.2.1
  have hown : s.vm.findClass RX0 = some m.cls := hC.1.2.2.2.1
  have hts := hC.1.2.2.2.2
  have hK := hC.2.1
  have qf_20 := va_Nw.use (A := args) rfl (hC.2.2.2.1.2 (RX0, 20, RX2, "size", "I", RX6) (List.mem_of_getElem? (i := 4) rfl))
  have iX2 : ∀ w ∈ wsX20, w ∈ vX0_layWord := fun w h => List.mem_cons_of_mem _ (wi_X2 w h)
  have qq_603 := hts (Cond.constant RX0 24 (80000)) (List.mem_cons_of_mem _ wq_603)
  have qq_308 := hts (Cond.fieldLink RX0 14 "TagTower$Bits" "row" "LTagTower$LetterRow;") (List.mem_cons_of_mem _ wq_308)
  have iX0 : ∀ w ∈ wsX00, w ∈ vX0_layWord := fun w h => List.mem_cons_of_mem _ (wi_X0 w h)
  have qq_310 := hts (Cond.fieldLink RX0 29 "TagTower$Bits" "turn" "I") (List.mem_cons_of_mem _ wq_310)
  have hl : lv_has ls 3 [(0, .ref vb), (1, .ref vr)] := hl
  have hP : va_P Z.1 vwCl [(vb, .inr (0, [.ref vq, .int (nI t)])), (vq, .inr (2, [.ref aq, .int (nI hd), .int (nI sz)])), (aq, xI Z 662 g), (vr, .inr (2, [.ref ar, .int (nI hd3), .int (nI sz3)])), (ar, xI Z 600 g3)] s.heap := hP
  have hD : va_D A [(vb, .inr (0, [.ref vq, .int (nI t)])), (vq, .inr (2, [.ref aq, .int (nI hd), .int (nI sz)])), (aq, xI Z 662 g), (vr, .inr (2, [.ref ar, .int (nI hd3), .int (nI sz3)])), (ar, xI Z 600 g3)] := hD
  have hR31 := hR3.1
  have hR32 := hR3.2.1
  refine lv_aload_n hx hb dX0_layWord_0 rfl (lv_at hl 1 rfl) ?_
  refine va_getN (D := Z.1) (ci := 2) (v := .int (nI sz3)) (C := RX2) (T := TX2) (N := 3) hx hb hts iX2 hown hK hP 3 rfl rfl 2 (Nat.le_of_ble_eq_true rfl) qf_20 (fun _ h9 => h9) rfl dX0_layWord_1 ?_
  refine ln_bipush 121 hx hb dX0_layWord_4 (by decide) ?_
  refine ln_imul (sz3 * 121) hx hb dX0_layWord_6 (by first | rfl | omega) ?_
  refine lv_istore_n (lv' := [(2, .int (nI (sz3 * 121))), (0, .ref vb), (1, .ref vr)]) hx hb dX0_layWord_7 rfl hl (by decide) rfl (fun ls hl => ?_)
  refine lv_iload_n hx hb dX0_layWord_8 rfl (lv_at hl 0 rfl) ?_
  refine lv_ldc (v := nI 80000) hx hb hown qq_603 dX0_layWord_9 ?_
  refine ln_icmp_le (tgt := 17) hx hb dX0_layWord_11 (by decide) (by omega) (by omega) (fun h11 => ?_) (fun h11 => False.elim (by omega))
  refine lv_aload_n hx hb dX0_layWord_17 rfl (lv_at hl 1 rfl) ?_
  refine va_get (D := Z.1) (ci := 0) (v := .ref vq) (C := RX0) (T := TX0) (N := 2) hx hb hts iX0 hown hK hP 0 rfl rfl 0 (Nat.le_of_ble_eq_true rfl) qq_308 (fun _ h9 => h9) rfl dX0_layWord_18 ?_
  refine lv_aload_n hx hb dX0_layWord_21 rfl (lv_at hl 2 rfl) ?_
  refine x_Vv (y := yX2_become) (As := [.ref vr]) (wc := [(vq, .inr (2, [.ref aq, .int (nI hd), .int (nI sz)])), (aq, xI Z 662 g), (vr, .inr (2, [.ref ar, .int (nI hd3), .int (nI sz3)])), (ar, xI Z 600 g3)]) (wr := [(vb, .inr (0, [.ref vq, .int (nI t)]))]) hC hP hD hS (c_X2_become l Z vq aq 662 hd sz g (by decide) vr ar 600 hd3 sz3 g3 L (by decide) hR3 hsz3 (by omega) (by decide)) (gV wq_565 wq_604 wq_563 wq_564 wq_43) rfl kv_X2_become rfl rfl ⟨rfl, rfl⟩ rfl hl.1 rfl ⟨Nat.le_of_ble_eq_true rfl, Nat.le_of_ble_eq_true rfl⟩ [1, 2, 3, 4] [0] rfl rfl (by decide) (by decide) (by decide) rfl dX0_layWord_22 (fun w1 H locs hw hP hD hS => ?_)
  obtain ⟨hd2, g2, hR2, rfl⟩ := hw
  have hP : va_P Z.1 vwCl [(vb, .inr (0, [.ref vq, .int (nI t)])), (vq, .inr (2, [.ref aq, .int (nI hd2), .int (nI sz3)])), (aq, xI Z 662 g2), (vr, .inr (2, [.ref ar, .int (nI hd3), .int (nI sz3)])), (ar, xI Z 600 g3)] H := hP
  have hD : va_D A [(vb, .inr (0, [.ref vq, .int (nI t)])), (vq, .inr (2, [.ref aq, .int (nI hd2), .int (nI sz3)])), (aq, xI Z 662 g2), (vr, .inr (2, [.ref ar, .int (nI hd3), .int (nI sz3)])), (ar, xI Z 600 g3)] := hD
  refine lv_aload_n hx hb dX0_layWord_25 rfl (lv_at hl 1 rfl) ?_
  refine ln_const 0 hx hb dX0_layWord_26 (by decide) ?_
  refine va_put (D := Z.1) (ci := 0) (v := .int (nI 0)) (ty := tyX0 1) (C := RX0) (T := TX0) (N := 2) hx hb hts iX0 tyX0 tyX0_ok nmX0 hown hK hP hD hS 0 rfl rfl 1 (Nat.le_of_ble_eq_true rfl) qq_310 (fun _ h9 => h9) rfl (tyX0_ok 1 (Nat.le_of_ble_eq_true rfl)) rfl rfl (Nat.le_of_ble_eq_true rfl) dX0_layWord_27 (fun H locs hP hD hS => ?_)
  have hP : va_P Z.1 vwCl [(vb, .inr (0, [.ref vq, .int (nI 0)])), (vq, .inr (2, [.ref aq, .int (nI hd2), .int (nI sz3)])), (aq, xI Z 662 g2), (vr, .inr (2, [.ref ar, .int (nI hd3), .int (nI sz3)])), (ar, xI Z 600 g3)] H := hP
  have hD : va_D A [(vb, .inr (0, [.ref vq, .int (nI 0)])), (vq, .inr (2, [.ref aq, .int (nI hd2), .int (nI sz3)])), (aq, xI Z 662 g2), (vr, .inr (2, [.ref ar, .int (nI hd3), .int (nI sz3)])), (ar, xI Z 600 g3)] := hD
  refine lv_iload_n hx hb dX0_layWord_30 rfl (lv_at hl 0 rfl) ?_
  exact x_iret hC hr hk hP hD hS dX0_layWord_31 ⟨hd2, g2, hR2, by rw [hsz3], by rw [hsz3]⟩

theorem kv_X0_size : yX0_size.cls = RX0 ∧ yX0_size.cls ≠ "java/lang/invoke/MethodHandle" ∧ yX0_size.cls ≠ "java/lang/invoke/VarHandle" ∧ (parseMethodDescriptor yX0_size.desc).map (fun d => d.parameters.length) = some 0 := by decide +kernel
set_option maxHeartbeats 4000000 in
set_option maxRecDepth 100000 in
theorem c_X0_get_in (l : Launch) (Z : xZ) (vb vq aq hd sz t : Nat) (g : Nat → Nat) (L : List Nat) (hR : RR 662 hd g L) (hsz : sz = L.length) (hB : BV (L, t)) (q : Nat) (hq : q < bmany (L, t)) : xMi l Z yX0_get vX0_get ({ frames := 2, cells := 0, slots := 0, locals := 43 } : Room) [.ref vb, .int (nI q)] [(vb, .inr (0, [.ref vq, .int (nI t)])), (vq, .inr (2, [.ref aq, .int (nI hd), .int (nI sz)])), (aq, xI Z 662 g)] (fun r w => r = nI (bitf L (q + t % 121)) ∧ w = [(vb, .inr (0, [.ref vq, .int (nI t)])), (vq, .inr (2, [.ref aq, .int (nI hd), .int (nI sz)])), (aq, xI Z 662 g)]) := by
  refine x_i (by decide) rfl (Nat.le_of_ble_eq_true rfl) ?_
  intro p e s m args below meth c ls A hC hr hk hl hP hD hS
  have hx := hC.1.1
  have hb := hC.1.2.1
  have hml := hC.1.2.2.1
  have hown : s.vm.findClass RX0 = some m.cls := hC.1.2.2.2.1
  have hts := hC.1.2.2.2.2
  have hK := hC.2.1
  have qq_32 := hts (Cond.initialized RX6) (List.mem_cons_of_mem _ wq_32)
  have qq_338 := hts (Cond.static yX6_outside) (List.mem_cons_of_mem _ wq_338)
  have qn_38 := hC.2.2.2.1.1 (RX0, 38, yX6_outside, RX6) (List.mem_of_getElem? (i := 10) rfl)
  have qq_308 := hts (Cond.fieldLink RX0 14 "TagTower$Bits" "row" "LTagTower$LetterRow;") (List.mem_cons_of_mem _ wq_308)
  have iX0 : ∀ w ∈ wsX00, w ∈ vX0_get := fun w h => List.mem_cons_of_mem _ (wi_X0 w h)
  have qq_465 := hts (Cond.static yX6_oneIf) (List.mem_cons_of_mem _ wq_465)
  have qn_46 := hC.2.2.2.1.1 (RX0, 46, yX6_oneIf, RX6) (List.mem_of_getElem? (i := 11) rfl)
  have hl : lv_has ls 3 [(0, .ref vb), (1, .int (nI q))] := hl
  have hP : va_P Z.1 vwCl [(vb, .inr (0, [.ref vq, .int (nI t)])), (vq, .inr (2, [.ref aq, .int (nI hd), .int (nI sz)])), (aq, xI Z 662 g)] s.heap := hP
  have hD : va_D A [(vb, .inr (0, [.ref vq, .int (nI t)])), (vq, .inr (2, [.ref aq, .int (nI hd), .int (nI sz)])), (aq, xI Z 662 g)] := hD
  have hR1 := hR.1
  have hR2 := hR.2.1
  obtain ⟨b1, b2, b3, b4, b5⟩ := id hB
  unfold bmany at b3
  dsimp only at b1 b2 b3 b4 b5
  unfold bmany at hq
  dsimp only at hq
  refine lv_iload_n hx hb dX0_get_0 rfl (lv_at hl 1 rfl) ?_
  refine ln_const 0 hx hb dX0_get_1 (by decide) ?_
  refine lv_aload_n hx hb dX0_get_2 rfl (lv_at hl 0 rfl) ?_
  refine x_Vi (y := yX0_size) (As := []) (wc := [(vb, .inr (0, [.ref vq, .int (nI t)])), (vq, .inr (2, [.ref aq, .int (nI hd), .int (nI sz)])), (aq, xI Z 662 g)]) (wr := []) hC hP hD hS (c_X0_size l Z vb vq aq hd sz t g L hR hsz hB) (gV wq_634 wq_631 wq_632 wq_633 wq_44) rfl kv_X0_size rfl rfl ⟨rfl, rfl⟩ rfl hl.1 rfl ⟨Nat.le_of_ble_eq_true rfl, Nat.le_of_ble_eq_true rfl⟩ [0, 1, 2] ([] : List Nat) rfl rfl (by decide) (by decide) (by decide) rfl dX0_get_3 (fun r3 w1 H locs hw hP hD hS => ?_)
  obtain ⟨rfl, rfl⟩ := hw
  have hP : va_P Z.1 vwCl [(vb, .inr (0, [.ref vq, .int (nI t)])), (vq, .inr (2, [.ref aq, .int (nI hd), .int (nI sz)])), (aq, xI Z 662 g)] H := hP
  have hD : va_D A [(vb, .inr (0, [.ref vq, .int (nI t)])), (vq, .inr (2, [.ref aq, .int (nI hd), .int (nI sz)])), (aq, xI Z 662 g)] := hD
  have hbm : bmany (L, t) = 121 * L.length - t % 121 := rfl
  refine ln_const 1 hx hb dX0_get_6 (by decide) ?_
  refine ln_isub ((bmany (L, t)) - 1) hx hb dX0_get_7 (by omega) (by first | rfl | omega) ?_
  refine x_SNi (y := yX6_outside) (As := [.int (nI q), .int (nI 0), .int (nI ((bmany (L, t)) - 1))]) (wc := []) (wr := [(vb, .inr (0, [.ref vq, .int (nI t)])), (vq, .inr (2, [.ref aq, .int (nI hd), .int (nI sz)])), (aq, xI Z 662 g)]) hC hP hD hS (c_out_in l Z (nI q) (nI 0) (nI ((bmany (L, t)) - 1)) (o_in (by omega) (by omega) (by omega))) (gCo wq_339) qn_38 qq_32 qq_338 rfl ks_X6_outside ⟨rfl, rfl⟩ rfl hl.1 rfl ⟨Nat.le_of_ble_eq_true rfl, Nat.le_of_ble_eq_true rfl⟩ ([] : List Nat) [0, 1, 2] rfl rfl (by decide) (by decide) (by decide) rfl dX0_get_8 (fun r8 w1 H locs hw hP hD hS => ?_)
  obtain ⟨rfl, rfl⟩ := hw
  have hP : va_P Z.1 vwCl [(vb, .inr (0, [.ref vq, .int (nI t)])), (vq, .inr (2, [.ref aq, .int (nI hd), .int (nI sz)])), (aq, xI Z 662 g)] H := hP
  have hD : va_D A [(vb, .inr (0, [.ref vq, .int (nI t)])), (vq, .inr (2, [.ref aq, .int (nI hd), .int (nI sz)])), (aq, xI Z 662 g)] := hD
  refine ln_if_eq (tgt := 17) hx hb dX0_get_11 (by decide) (by omega) (fun h11 => ?_) (fun h11 => False.elim (by omega))
  refine lv_iload_n hx hb dX0_get_17 rfl (lv_at hl 1 rfl) ?_
  refine lv_aload_n hx hb dX0_get_18 rfl (lv_at hl 0 rfl) ?_
  refine x_Vi (y := yX0_gone) (As := []) (wc := [(vb, .inr (0, [.ref vq, .int (nI t)]))]) (wr := [(vq, .inr (2, [.ref aq, .int (nI hd), .int (nI sz)])), (aq, xI Z 662 g)]) hC hP hD hS (c_X0_gone l Z vb vq t (by omega)) (gV wq_626 wq_623 wq_625 wq_12 wq_44) rfl kv_X0_gone rfl rfl ⟨rfl, rfl⟩ rfl hl.1 rfl ⟨Nat.le_of_ble_eq_true rfl, Nat.le_of_ble_eq_true rfl⟩ [0] [1, 2] rfl rfl (by decide) (by decide) (by decide) rfl dX0_get_19 (fun r19 w1 H locs hw hP hD hS => ?_)
  obtain ⟨rfl, rfl⟩ := hw
  have hP := hP.sub (ws' := [(vb, .inr (0, [.ref vq, .int (nI t)])), (vq, .inr (2, [.ref aq, .int (nI hd), .int (nI sz)])), (aq, xI Z 662 g)]) [2, 0, 1] rfl
  have hD := hD.sub (ws' := [(vb, .inr (0, [.ref vq, .int (nI t)])), (vq, .inr (2, [.ref aq, .int (nI hd), .int (nI sz)])), (aq, xI Z 662 g)]) [2, 0, 1] (by decide) rfl
  refine ln_iadd (q + (t % 121)) hx hb dX0_get_22 (by first | rfl | omega) ?_
  refine lv_istore_n (lv' := [(2, .int (nI (q + (t % 121)))), (0, .ref vb), (1, .int (nI q))]) hx hb dX0_get_23 rfl hl (by decide) rfl (fun ls hl => ?_)
  refine lv_aload_n hx hb dX0_get_24 rfl (lv_at hl 1 rfl) ?_
  refine va_get (D := Z.1) (ci := 0) (v := .ref vq) (C := RX0) (T := TX0) (N := 2) hx hb hts iX0 hown hK hP 0 rfl rfl 0 (Nat.le_of_ble_eq_true rfl) qq_308 (fun _ h9 => h9) rfl dX0_get_25 ?_
  refine lv_iload_n hx hb dX0_get_28 rfl (lv_at hl 0 rfl) ?_
  refine ln_bipush 121 hx hb dX0_get_29 (by decide) ?_
  refine ln_idiv ((q + (t % 121)) / 121) hx hb dX0_get_31 (by omega) (by omega) (by omega) (by first | rfl | omega) ?_
  refine x_Vi (y := yX2_get) (As := [.int (nI ((q + (t % 121)) / 121))]) (wc := [(vq, .inr (2, [.ref aq, .int (nI hd), .int (nI sz)])), (aq, xI Z 662 g)]) (wr := [(vb, .inr (0, [.ref vq, .int (nI t)]))]) hC hP hD hS (c_X2_get_in l Z vq aq 662 hd sz g L (by omega) hR hsz ((q + (t % 121)) / 121) (by omega)) (gV wq_524 wq_621 wq_522 wq_523 wq_43) rfl kv_X2_get rfl rfl ⟨rfl, rfl⟩ rfl hl.1 rfl ⟨Nat.le_of_ble_eq_true rfl, Nat.le_of_ble_eq_true rfl⟩ [1, 2] [0] rfl rfl (by decide) (by decide) (by decide) rfl dX0_get_32 (fun r32 w1 H locs hw hP hD hS => ?_)
  obtain ⟨rfl, rfl⟩ := hw
  have hP : va_P Z.1 vwCl [(vb, .inr (0, [.ref vq, .int (nI t)])), (vq, .inr (2, [.ref aq, .int (nI hd), .int (nI sz)])), (aq, xI Z 662 g)] H := hP
  have hD : va_D A [(vb, .inr (0, [.ref vq, .int (nI t)])), (vq, .inr (2, [.ref aq, .int (nI hd), .int (nI sz)])), (aq, xI Z 662 g)] := hD
  have hz := b2 _ (getD_mem (w := L) (i := (q + t % 121) / 121) (by omega))
  refine lv_iload_n hx hb dX0_get_35 rfl (lv_at hl 0 rfl) ?_
  refine ln_bipush 121 hx hb dX0_get_36 (by decide) ?_
  refine ln_irem ((q + (t % 121)) % 121) hx hb dX0_get_38 (by omega) (by omega) (by omega) (by first | rfl | omega) ?_
  refine ln_icmp_ne (tgt := 46) hx hb dX0_get_39 (by decide) (by omega) (by omega) (fun h39 => ?_) (fun h39 => ?_)
  · refine ln_const 0 hx hb dX0_get_46 (by decide) ?_
    refine x_SNi (y := yX6_oneIf) (As := [.int (nI 0)]) (wc := []) (wr := [(vb, .inr (0, [.ref vq, .int (nI t)])), (vq, .inr (2, [.ref aq, .int (nI hd), .int (nI sz)])), (aq, xI Z 662 g)]) hC hP hD hS (c_X6_oneIf l Z 0 (by omega)) (gCo wq_466) qn_46 qq_32 qq_465 rfl ks_X6_oneIf ⟨rfl, rfl⟩ rfl hl.1 rfl ⟨Nat.le_of_ble_eq_true rfl, Nat.le_of_ble_eq_true rfl⟩ ([] : List Nat) [0, 1, 2] rfl rfl (by decide) (by decide) (by decide) rfl dX0_get_47 (fun r47 w1 H locs hw hP hD hS => ?_)
    obtain ⟨rfl, rfl⟩ := hw
    have hP : va_P Z.1 vwCl [(vb, .inr (0, [.ref vq, .int (nI t)])), (vq, .inr (2, [.ref aq, .int (nI hd), .int (nI sz)])), (aq, xI Z 662 g)] H := hP
    have hD : va_D A [(vb, .inr (0, [.ref vq, .int (nI t)])), (vq, .inr (2, [.ref aq, .int (nI hd), .int (nI sz)])), (aq, xI Z 662 g)] := hD
    exact x_iret hC hr hk hP hD hS dX0_get_50 ⟨by unfold bitf; rw [if_neg h39], rfl⟩
  · refine ln_const 1 hx hb dX0_get_42 (by decide) ?_
    refine lv_goto (tgt := 47) hx hb dX0_get_43 (by decide) ?_
    refine x_SNi (y := yX6_oneIf) (As := [.int (nI 1)]) (wc := []) (wr := [(vb, .inr (0, [.ref vq, .int (nI t)])), (vq, .inr (2, [.ref aq, .int (nI hd), .int (nI sz)])), (aq, xI Z 662 g)]) hC hP hD hS (c_X6_oneIf l Z 1 (by omega)) (gCo wq_466) qn_46 qq_32 qq_465 rfl ks_X6_oneIf ⟨rfl, rfl⟩ rfl hl.1 rfl ⟨Nat.le_of_ble_eq_true rfl, Nat.le_of_ble_eq_true rfl⟩ ([] : List Nat) [0, 1, 2] rfl rfl (by decide) (by decide) (by decide) rfl dX0_get_47 (fun r47 w1 H locs hw hP hD hS => ?_)
    obtain ⟨rfl, rfl⟩ := hw
    have hP : va_P Z.1 vwCl [(vb, .inr (0, [.ref vq, .int (nI t)])), (vq, .inr (2, [.ref aq, .int (nI hd), .int (nI sz)])), (aq, xI Z 662 g)] H := hP
    have hD : va_D A [(vb, .inr (0, [.ref vq, .int (nI t)])), (vq, .inr (2, [.ref aq, .int (nI hd), .int (nI sz)])), (aq, xI Z 662 g)] := hD
    exact x_iret hC hr hk hP hD hS dX0_get_50 ⟨by unfold bitf; rw [if_pos h39], rfl⟩

set_option maxHeartbeats 4000000 in
set_option maxRecDepth 100000 in
theorem c_X0_get_out (l : Launch) (Z : xZ) (vb vq aq hd sz t : Nat) (g : Nat → Nat) (L : List Nat) (hR : RR 662 hd g L) (hsz : sz = L.length) (hB : BV (L, t)) (q : Int32) (hq : ¬ (0 ≤ q.toInt ∧ q.toInt < (bmany (L, t) : Int))) : xMi l Z yX0_get vX0_get ({ frames := 2, cells := 0, slots := 0, locals := 40 } : Room) [.ref vb, .int q] [(vb, .inr (0, [.ref vq, .int (nI t)])), (vq, .inr (2, [.ref aq, .int (nI hd), .int (nI sz)])), (aq, xI Z 662 g)] (fun r w => r = -9 ∧ w = [(vb, .inr (0, [.ref vq, .int (nI t)])), (vq, .inr (2, [.ref aq, .int (nI hd), .int (nI sz)])), (aq, xI Z 662 g)]) := by
  refine x_i (by decide) rfl (Nat.le_of_ble_eq_true rfl) ?_
  intro p e s m args below meth c ls A hC hr hk hl hP hD hS
  have hx := hC.1.1
  have hb := hC.1.2.1
  have hml := hC.1.2.2.1
  have hown : s.vm.findClass RX0 = some m.cls := hC.1.2.2.2.1
  have hts := hC.1.2.2.2.2
  have hK := hC.2.1
  have qq_32 := hts (Cond.initialized RX6) (List.mem_cons_of_mem _ wq_32)
  have qq_338 := hts (Cond.static yX6_outside) (List.mem_cons_of_mem _ wq_338)
  have qn_38 := hC.2.2.2.1.1 (RX0, 38, yX6_outside, RX6) (List.mem_of_getElem? (i := 10) rfl)
  have hl : lv_has ls 3 [(0, .ref vb), (1, .int q)] := hl
  have hP : va_P Z.1 vwCl [(vb, .inr (0, [.ref vq, .int (nI t)])), (vq, .inr (2, [.ref aq, .int (nI hd), .int (nI sz)])), (aq, xI Z 662 g)] s.heap := hP
  have hD : va_D A [(vb, .inr (0, [.ref vq, .int (nI t)])), (vq, .inr (2, [.ref aq, .int (nI hd), .int (nI sz)])), (aq, xI Z 662 g)] := hD
  have hR1 := hR.1
  have hR2 := hR.2.1
  obtain ⟨b1, b2, b3, b4, b5⟩ := id hB
  unfold bmany at b3
  dsimp only at b1 b2 b3 b4 b5
  refine lv_iload_n hx hb dX0_get_0 rfl (lv_at hl 1 rfl) ?_
  refine ln_const 0 hx hb dX0_get_1 (by decide) ?_
  refine lv_aload_n hx hb dX0_get_2 rfl (lv_at hl 0 rfl) ?_
  refine x_Vi (y := yX0_size) (As := []) (wc := [(vb, .inr (0, [.ref vq, .int (nI t)])), (vq, .inr (2, [.ref aq, .int (nI hd), .int (nI sz)])), (aq, xI Z 662 g)]) (wr := []) hC hP hD hS (c_X0_size l Z vb vq aq hd sz t g L hR hsz hB) (gV wq_634 wq_631 wq_632 wq_633 wq_44) rfl kv_X0_size rfl rfl ⟨rfl, rfl⟩ rfl hl.1 rfl ⟨Nat.le_of_ble_eq_true rfl, Nat.le_of_ble_eq_true rfl⟩ [0, 1, 2] ([] : List Nat) rfl rfl (by decide) (by decide) (by decide) rfl dX0_get_3 (fun r3 w1 H locs hw hP hD hS => ?_)
  obtain ⟨rfl, rfl⟩ := hw
  have hP : va_P Z.1 vwCl [(vb, .inr (0, [.ref vq, .int (nI t)])), (vq, .inr (2, [.ref aq, .int (nI hd), .int (nI sz)])), (aq, xI Z 662 g)] H := hP
  have hD : va_D A [(vb, .inr (0, [.ref vq, .int (nI t)])), (vq, .inr (2, [.ref aq, .int (nI hd), .int (nI sz)])), (aq, xI Z 662 g)] := hD
  have hbm : bmany (L, t) = 121 * L.length - t % 121 := rfl
  refine ln_const 1 hx hb dX0_get_6 (by decide) ?_
  refine lv_isub hx hb dX0_get_7 ?_
  refine x_SNi (y := yX6_outside) (As := [.int q, .int (nI 0), .int ((nI (bmany (L, t))) - (nI 1))]) (wc := []) (wr := [(vb, .inr (0, [.ref vq, .int (nI t)])), (vq, .inr (2, [.ref aq, .int (nI hd), .int (nI sz)])), (aq, xI Z 662 g)]) hC hP hD hS (c_out_out l Z q (nI 0) ((nI (bmany (L, t))) - (nI 1)) (by rw [nI_toInt (by omega), pk_sub_toInt (by omega) (by omega)]; omega)) (gCo wq_339) qn_38 qq_32 qq_338 rfl ks_X6_outside ⟨rfl, rfl⟩ rfl hl.1 rfl ⟨Nat.le_of_ble_eq_true rfl, Nat.le_of_ble_eq_true rfl⟩ ([] : List Nat) [0, 1, 2] rfl rfl (by decide) (by decide) (by decide) rfl dX0_get_8 (fun r8 w1 H locs hw hP hD hS => ?_)
  obtain ⟨rfl, rfl⟩ := hw
  have hP : va_P Z.1 vwCl [(vb, .inr (0, [.ref vq, .int (nI t)])), (vq, .inr (2, [.ref aq, .int (nI hd), .int (nI sz)])), (aq, xI Z 662 g)] H := hP
  have hD : va_D A [(vb, .inr (0, [.ref vq, .int (nI t)])), (vq, .inr (2, [.ref aq, .int (nI hd), .int (nI sz)])), (aq, xI Z 662 g)] := hD
  refine ln_if_eq (tgt := 17) hx hb dX0_get_11 (by decide) (by omega) (fun h11 => False.elim (by omega)) (fun h11 => ?_)
  refine lv_bipush (v := (-9)) hx hb dX0_get_14 (by decide) ?_
  exact x_iret hC hr hk hP hD hS dX0_get_16 ⟨rfl, rfl⟩

set_option maxHeartbeats 4000000 in
set_option maxRecDepth 100000 in
theorem c_X0_ones (l : Launch) (Z : xZ) (vb vq aq hd sz t : Nat) (g : Nat → Nat) (L : List Nat) (hR : RR 662 hd g L) (hsz : sz = L.length) (hB : BV (L, t)) : xMi l Z yX0_ones vX0_ones ({ frames := 2, cells := 0, slots := 0, locals := 43 } : Room) [.ref vb] [(vb, .inr (0, [.ref vq, .int (nI t)])), (vq, .inr (2, [.ref aq, .int (nI hd), .int (nI sz)])), (aq, xI Z 662 g)] (fun r w => r = nI (bones (L, t)) ∧ w = [(vb, .inr (0, [.ref vq, .int (nI t)])), (vq, .inr (2, [.ref aq, .int (nI hd), .int (nI sz)])), (aq, xI Z 662 g)]) := by
  refine x_i (by decide) rfl (Nat.le_of_ble_eq_true rfl) ?_
  intro p e s m args below meth c ls A hC hr hk hl hP hD hS
  have hx := hC.1.1
  have hb := hC.1.2.1
  have hml := hC.1.2.2.1
  have hown : s.vm.findClass RX0 = some m.cls := hC.1.2.2.2.1
  have hts := hC.1.2.2.2.2
  have hK := hC.2.1
  have qq_308 := hts (Cond.fieldLink RX0 14 "TagTower$Bits" "row" "LTagTower$LetterRow;") (List.mem_cons_of_mem _ wq_308)
  have iX0 : ∀ w ∈ wsX00, w ∈ vX0_ones := fun w h => List.mem_cons_of_mem _ (wi_X0 w h)
  have qf_20 := va_Nw.use (A := args) rfl (hC.2.2.2.1.2 (RX0, 20, RX2, "size", "I", RX6) (List.mem_of_getElem? (i := 4) rfl))
  have iX2 : ∀ w ∈ wsX20, w ∈ vX0_ones := fun w h => List.mem_cons_of_mem _ (wi_X2 w h)
  have hl : lv_has ls 2 [(0, .ref vb)] := hl
  have hP : va_P Z.1 vwCl [(vb, .inr (0, [.ref vq, .int (nI t)])), (vq, .inr (2, [.ref aq, .int (nI hd), .int (nI sz)])), (aq, xI Z 662 g)] s.heap := hP
  have hD : va_D A [(vb, .inr (0, [.ref vq, .int (nI t)])), (vq, .inr (2, [.ref aq, .int (nI hd), .int (nI sz)])), (aq, xI Z 662 g)] := hD
  have hR1 := hR.1
  have hR2 := hR.2.1
  obtain ⟨b1, b2, b3, b4, b5⟩ := id hB
  unfold bmany at b3
  dsimp only at b1 b2 b3 b4 b5
  refine lv_aload_n hx hb dX0_ones_0 rfl (lv_at hl 0 rfl) ?_
  refine va_get (D := Z.1) (ci := 0) (v := .ref vq) (C := RX0) (T := TX0) (N := 2) hx hb hts iX0 hown hK hP 0 rfl rfl 0 (Nat.le_of_ble_eq_true rfl) qq_308 (fun _ h9 => h9) rfl dX0_ones_1 ?_
  refine va_getN (D := Z.1) (ci := 2) (v := .int (nI sz)) (C := RX2) (T := TX2) (N := 3) hx hb hts iX2 hown hK hP 1 rfl rfl 2 (Nat.le_of_ble_eq_true rfl) qf_20 (fun _ h9 => h9) rfl dX0_ones_4 ?_
  refine ln_if_le (tgt := 29) hx hb dX0_ones_7 (by decide) (by omega) (fun h7 => ?_) (fun h7 => ?_)
  · refine ln_const 0 hx hb dX0_ones_29 (by decide) ?_
    refine lv_istore_n (lv' := [(1, .int (nI 0)), (0, .ref vb)]) hx hb dX0_ones_30 rfl hl (by decide) rfl (fun ls hl => ?_)
    refine lv_iload_n hx hb dX0_ones_31 rfl (lv_at hl 0 rfl) ?_
    refine ln_if_eq (tgt := 47) hx hb dX0_ones_32 (by decide) (by omega) (fun h32 => ?_) (fun h32 => False.elim (by omega))
    refine lv_aload_n hx hb dX0_ones_47 rfl (lv_at hl 1 rfl) ?_
    refine va_get (D := Z.1) (ci := 0) (v := .ref vq) (C := RX0) (T := TX0) (N := 2) hx hb hts iX0 hown hK hP 0 rfl rfl 0 (Nat.le_of_ble_eq_true rfl) qq_308 (fun _ h9 => h9) rfl dX0_ones_48 ?_
    refine va_getN (D := Z.1) (ci := 2) (v := .int (nI sz)) (C := RX2) (T := TX2) (N := 3) hx hb hts iX2 hown hK hP 1 rfl rfl 2 (Nat.le_of_ble_eq_true rfl) qf_20 (fun _ h9 => h9) rfl dX0_ones_51 ?_
    exact x_iret hC hr hk hP hD hS dX0_ones_54 ⟨by unfold bones; dsimp only; rw [if_neg (by omega), hsz], rfl⟩
  · refine lv_aload_n hx hb dX0_ones_10 rfl (lv_at hl 0 rfl) ?_
    refine va_get (D := Z.1) (ci := 0) (v := .ref vq) (C := RX0) (T := TX0) (N := 2) hx hb hts iX0 hown hK hP 0 rfl rfl 0 (Nat.le_of_ble_eq_true rfl) qq_308 (fun _ h9 => h9) rfl dX0_ones_11 ?_
    refine ln_const 0 hx hb dX0_ones_14 (by decide) ?_
    refine x_Vi (y := yX2_get) (As := [.int (nI 0)]) (wc := [(vq, .inr (2, [.ref aq, .int (nI hd), .int (nI sz)])), (aq, xI Z 662 g)]) (wr := [(vb, .inr (0, [.ref vq, .int (nI t)]))]) hC hP hD hS (c_X2_get_in l Z vq aq 662 hd sz g L (by omega) hR hsz 0 (by omega)) (gV wq_524 wq_621 wq_522 wq_523 wq_43) rfl kv_X2_get rfl rfl ⟨rfl, rfl⟩ rfl hl.1 rfl ⟨Nat.le_of_ble_eq_true rfl, Nat.le_of_ble_eq_true rfl⟩ [1, 2] [0] rfl rfl (by decide) (by decide) (by decide) rfl dX0_ones_15 (fun r15 w1 H locs hw hP hD hS => ?_)
    obtain ⟨rfl, rfl⟩ := hw
    have hP : va_P Z.1 vwCl [(vb, .inr (0, [.ref vq, .int (nI t)])), (vq, .inr (2, [.ref aq, .int (nI hd), .int (nI sz)])), (aq, xI Z 662 g)] H := hP
    have hD : va_D A [(vb, .inr (0, [.ref vq, .int (nI t)])), (vq, .inr (2, [.ref aq, .int (nI hd), .int (nI sz)])), (aq, xI Z 662 g)] := hD
    have hz := b2 _ (getD_mem (w := L) (i := 0) (by omega))
    refine lv_aload_n hx hb dX0_ones_18 rfl (lv_at hl 0 rfl) ?_
    refine x_Vi (y := yX0_gone) (As := []) (wc := [(vb, .inr (0, [.ref vq, .int (nI t)]))]) (wr := [(vq, .inr (2, [.ref aq, .int (nI hd), .int (nI sz)])), (aq, xI Z 662 g)]) hC hP hD hS (c_X0_gone l Z vb vq t (by omega)) (gV wq_626 wq_623 wq_625 wq_12 wq_44) rfl kv_X0_gone rfl rfl ⟨rfl, rfl⟩ rfl hl.1 rfl ⟨Nat.le_of_ble_eq_true rfl, Nat.le_of_ble_eq_true rfl⟩ [0] [1, 2] rfl rfl (by decide) (by decide) (by decide) rfl dX0_ones_19 (fun r19 w1 H locs hw hP hD hS => ?_)
    obtain ⟨rfl, rfl⟩ := hw
    have hP := hP.sub (ws' := [(vb, .inr (0, [.ref vq, .int (nI t)])), (vq, .inr (2, [.ref aq, .int (nI hd), .int (nI sz)])), (aq, xI Z 662 g)]) [2, 0, 1] rfl
    have hD := hD.sub (ws' := [(vb, .inr (0, [.ref vq, .int (nI t)])), (vq, .inr (2, [.ref aq, .int (nI hd), .int (nI sz)])), (aq, xI Z 662 g)]) [2, 0, 1] (by decide) rfl
    refine ln_icmp_ge (tgt := 29) hx hb dX0_ones_22 (by decide) (by omega) (by omega) (fun h22 => ?_) (fun h22 => ?_)
    · refine ln_const 0 hx hb dX0_ones_29 (by decide) ?_
      refine lv_istore_n (lv' := [(1, .int (nI 0)), (0, .ref vb)]) hx hb dX0_ones_30 rfl hl (by decide) rfl (fun ls hl => ?_)
      refine lv_iload_n hx hb dX0_ones_31 rfl (lv_at hl 0 rfl) ?_
      refine ln_if_eq (tgt := 47) hx hb dX0_ones_32 (by decide) (by omega) (fun h32 => ?_) (fun h32 => False.elim (by omega))
      refine lv_aload_n hx hb dX0_ones_47 rfl (lv_at hl 1 rfl) ?_
      refine va_get (D := Z.1) (ci := 0) (v := .ref vq) (C := RX0) (T := TX0) (N := 2) hx hb hts iX0 hown hK hP 0 rfl rfl 0 (Nat.le_of_ble_eq_true rfl) qq_308 (fun _ h9 => h9) rfl dX0_ones_48 ?_
      refine va_getN (D := Z.1) (ci := 2) (v := .int (nI sz)) (C := RX2) (T := TX2) (N := 3) hx hb hts iX2 hown hK hP 1 rfl rfl 2 (Nat.le_of_ble_eq_true rfl) qf_20 (fun _ h9 => h9) rfl dX0_ones_51 ?_
      exact x_iret hC hr hk hP hD hS dX0_ones_54 ⟨by unfold bones; dsimp only; rw [if_neg (by omega), hsz], rfl⟩
    · refine ln_const 1 hx hb dX0_ones_25 (by decide) ?_
      refine lv_goto (tgt := 30) hx hb dX0_ones_26 (by decide) ?_
      refine lv_istore_n (lv' := [(1, .int (nI 1)), (0, .ref vb)]) hx hb dX0_ones_30 rfl hl (by decide) rfl (fun ls hl => ?_)
      refine lv_iload_n hx hb dX0_ones_31 rfl (lv_at hl 0 rfl) ?_
      refine ln_if_eq (tgt := 47) hx hb dX0_ones_32 (by decide) (by omega) (fun h32 => False.elim (by omega)) (fun h32 => ?_)
      refine lv_aload_n hx hb dX0_ones_35 rfl (lv_at hl 1 rfl) ?_
      refine va_get (D := Z.1) (ci := 0) (v := .ref vq) (C := RX0) (T := TX0) (N := 2) hx hb hts iX0 hown hK hP 0 rfl rfl 0 (Nat.le_of_ble_eq_true rfl) qq_308 (fun _ h9 => h9) rfl dX0_ones_36 ?_
      refine va_getN (D := Z.1) (ci := 2) (v := .int (nI sz)) (C := RX2) (T := TX2) (N := 3) hx hb hts iX2 hown hK hP 1 rfl rfl 2 (Nat.le_of_ble_eq_true rfl) qf_20 (fun _ h9 => h9) rfl dX0_ones_39 ?_
      refine ln_const 1 hx hb dX0_ones_42 (by decide) ?_
      refine ln_isub (sz - 1) hx hb dX0_ones_43 (by omega) (by first | rfl | omega) ?_
      refine lv_goto (tgt := 54) hx hb dX0_ones_44 (by decide) ?_
      exact x_iret hC hr hk hP hD hS dX0_ones_54 ⟨by unfold bones; dsimp only; rw [if_pos ⟨by omega, by omega⟩, hsz], rfl⟩

set_option maxHeartbeats 4000000 in
set_option maxRecDepth 100000 in
theorem c_X0_isStill (l : Launch) (Z : xZ) (vb vq aq hd sz t : Nat) (g : Nat → Nat) (L : List Nat) (hR : RR 662 hd g L) (hsz : sz = L.length) (hB : BV (L, t)) (hp s0 s1 : Nat) (sz1 lt1 : Nat → Nat) (R : xRl) (hV : RV R) (hT : TR (xprod R) sz1 lt1) : xMi l Z yX0_isStill vX0_isStill ({ frames := 2, cells := 0, slots := 0, locals := 43 } : Room) [.ref vb, .ref hp] [(vb, .inr (0, [.ref vq, .int (nI t)])), (vq, .inr (2, [.ref aq, .int (nI hd), .int (nI sz)])), (aq, xI Z 662 g), (hp, .inr (4, [.ref s0, .ref s1])), (s0, xI Z 121 sz1), (s1, xI Z 484 lt1)] (fun r w => (bstill R (L, t) ∧ r = nI 1 ∧ w = [(vb, .inr (0, [.ref vq, .int (nI t)])), (vq, .inr (2, [.ref aq, .int (nI hd), .int (nI sz)])), (aq, xI Z 662 g), (hp, .inr (4, [.ref s0, .ref s1])), (s0, xI Z 121 sz1), (s1, xI Z 484 lt1)]) ∨ (¬ bstill R (L, t) ∧ r = nI 0 ∧ w = [(vb, .inr (0, [.ref vq, .int (nI t)])), (vq, .inr (2, [.ref aq, .int (nI hd), .int (nI sz)])), (aq, xI Z 662 g), (hp, .inr (4, [.ref s0, .ref s1])), (s0, xI Z 121 sz1), (s1, xI Z 484 lt1)])) := by
  refine x_i (by decide) rfl (Nat.le_of_ble_eq_true rfl) ?_
  intro p e s m args below meth c ls A hC hr hk hl hP hD hS
  have hx := hC.1.1
  have hb := hC.1.2.1
  have hml := hC.1.2.2.1
  have hown : s.vm.findClass RX0 = some m.cls := hC.1.2.2.2.1
  have hts := hC.1.2.2.2.2
  have hK := hC.2.1
  have qq_310 := hts (Cond.fieldLink RX0 29 "TagTower$Bits" "turn" "I") (List.mem_cons_of_mem _ wq_310)
  have iX0 : ∀ w ∈ wsX00, w ∈ vX0_isStill := fun w h => List.mem_cons_of_mem _ (wi_X0 w h)
  have qq_308 := hts (Cond.fieldLink RX0 14 "TagTower$Bits" "row" "LTagTower$LetterRow;") (List.mem_cons_of_mem _ wq_308)
  have qf_20 := va_Nw.use (A := args) rfl (hC.2.2.2.1.2 (RX0, 20, RX2, "size", "I", RX6) (List.mem_of_getElem? (i := 4) rfl))
  have iX2 : ∀ w ∈ wsX20, w ∈ vX0_isStill := fun w h => List.mem_cons_of_mem _ (wi_X2 w h)
  have hl : lv_has ls 2 [(0, .ref vb), (1, .ref hp)] := hl
  have hP : va_P Z.1 vwCl [(vb, .inr (0, [.ref vq, .int (nI t)])), (vq, .inr (2, [.ref aq, .int (nI hd), .int (nI sz)])), (aq, xI Z 662 g), (hp, .inr (4, [.ref s0, .ref s1])), (s0, xI Z 121 sz1), (s1, xI Z 484 lt1)] s.heap := hP
  have hD : va_D A [(vb, .inr (0, [.ref vq, .int (nI t)])), (vq, .inr (2, [.ref aq, .int (nI hd), .int (nI sz)])), (aq, xI Z 662 g), (hp, .inr (4, [.ref s0, .ref s1])), (s0, xI Z 121 sz1), (s1, xI Z 484 lt1)] := hD
  have hR1 := hR.1
  have hR2 := hR.2.1
  obtain ⟨b1, b2, b3, b4, b5⟩ := id hB
  unfold bmany at b3
  dsimp only at b1 b2 b3 b4 b5
  refine lv_aload_n hx hb dX0_isStill_0 rfl (lv_at hl 0 rfl) ?_
  refine va_get (D := Z.1) (ci := 0) (v := .int (nI t)) (C := RX0) (T := TX0) (N := 2) hx hb hts iX0 hown hK hP 0 rfl rfl 1 (Nat.le_of_ble_eq_true rfl) qq_310 (fun _ h9 => h9) rfl dX0_isStill_1 ?_
  refine ln_if_ne (tgt := 37) hx hb dX0_isStill_4 (by decide) (by omega) (fun h4 => ?_) (fun h4 => ?_)
  · refine ln_const 0 hx hb dX0_isStill_37 (by decide) ?_
    exact x_zret hC hr rfl hk hP hD hS dX0_isStill_38 (Or.inr ⟨fun q => h4 q.1, rfl, rfl⟩)
  · refine lv_aload_n hx hb dX0_isStill_7 rfl (lv_at hl 0 rfl) ?_
    refine va_get (D := Z.1) (ci := 0) (v := .ref vq) (C := RX0) (T := TX0) (N := 2) hx hb hts iX0 hown hK hP 0 rfl rfl 0 (Nat.le_of_ble_eq_true rfl) qq_308 (fun _ h9 => h9) rfl dX0_isStill_8 ?_
    refine va_getN (D := Z.1) (ci := 2) (v := .int (nI sz)) (C := RX2) (T := TX2) (N := 3) hx hb hts iX2 hown hK hP 1 rfl rfl 2 (Nat.le_of_ble_eq_true rfl) qf_20 (fun _ h9 => h9) rfl dX0_isStill_11 ?_
    refine ln_const 2 hx hb dX0_isStill_14 (by decide) ?_
    refine ln_icmp_lt (tgt := 33) hx hb dX0_isStill_15 (by decide) (by omega) (by omega) (fun h15 => ?_) (fun h15 => ?_)
    · refine ln_const 1 hx hb dX0_isStill_33 (by decide) ?_
      refine lv_goto (tgt := 38) hx hb dX0_isStill_34 (by decide) ?_
      exact x_zret hC hr rfl hk hP hD hS dX0_isStill_38 (Or.inl ⟨⟨h4, Or.inl (by dsimp only; omega)⟩, rfl, rfl⟩)
    · refine lv_aload_n hx hb dX0_isStill_18 rfl (lv_at hl 1 rfl) ?_
      refine lv_aload_n hx hb dX0_isStill_19 rfl (lv_at hl 0 rfl) ?_
      refine va_get (D := Z.1) (ci := 0) (v := .ref vq) (C := RX0) (T := TX0) (N := 2) hx hb hts iX0 hown hK hP 0 rfl rfl 0 (Nat.le_of_ble_eq_true rfl) qq_308 (fun _ h9 => h9) rfl dX0_isStill_20 ?_
      refine ln_const 0 hx hb dX0_isStill_23 (by decide) ?_
      refine x_Vi (y := yX2_get) (As := [.int (nI 0)]) (wc := [(vq, .inr (2, [.ref aq, .int (nI hd), .int (nI sz)])), (aq, xI Z 662 g)]) (wr := [(vb, .inr (0, [.ref vq, .int (nI t)])), (hp, .inr (4, [.ref s0, .ref s1])), (s0, xI Z 121 sz1), (s1, xI Z 484 lt1)]) hC hP hD hS (c_X2_get_in l Z vq aq 662 hd sz g L (by omega) hR hsz 0 (by omega)) (gV wq_524 wq_621 wq_522 wq_523 wq_43) rfl kv_X2_get rfl rfl ⟨rfl, rfl⟩ rfl hl.1 rfl ⟨Nat.le_of_ble_eq_true rfl, Nat.le_of_ble_eq_true rfl⟩ [1, 2] [0, 3, 4, 5] rfl rfl (by decide) (by decide) (by decide) rfl dX0_isStill_24 (fun r24 w1 H locs hw hP hD hS => ?_)
      obtain ⟨rfl, rfl⟩ := hw
      have hP := hP.sub (ws' := [(vb, .inr (0, [.ref vq, .int (nI t)])), (vq, .inr (2, [.ref aq, .int (nI hd), .int (nI sz)])), (aq, xI Z 662 g), (hp, .inr (4, [.ref s0, .ref s1])), (s0, xI Z 121 sz1), (s1, xI Z 484 lt1)]) [0, 4, 5, 1, 2, 3] rfl
      have hD := hD.sub (ws' := [(vb, .inr (0, [.ref vq, .int (nI t)])), (vq, .inr (2, [.ref aq, .int (nI hd), .int (nI sz)])), (aq, xI Z 662 g), (hp, .inr (4, [.ref s0, .ref s1])), (s0, xI Z 121 sz1), (s1, xI Z 484 lt1)]) [0, 4, 5, 1, 2, 3] (by decide) rfl
      have hz := b2 _ (getD_mem (w := L) (i := 0) (by omega))
      have htp := tapp_in (T := xprod R) hz
      have hT4 := (xprod_ok hV hz).1
      refine x_Vi (y := yX4_sizeOf) (As := [.int (nI (L.getD 0 0))]) (wc := [(hp, .inr (4, [.ref s0, .ref s1])), (s0, xI Z 121 sz1), (s1, xI Z 484 lt1)]) (wr := [(vb, .inr (0, [.ref vq, .int (nI t)])), (vq, .inr (2, [.ref aq, .int (nI hd), .int (nI sz)])), (aq, xI Z 662 g)]) hC hP hD hS (c_sizeOf l Z hp s0 s1 sz1 lt1 (xprod R) hT (L.getD 0 0) (by omega)) (gV wq_478 wq_622 wq_476 wq_477 wq_35) rfl kv_X4_sizeOf rfl rfl ⟨rfl, rfl⟩ rfl hl.1 rfl ⟨Nat.le_of_ble_eq_true rfl, Nat.le_of_ble_eq_true rfl⟩ [3, 4, 5] [0, 1, 2] rfl rfl (by decide) (by decide) (by decide) rfl dX0_isStill_27 (fun r27 w1 H locs hw hP hD hS => ?_)
      obtain ⟨rfl, rfl⟩ := hw
      have hP : va_P Z.1 vwCl [(vb, .inr (0, [.ref vq, .int (nI t)])), (vq, .inr (2, [.ref aq, .int (nI hd), .int (nI sz)])), (aq, xI Z 662 g), (hp, .inr (4, [.ref s0, .ref s1])), (s0, xI Z 121 sz1), (s1, xI Z 484 lt1)] H := hP
      have hD : va_D A [(vb, .inr (0, [.ref vq, .int (nI t)])), (vq, .inr (2, [.ref aq, .int (nI hd), .int (nI sz)])), (aq, xI Z 662 g), (hp, .inr (4, [.ref s0, .ref s1])), (s0, xI Z 121 sz1), (s1, xI Z 484 lt1)] := hD
      rw [htp]
      refine ln_if_ne (tgt := 37) hx hb dX0_isStill_30 (by decide) (by omega) (fun h30 => ?_) (fun h30 => ?_)
      · refine ln_const 0 hx hb dX0_isStill_37 (by decide) ?_
        exact x_zret hC hr rfl hk hP hD hS dX0_isStill_38 (Or.inr ⟨fun q => q.2.elim (fun z => by dsimp only at z; omega) h30, rfl, rfl⟩)
      · refine ln_const 1 hx hb dX0_isStill_33 (by decide) ?_
        refine lv_goto (tgt := 38) hx hb dX0_isStill_34 (by decide) ?_
        exact x_zret hC hr rfl hk hP hD hS dX0_isStill_38 (Or.inl ⟨⟨h4, Or.inr h30⟩, rfl, rfl⟩)

set_option maxHeartbeats 4000000 in
set_option maxRecDepth 100000 in
theorem c_X0_pass (l : Launch) (Z : xZ) (vb vq aq hd sz t : Nat) (g : Nat → Nat) (L : List Nat) (hR : RR 662 hd g L) (hsz : sz = L.length) (k : Nat) (ht : t + k ≤ 242) (hL : 1 ≤ L.length) : xMv l Z yX0_pass vX0_pass ({ frames := 2, cells := 0, slots := 0, locals := 43 } : Room) [.ref vb, .int (nI k)] [(vb, .inr (0, [.ref vq, .int (nI t)])), (vq, .inr (2, [.ref aq, .int (nI hd), .int (nI sz)])), (aq, xI Z 662 g)] (fun w => ∃ hd2, RR 662 hd2 g (bpk k (L, t)).1 ∧ w = [(vb, .inr (0, [.ref vq, .int (nI ((bpk k (L, t)).2))])), (vq, .inr (2, [.ref aq, .int (nI hd2), .int (nI ((bpk k (L, t)).1.length))])), (aq, xI Z 662 g)]) := by
  refine x_v (by decide) rfl (Nat.le_of_ble_eq_true rfl) ?_
  intro p e s m args below meth c ls A hC hr hk hname hl hP hD hS
  have hx := hC.1.1
  have hb := hC.1.2.1
  have hml := hC.1.2.2.1
  have hown : s.vm.findClass RX0 = some m.cls := hC.1.2.2.2.1
  have hts := hC.1.2.2.2.2
  have hK := hC.2.1
  have qq_310 := hts (Cond.fieldLink RX0 29 "TagTower$Bits" "turn" "I") (List.mem_cons_of_mem _ wq_310)
  have iX0 : ∀ w ∈ wsX00, w ∈ vX0_pass := fun w h => List.mem_cons_of_mem _ (wi_X0 w h)
  have qq_308 := hts (Cond.fieldLink RX0 14 "TagTower$Bits" "row" "LTagTower$LetterRow;") (List.mem_cons_of_mem _ wq_308)
  have hl : lv_has ls 2 [(0, .ref vb), (1, .int (nI k))] := hl
  have hP : va_P Z.1 vwCl [(vb, .inr (0, [.ref vq, .int (nI t)])), (vq, .inr (2, [.ref aq, .int (nI hd), .int (nI sz)])), (aq, xI Z 662 g)] s.heap := hP
  have hD : va_D A [(vb, .inr (0, [.ref vq, .int (nI t)])), (vq, .inr (2, [.ref aq, .int (nI hd), .int (nI sz)])), (aq, xI Z 662 g)] := hD
  have hR1 := hR.1
  have hR2 := hR.2.1
  refine lv_aload_n hx hb dX0_pass_0 rfl (lv_at hl 0 rfl) ?_
  refine lv_dup hx hb dX0_pass_1 rfl ?_
  refine va_get (D := Z.1) (ci := 0) (v := .int (nI t)) (C := RX0) (T := TX0) (N := 2) hx hb hts iX0 hown hK hP 0 rfl rfl 1 (Nat.le_of_ble_eq_true rfl) qq_310 (fun _ h9 => h9) rfl dX0_pass_2 ?_
  refine lv_iload_n hx hb dX0_pass_5 rfl (lv_at hl 1 rfl) ?_
  refine ln_iadd (t + k) hx hb dX0_pass_6 (by first | rfl | omega) ?_
  refine va_put (D := Z.1) (ci := 0) (v := .int (nI (t + k))) (ty := tyX0 1) (C := RX0) (T := TX0) (N := 2) hx hb hts iX0 tyX0 tyX0_ok nmX0 hown hK hP hD hS 0 rfl rfl 1 (Nat.le_of_ble_eq_true rfl) qq_310 (fun _ h9 => h9) rfl (tyX0_ok 1 (Nat.le_of_ble_eq_true rfl)) rfl rfl (Nat.le_of_ble_eq_true rfl) dX0_pass_7 (fun H locs hP hD hS => ?_)
  have hP : va_P Z.1 vwCl [(vb, .inr (0, [.ref vq, .int (nI (t + k))])), (vq, .inr (2, [.ref aq, .int (nI hd), .int (nI sz)])), (aq, xI Z 662 g)] H := hP
  have hD : va_D A [(vb, .inr (0, [.ref vq, .int (nI (t + k))])), (vq, .inr (2, [.ref aq, .int (nI hd), .int (nI sz)])), (aq, xI Z 662 g)] := hD
  refine lv_aload_n hx hb dX0_pass_10 rfl (lv_at hl 0 rfl) ?_
  refine x_Vi (y := yX0_gone) (As := []) (wc := [(vb, .inr (0, [.ref vq, .int (nI (t + k))]))]) (wr := [(vq, .inr (2, [.ref aq, .int (nI hd), .int (nI sz)])), (aq, xI Z 662 g)]) hC hP hD hS (c_X0_gone l Z vb vq (t + k) (by omega)) (gV wq_626 wq_623 wq_625 wq_12 wq_44) rfl kv_X0_gone rfl rfl ⟨rfl, rfl⟩ rfl hl.1 rfl ⟨Nat.le_of_ble_eq_true rfl, Nat.le_of_ble_eq_true rfl⟩ [0] [1, 2] rfl rfl (by decide) (by decide) (by decide) rfl dX0_pass_11 (fun r11 w1 H locs hw hP hD hS => ?_)
  obtain ⟨rfl, rfl⟩ := hw
  have hP := hP.sub (ws' := [(vb, .inr (0, [.ref vq, .int (nI (t + k))])), (vq, .inr (2, [.ref aq, .int (nI hd), .int (nI sz)])), (aq, xI Z 662 g)]) [2, 0, 1] rfl
  have hD := hD.sub (ws' := [(vb, .inr (0, [.ref vq, .int (nI (t + k))])), (vq, .inr (2, [.ref aq, .int (nI hd), .int (nI sz)])), (aq, xI Z 662 g)]) [2, 0, 1] (by decide) rfl
  refine ln_if_ne (tgt := 25) hx hb dX0_pass_14 (by decide) (by omega) (fun h14 => ?_) (fun h14 => ?_)
  · refine lv_aload_n hx hb dX0_pass_25 rfl (lv_at hl 0 rfl) ?_
    refine va_get (D := Z.1) (ci := 0) (v := .int (nI (t + k))) (C := RX0) (T := TX0) (N := 2) hx hb hts iX0 hown hK hP 0 rfl rfl 1 (Nat.le_of_ble_eq_true rfl) qq_310 (fun _ h9 => h9) rfl dX0_pass_26 ?_
    refine ln_sipush 242 hx hb dX0_pass_29 (by decide) ?_
    refine ln_icmp_lt (tgt := 40) hx hb dX0_pass_32 (by decide) (by omega) (by omega) (fun h32 => ?_) (fun h32 => ?_)
    · have e1 : (bpk k (L, t)).1 = L := by unfold bpk; dsimp only; rw [if_neg h14]
      have e2 : (bpk k (L, t)).2 = t + k := by unfold bpk; dsimp only; rw [if_neg (by omega)]
      exact x_vret hC hr hk hP hD hS dX0_pass_40 ⟨_, by rw [e1]; exact hR, by rw [e1, e2]; rw [hsz]⟩
    · refine lv_aload_n hx hb dX0_pass_35 rfl (lv_at hl 0 rfl) ?_
      refine ln_const 0 hx hb dX0_pass_36 (by decide) ?_
      refine va_put (D := Z.1) (ci := 0) (v := .int (nI 0)) (ty := tyX0 1) (C := RX0) (T := TX0) (N := 2) hx hb hts iX0 tyX0 tyX0_ok nmX0 hown hK hP hD hS 0 rfl rfl 1 (Nat.le_of_ble_eq_true rfl) qq_310 (fun _ h9 => h9) rfl (tyX0_ok 1 (Nat.le_of_ble_eq_true rfl)) rfl rfl (Nat.le_of_ble_eq_true rfl) dX0_pass_37 (fun H locs hP hD hS => ?_)
      have hP : va_P Z.1 vwCl [(vb, .inr (0, [.ref vq, .int (nI 0)])), (vq, .inr (2, [.ref aq, .int (nI hd), .int (nI sz)])), (aq, xI Z 662 g)] H := hP
      have hD : va_D A [(vb, .inr (0, [.ref vq, .int (nI 0)])), (vq, .inr (2, [.ref aq, .int (nI hd), .int (nI sz)])), (aq, xI Z 662 g)] := hD
      have e1 : (bpk k (L, t)).1 = L := by unfold bpk; dsimp only; rw [if_neg h14]
      have e2 : (bpk k (L, t)).2 = 0 := by unfold bpk; dsimp only; rw [if_pos (by omega)]
      exact x_vret hC hr hk hP hD hS dX0_pass_40 ⟨_, by rw [e1]; exact hR, by rw [e1, e2]; rw [hsz]⟩
  · refine lv_aload_n hx hb dX0_pass_17 rfl (lv_at hl 0 rfl) ?_
    refine va_get (D := Z.1) (ci := 0) (v := .ref vq) (C := RX0) (T := TX0) (N := 2) hx hb hts iX0 hown hK hP 0 rfl rfl 0 (Nat.le_of_ble_eq_true rfl) qq_308 (fun _ h9 => h9) rfl dX0_pass_18 ?_
    refine ln_const 1 hx hb dX0_pass_21 (by decide) ?_
    refine x_Vv (y := yX2_drop) (As := [.int (nI 1)]) (wc := [(vq, .inr (2, [.ref aq, .int (nI hd), .int (nI sz)])), (aq, xI Z 662 g)]) (wr := [(vb, .inr (0, [.ref vq, .int (nI (t + k))]))]) hC hP hD hS (c_X2_drop l Z vq aq 662 hd sz g L (by omega) hR hsz 1 (by omega)) (gV wq_547 wq_640 wq_545 wq_546 wq_43) rfl kv_X2_drop rfl rfl ⟨rfl, rfl⟩ rfl hl.1 rfl ⟨Nat.le_of_ble_eq_true rfl, Nat.le_of_ble_eq_true rfl⟩ [1, 2] [0] rfl rfl (by decide) (by decide) (by decide) rfl dX0_pass_22 (fun w1 H locs hw hP hD hS => ?_)
    obtain ⟨hRd, rfl⟩ := hw
    have hP : va_P Z.1 vwCl [(vb, .inr (0, [.ref vq, .int (nI (t + k))])), (vq, .inr (2, [.ref aq, .int (nI (xwr 662 (hd + 1))), .int (nI (sz - 1))])), (aq, xI Z 662 g)] H := hP
    have hD : va_D A [(vb, .inr (0, [.ref vq, .int (nI (t + k))])), (vq, .inr (2, [.ref aq, .int (nI (xwr 662 (hd + 1))), .int (nI (sz - 1))])), (aq, xI Z 662 g)] := hD
    refine lv_aload_n hx hb dX0_pass_25 rfl (lv_at hl 0 rfl) ?_
    refine va_get (D := Z.1) (ci := 0) (v := .int (nI (t + k))) (C := RX0) (T := TX0) (N := 2) hx hb hts iX0 hown hK hP 0 rfl rfl 1 (Nat.le_of_ble_eq_true rfl) qq_310 (fun _ h9 => h9) rfl dX0_pass_26 ?_
    refine ln_sipush 242 hx hb dX0_pass_29 (by decide) ?_
    refine ln_icmp_lt (tgt := 40) hx hb dX0_pass_32 (by decide) (by omega) (by omega) (fun h32 => ?_) (fun h32 => ?_)
    · have e1 : (bpk k (L, t)).1 = L.drop 1 := by unfold bpk; dsimp only; rw [if_pos h14]
      have e2 : (bpk k (L, t)).2 = t + k := by unfold bpk; dsimp only; rw [if_neg (by omega)]
      exact x_vret hC hr hk hP hD hS dX0_pass_40 ⟨_, by rw [e1]; exact hRd, by rw [e1, e2]; rw [List.length_drop, hsz]⟩
    · refine lv_aload_n hx hb dX0_pass_35 rfl (lv_at hl 0 rfl) ?_
      refine ln_const 0 hx hb dX0_pass_36 (by decide) ?_
      refine va_put (D := Z.1) (ci := 0) (v := .int (nI 0)) (ty := tyX0 1) (C := RX0) (T := TX0) (N := 2) hx hb hts iX0 tyX0 tyX0_ok nmX0 hown hK hP hD hS 0 rfl rfl 1 (Nat.le_of_ble_eq_true rfl) qq_310 (fun _ h9 => h9) rfl (tyX0_ok 1 (Nat.le_of_ble_eq_true rfl)) rfl rfl (Nat.le_of_ble_eq_true rfl) dX0_pass_37 (fun H locs hP hD hS => ?_)
      have hP : va_P Z.1 vwCl [(vb, .inr (0, [.ref vq, .int (nI 0)])), (vq, .inr (2, [.ref aq, .int (nI (xwr 662 (hd + 1))), .int (nI (sz - 1))])), (aq, xI Z 662 g)] H := hP
      have hD : va_D A [(vb, .inr (0, [.ref vq, .int (nI 0)])), (vq, .inr (2, [.ref aq, .int (nI (xwr 662 (hd + 1))), .int (nI (sz - 1))])), (aq, xI Z 662 g)] := hD
      have e1 : (bpk k (L, t)).1 = L.drop 1 := by unfold bpk; dsimp only; rw [if_pos h14]
      have e2 : (bpk k (L, t)).2 = 0 := by unfold bpk; dsimp only; rw [if_pos (by omega)]
      exact x_vret hC hr hk hP hD hS dX0_pass_40 ⟨_, by rw [e1]; exact hRd, by rw [e1, e2]; rw [List.length_drop, hsz]⟩

theorem kv_X0_pass : yX0_pass.cls = RX0 ∧ yX0_pass.cls ≠ "java/lang/invoke/MethodHandle" ∧ yX0_pass.cls ≠ "java/lang/invoke/VarHandle" ∧ (parseMethodDescriptor yX0_pass.desc).map (fun d => d.parameters.length) = some 1 := by decide +kernel
set_option maxHeartbeats 4000000 in
set_option maxRecDepth 100000 in
theorem c_X0_takeOne (l : Launch) (Z : xZ) (vb vq aq hd sz t : Nat) (g : Nat → Nat) (L : List Nat) (hR : RR 662 hd g L) (hsz : sz = L.length) (hB : BV (L, t)) (hp s0 s1 : Nat) (sz1 lt1 : Nat → Nat) (R : xRl) (hV : RV R) (hT : TR (xprod R) sz1 lt1) (hs : ¬ bstill R (L, t)) (h0 : L.getD 0 0 = t % 121) : xMi l Z yX0_takeOne vX0_takeOne ({ frames := 3, cells := 0, slots := 0, locals := 68 } : Room) [.ref vb, .ref hp] [(vb, .inr (0, [.ref vq, .int (nI t)])), (vq, .inr (2, [.ref aq, .int (nI hd), .int (nI sz)])), (aq, xI Z 662 g), (hp, .inr (4, [.ref s0, .ref s1])), (s0, xI Z 121 sz1), (s1, xI Z 484 lt1)] (fun r w => (bstep R (L, t) = none ∧ r = nI 0 ∧ w = [(vb, .inr (0, [.ref vq, .int (nI t)])), (vq, .inr (2, [.ref aq, .int (nI hd), .int (nI sz)])), (aq, xI Z 662 g), (hp, .inr (4, [.ref s0, .ref s1])), (s0, xI Z 121 sz1), (s1, xI Z 484 lt1)]) ∨ (∃ P hd2 g2, bstep R (L, t) = some P ∧ RR 662 hd2 g2 P.1 ∧ r = nI 1 ∧ w = [(vb, .inr (0, [.ref vq, .int (nI P.2)])), (vq, .inr (2, [.ref aq, .int (nI hd2), .int (nI P.1.length)])), (aq, xI Z 662 g2), (hp, .inr (4, [.ref s0, .ref s1])), (s0, xI Z 121 sz1), (s1, xI Z 484 lt1)])) := by
  refine x_i (by decide) rfl (Nat.le_of_ble_eq_true rfl) ?_
  intro p e s m args below meth c ls A hC hr hk hl hP hD hS
  have hx := hC.1.1
  have hb := hC.1.2.1
  have hml := hC.1.2.2.1
  have hown : s.vm.findClass RX0 = some m.cls := hC.1.2.2.2.1
  have hts := hC.1.2.2.2.2
  have hK := hC.2.1
  have qq_310 := hts (Cond.fieldLink RX0 29 "TagTower$Bits" "turn" "I") (List.mem_cons_of_mem _ wq_310)
  have iX0 : ∀ w ∈ wsX00, w ∈ vX0_takeOne := fun w h => List.mem_cons_of_mem _ (wi_X0 w h)
  have qq_603 := hts (Cond.constant RX0 24 (80000)) (List.mem_cons_of_mem _ wq_603)
  have qq_308 := hts (Cond.fieldLink RX0 14 "TagTower$Bits" "row" "LTagTower$LetterRow;") (List.mem_cons_of_mem _ wq_308)
  have hl : lv_has ls 2 [(0, .ref vb), (1, .ref hp)] := hl
  have hP : va_P Z.1 vwCl [(vb, .inr (0, [.ref vq, .int (nI t)])), (vq, .inr (2, [.ref aq, .int (nI hd), .int (nI sz)])), (aq, xI Z 662 g), (hp, .inr (4, [.ref s0, .ref s1])), (s0, xI Z 121 sz1), (s1, xI Z 484 lt1)] s.heap := hP
  have hD : va_D A [(vb, .inr (0, [.ref vq, .int (nI t)])), (vq, .inr (2, [.ref aq, .int (nI hd), .int (nI sz)])), (aq, xI Z 662 g), (hp, .inr (4, [.ref s0, .ref s1])), (s0, xI Z 121 sz1), (s1, xI Z 484 lt1)] := hD
  have hR1 := hR.1
  have hR2 := hR.2.1
  obtain ⟨b1, b2, b3, b4, b5⟩ := id hB
  unfold bmany at b3
  dsimp only at b1 b2 b3 b4 b5
  obtain ⟨b6, b7⟩ := hB.one hs
  have htl : (tapp (xprod R) t).length ≤ 4 := by
    rcases Nat.lt_or_ge t 121 with q | q
    · rw [tapp_in q]; exact (hT t q).2.1
    · rw [tapp_out q]; simp
  have hta : tapp (xprod R) t = bapp R t := rfl
  have hmd := Nat.mod_lt t (show 0 < 121 by decide)
  refine lv_aload_n hx hb dX0_takeOne_0 rfl (lv_at hl 0 rfl) ?_
  refine x_Vi (y := yX0_size) (As := []) (wc := [(vb, .inr (0, [.ref vq, .int (nI t)])), (vq, .inr (2, [.ref aq, .int (nI hd), .int (nI sz)])), (aq, xI Z 662 g)]) (wr := [(hp, .inr (4, [.ref s0, .ref s1])), (s0, xI Z 121 sz1), (s1, xI Z 484 lt1)]) hC hP hD hS (c_X0_size l Z vb vq aq hd sz t g L hR hsz hB) (gV wq_634 wq_631 wq_632 wq_633 wq_44) rfl kv_X0_size rfl rfl ⟨rfl, rfl⟩ rfl hl.1 rfl ⟨Nat.le_of_ble_eq_true rfl, Nat.le_of_ble_eq_true rfl⟩ [0, 1, 2] [3, 4, 5] rfl rfl (by decide) (by decide) (by decide) rfl dX0_takeOne_1 (fun r1 w1 H locs hw hP hD hS => ?_)
  obtain ⟨rfl, rfl⟩ := hw
  have hP := hP.sub (ws' := [(vb, .inr (0, [.ref vq, .int (nI t)])), (vq, .inr (2, [.ref aq, .int (nI hd), .int (nI sz)])), (aq, xI Z 662 g), (hp, .inr (4, [.ref s0, .ref s1])), (s0, xI Z 121 sz1), (s1, xI Z 484 lt1)]) [3, 4, 5, 0, 1, 2] rfl
  have hD := hD.sub (ws' := [(vb, .inr (0, [.ref vq, .int (nI t)])), (vq, .inr (2, [.ref aq, .int (nI hd), .int (nI sz)])), (aq, xI Z 662 g), (hp, .inr (4, [.ref s0, .ref s1])), (s0, xI Z 121 sz1), (s1, xI Z 484 lt1)]) [3, 4, 5, 0, 1, 2] (by decide) rfl
  have hbm : bmany (L, t) = 121 * L.length - t % 121 := rfl
  refine ln_const 1 hx hb dX0_takeOne_4 (by decide) ?_
  refine ln_isub ((bmany (L, t)) - 1) hx hb dX0_takeOne_5 (by omega) (by first | rfl | omega) ?_
  refine lv_aload_n hx hb dX0_takeOne_6 rfl (lv_at hl 1 rfl) ?_
  refine lv_aload_n hx hb dX0_takeOne_7 rfl (lv_at hl 0 rfl) ?_
  refine va_get (D := Z.1) (ci := 0) (v := .int (nI t)) (C := RX0) (T := TX0) (N := 2) hx hb hts iX0 hown hK hP 0 rfl rfl 1 (Nat.le_of_ble_eq_true rfl) qq_310 (fun _ h9 => h9) rfl dX0_takeOne_8 ?_
  refine x_Vi (y := yX4_sizeOf) (As := [.int (nI t)]) (wc := [(hp, .inr (4, [.ref s0, .ref s1])), (s0, xI Z 121 sz1), (s1, xI Z 484 lt1)]) (wr := [(vb, .inr (0, [.ref vq, .int (nI t)])), (vq, .inr (2, [.ref aq, .int (nI hd), .int (nI sz)])), (aq, xI Z 662 g)]) hC hP hD hS (c_sizeOf l Z hp s0 s1 sz1 lt1 (xprod R) hT t (by omega)) (gV wq_478 wq_622 wq_476 wq_477 wq_35) rfl kv_X4_sizeOf rfl rfl ⟨rfl, rfl⟩ rfl hl.1 rfl ⟨Nat.le_of_ble_eq_true rfl, Nat.le_of_ble_eq_true rfl⟩ [3, 4, 5] [0, 1, 2] rfl rfl (by decide) (by decide) (by decide) rfl dX0_takeOne_11 (fun r11 w1 H locs hw hP hD hS => ?_)
  obtain ⟨rfl, rfl⟩ := hw
  have hP : va_P Z.1 vwCl [(vb, .inr (0, [.ref vq, .int (nI t)])), (vq, .inr (2, [.ref aq, .int (nI hd), .int (nI sz)])), (aq, xI Z 662 g), (hp, .inr (4, [.ref s0, .ref s1])), (s0, xI Z 121 sz1), (s1, xI Z 484 lt1)] H := hP
  have hD : va_D A [(vb, .inr (0, [.ref vq, .int (nI t)])), (vq, .inr (2, [.ref aq, .int (nI hd), .int (nI sz)])), (aq, xI Z 662 g), (hp, .inr (4, [.ref s0, .ref s1])), (s0, xI Z 121 sz1), (s1, xI Z 484 lt1)] := hD
  refine ln_bipush 121 hx hb dX0_takeOne_14 (by decide) ?_
  refine ln_imul (((tapp ((xprod R)) t).length) * 121) hx hb dX0_takeOne_16 (by first | rfl | omega) ?_
  refine ln_iadd (((bmany (L, t)) - 1) + (((tapp ((xprod R)) t).length) * 121)) hx hb dX0_takeOne_17 (by first | rfl | omega) ?_
  refine lv_ldc (v := nI 80000) hx hb hown qq_603 dX0_takeOne_18 ?_
  refine ln_icmp_le (tgt := 25) hx hb dX0_takeOne_20 (by decide) (by omega) (by omega) (fun h20 => ?_) (fun h20 => ?_)
  · refine lv_aload_n hx hb dX0_takeOne_25 rfl (lv_at hl 1 rfl) ?_
    refine lv_aload_n hx hb dX0_takeOne_26 rfl (lv_at hl 0 rfl) ?_
    refine va_get (D := Z.1) (ci := 0) (v := .ref vq) (C := RX0) (T := TX0) (N := 2) hx hb hts iX0 hown hK hP 0 rfl rfl 0 (Nat.le_of_ble_eq_true rfl) qq_308 (fun _ h9 => h9) rfl dX0_takeOne_27 ?_
    refine lv_aload_n hx hb dX0_takeOne_30 rfl (lv_at hl 0 rfl) ?_
    refine va_get (D := Z.1) (ci := 0) (v := .int (nI t)) (C := RX0) (T := TX0) (N := 2) hx hb hts iX0 hown hK hP 0 rfl rfl 1 (Nat.le_of_ble_eq_true rfl) qq_310 (fun _ h9 => h9) rfl dX0_takeOne_31 ?_
    refine x_Vv (y := yX4_appendTo) (As := [.ref vq, .int (nI t)]) (wc := [(hp, .inr (4, [.ref s0, .ref s1])), (s0, xI Z 121 sz1), (s1, xI Z 484 lt1), (vq, .inr (2, [.ref aq, .int (nI hd), .int (nI sz)])), (aq, xI Z 662 g)]) (wr := [(vb, .inr (0, [.ref vq, .int (nI t)]))]) hC hP hD hS (c_X4_appendTo l Z hp s0 s1 sz1 lt1 (xprod R) hT vq aq 662 hd sz g L (by decide) hR hsz t (by omega) (by omega)) (gV wq_552 wq_635 wq_550 wq_551 wq_35) rfl kv_X4_appendTo rfl rfl ⟨rfl, rfl⟩ rfl hl.1 rfl ⟨Nat.le_of_ble_eq_true rfl, Nat.le_of_ble_eq_true rfl⟩ [3, 4, 5, 1, 2] [0] rfl rfl (by decide) (by decide) (by decide) rfl dX0_takeOne_34 (fun w1 H locs hw hP hD hS => ?_)
    obtain ⟨g2, hg2, rfl⟩ := hw
    have hP := hP.sub (ws' := [(vb, .inr (0, [.ref vq, .int (nI t)])), (vq, .inr (2, [.ref aq, .int (nI hd), .int (nI (sz + (tapp (xprod R) t).length))])), (aq, xI Z 662 g2), (hp, .inr (4, [.ref s0, .ref s1])), (s0, xI Z 121 sz1), (s1, xI Z 484 lt1)]) [0, 4, 5, 1, 2, 3] rfl
    have hD := hD.sub (ws' := [(vb, .inr (0, [.ref vq, .int (nI t)])), (vq, .inr (2, [.ref aq, .int (nI hd), .int (nI (sz + (tapp (xprod R) t).length))])), (aq, xI Z 662 g2), (hp, .inr (4, [.ref s0, .ref s1])), (s0, xI Z 121 sz1), (s1, xI Z 484 lt1)]) [0, 4, 5, 1, 2, 3] (by decide) rfl
    refine lv_aload_n hx hb dX0_takeOne_37 rfl (lv_at hl 0 rfl) ?_
    refine ln_const 1 hx hb dX0_takeOne_38 (by decide) ?_
    refine x_Vv (y := yX0_pass) (As := [.int (nI 1)]) (wc := [(vb, .inr (0, [.ref vq, .int (nI t)])), (vq, .inr (2, [.ref aq, .int (nI hd), .int (nI (sz + (tapp (xprod R) t).length))])), (aq, xI Z 662 g2)]) (wr := [(hp, .inr (4, [.ref s0, .ref s1])), (s0, xI Z 121 sz1), (s1, xI Z 484 lt1)]) hC hP hD hS (c_X0_pass l Z vb vq aq hd (sz + (tapp (xprod R) t).length) t g2 (L ++ tapp (xprod R) t) hg2 (by rw [List.length_append]; omega) 1 (by omega) (by rw [List.length_append]; omega)) (gV wq_639 wq_636 wq_638 wq_14 wq_44) rfl kv_X0_pass rfl rfl ⟨rfl, rfl⟩ rfl hl.1 rfl ⟨Nat.le_of_ble_eq_true rfl, Nat.le_of_ble_eq_true rfl⟩ [0, 1, 2] [3, 4, 5] rfl rfl (by decide) (by decide) (by decide) rfl dX0_takeOne_39 (fun w1 H locs hw hP hD hS => ?_)
    obtain ⟨hd2, hR2p, rfl⟩ := hw
    have hP := hP.sub (ws' := [(vb, .inr (0, [.ref vq, .int (nI ((bpk 1 (L ++ tapp (xprod R) t, t)).2))])), (vq, .inr (2, [.ref aq, .int (nI hd2), .int (nI ((bpk 1 (L ++ tapp (xprod R) t, t)).1.length))])), (aq, xI Z 662 g2), (hp, .inr (4, [.ref s0, .ref s1])), (s0, xI Z 121 sz1), (s1, xI Z 484 lt1)]) [3, 4, 5, 0, 1, 2] rfl
    have hD := hD.sub (ws' := [(vb, .inr (0, [.ref vq, .int (nI ((bpk 1 (L ++ tapp (xprod R) t, t)).2))])), (vq, .inr (2, [.ref aq, .int (nI hd2), .int (nI ((bpk 1 (L ++ tapp (xprod R) t, t)).1.length))])), (aq, xI Z 662 g2), (hp, .inr (4, [.ref s0, .ref s1])), (s0, xI Z 121 sz1), (s1, xI Z 484 lt1)]) [3, 4, 5, 0, 1, 2] (by decide) rfl
    refine ln_const 1 hx hb dX0_takeOne_42 (by decide) ?_
    exact x_iret hC hr hk hP hD hS dX0_takeOne_43 (Or.inr ⟨bpk 1 (L ++ tapp (xprod R) t, t), hd2, g2, by unfold bstep; dsimp only; rw [if_neg (show ¬ (t = 0 ∧ (L.length < 2 ∨ (xprod R (L.getD 0 0)).length = 0)) from hs), if_pos h0, if_neg (by rw [← hta]; omega), bpk_1 b1, hta], hR2p, rfl, rfl⟩)
  · refine ln_const 0 hx hb dX0_takeOne_23 (by decide) ?_
    exact x_iret hC hr hk hP hD hS dX0_takeOne_24 (Or.inl ⟨by unfold bstep; dsimp only; rw [if_neg (show ¬ (t = 0 ∧ (L.length < 2 ∨ (xprod R (L.getD 0 0)).length = 0)) from hs), if_pos h0, if_pos (by rw [← hta]; omega)], rfl, rfl⟩)

theorem kv_X0_isStill : yX0_isStill.cls = RX0 ∧ yX0_isStill.cls ≠ "java/lang/invoke/MethodHandle" ∧ yX0_isStill.cls ≠ "java/lang/invoke/VarHandle" ∧ (parseMethodDescriptor yX0_isStill.desc).map (fun d => d.parameters.length) = some 1 := by decide +kernel
theorem kv_X0_takeOne : yX0_takeOne.cls = RX0 ∧ yX0_takeOne.cls ≠ "java/lang/invoke/MethodHandle" ∧ yX0_takeOne.cls ≠ "java/lang/invoke/VarHandle" ∧ (parseMethodDescriptor yX0_takeOne.desc).map (fun d => d.parameters.length) = some 1 := by decide +kernel
set_option maxHeartbeats 4000000 in
set_option maxRecDepth 100000 in
theorem c_X0_take (l : Launch) (Z : xZ) (vb vq aq hd sz t : Nat) (g : Nat → Nat) (L : List Nat) (hR : RR 662 hd g L) (hsz : sz = L.length) (hB : BV (L, t)) (hp s0 s1 : Nat) (sz1 lt1 : Nat → Nat) (R : xRl) (hV : RV R) (hT : TR (xprod R) sz1 lt1) (m1 : Nat) (hm : 1 ≤ m1 ∧ m1 ≤ 30000) : xMi l Z yX0_take vX0_take ({ frames := 4, cells := 0, slots := 0, locals := 89 } : Room) [.ref vb, .int (nI m1), .ref hp] [(vb, .inr (0, [.ref vq, .int (nI t)])), (vq, .inr (2, [.ref aq, .int (nI hd), .int (nI sz)])), (aq, xI Z 662 g), (hp, .inr (4, [.ref s0, .ref s1])), (s0, xI Z 121 sz1), (s1, xI Z 484 lt1)] (fun r w => (bstep R (L, t) = none ∧ r = nI 0 ∧ w = [(vb, .inr (0, [.ref vq, .int (nI t)])), (vq, .inr (2, [.ref aq, .int (nI hd), .int (nI sz)])), (aq, xI Z 662 g), (hp, .inr (4, [.ref s0, .ref s1])), (s0, xI Z 121 sz1), (s1, xI Z 484 lt1)]) ∨ (∃ k P hd2 g2, 1 ≤ k ∧ k ≤ m1 ∧ xit (bstep R) k (L, t) = some P ∧ RR 662 hd2 g2 P.1 ∧ r = nI k ∧ w = [(vb, .inr (0, [.ref vq, .int (nI P.2)])), (vq, .inr (2, [.ref aq, .int (nI hd2), .int (nI P.1.length)])), (aq, xI Z 662 g2), (hp, .inr (4, [.ref s0, .ref s1])), (s0, xI Z 121 sz1), (s1, xI Z 484 lt1)])) := by
  refine x_i (by decide) rfl (Nat.le_of_ble_eq_true rfl) ?_
  intro p e s m args below meth c ls A hC hr hk hl hP hD hS
  have hx := hC.1.1
  have hb := hC.1.2.1
  have hml := hC.1.2.2.1
  have hown : s.vm.findClass RX0 = some m.cls := hC.1.2.2.2.1
  have hts := hC.1.2.2.2.2
  have hK := hC.2.1
  have qq_308 := hts (Cond.fieldLink RX0 14 "TagTower$Bits" "row" "LTagTower$LetterRow;") (List.mem_cons_of_mem _ wq_308)
  have iX0 : ∀ w ∈ wsX00, w ∈ vX0_take := fun w h => List.mem_cons_of_mem _ (wi_X0 w h)
  have qq_641 := hts (Cond.methodLink RX0 67 Lib.Math.min.name) (List.mem_cons_of_mem _ wq_641)
  have qq_205 := hts (Cond.static Lib.Math.min.name) (List.mem_cons_of_mem _ wq_205)
  have qq_40 := hts (Cond.initialized "java/lang/Math") (List.mem_cons_of_mem _ wq_40)
  have qq_206 := hts (Cond.code Lib.Math.min.name Lib.Math.min.code 2 (some .int)) (List.mem_cons_of_mem _ wq_206)
  have hl : lv_has ls 7 [(0, .ref vb), (1, .int (nI m1)), (2, .ref hp)] := hl
  have hP : va_P Z.1 vwCl [(vb, .inr (0, [.ref vq, .int (nI t)])), (vq, .inr (2, [.ref aq, .int (nI hd), .int (nI sz)])), (aq, xI Z 662 g), (hp, .inr (4, [.ref s0, .ref s1])), (s0, xI Z 121 sz1), (s1, xI Z 484 lt1)] s.heap := hP
  have hD : va_D A [(vb, .inr (0, [.ref vq, .int (nI t)])), (vq, .inr (2, [.ref aq, .int (nI hd), .int (nI sz)])), (aq, xI Z 662 g), (hp, .inr (4, [.ref s0, .ref s1])), (s0, xI Z 121 sz1), (s1, xI Z 484 lt1)] := hD
  have hR1 := hR.1
  have hR2 := hR.2.1
  obtain ⟨b1, b2, b3, b4, b5⟩ := id hB
  unfold bmany at b3
  dsimp only at b1 b2 b3 b4 b5
  have hmd := Nat.mod_lt t (show 0 < 121 by decide)
  refine lv_aload_n hx hb dX0_take_0 rfl (lv_at hl 0 rfl) ?_
  refine lv_aload_n hx hb dX0_take_1 rfl (lv_at hl 2 rfl) ?_
  refine x_Vi (y := yX0_isStill) (As := [.ref hp]) (wc := [(vb, .inr (0, [.ref vq, .int (nI t)])), (vq, .inr (2, [.ref aq, .int (nI hd), .int (nI sz)])), (aq, xI Z 662 g), (hp, .inr (4, [.ref s0, .ref s1])), (s0, xI Z 121 sz1), (s1, xI Z 484 lt1)]) (wr := []) hC hP hD hS (c_X0_isStill l Z vb vq aq hd sz t g L hR hsz hB hp s0 s1 sz1 lt1 R hV hT) (gV wq_620 wq_617 wq_618 wq_619 wq_44) rfl kv_X0_isStill rfl rfl ⟨rfl, rfl⟩ rfl hl.1 rfl ⟨Nat.le_of_ble_eq_true rfl, Nat.le_of_ble_eq_true rfl⟩ [0, 1, 2, 3, 4, 5] ([] : List Nat) rfl rfl (by decide) (by decide) (by decide) rfl dX0_take_2 (fun r2 w1 H locs hw hP hD hS => ?_)
  rcases hw with ⟨hst, rfl, rfl⟩ | ⟨hst, rfl, rfl⟩
  · have hP : va_P Z.1 vwCl [(vb, .inr (0, [.ref vq, .int (nI t)])), (vq, .inr (2, [.ref aq, .int (nI hd), .int (nI sz)])), (aq, xI Z 662 g), (hp, .inr (4, [.ref s0, .ref s1])), (s0, xI Z 121 sz1), (s1, xI Z 484 lt1)] H := hP
    have hD : va_D A [(vb, .inr (0, [.ref vq, .int (nI t)])), (vq, .inr (2, [.ref aq, .int (nI hd), .int (nI sz)])), (aq, xI Z 662 g), (hp, .inr (4, [.ref s0, .ref s1])), (s0, xI Z 121 sz1), (s1, xI Z 484 lt1)] := hD
    refine ln_if_eq (tgt := 10) hx hb dX0_take_5 (by decide) (by omega) (fun h5 => False.elim (by omega)) (fun h5 => ?_)
    refine ln_const 0 hx hb dX0_take_8 (by decide) ?_
    exact x_iret hC hr hk hP hD hS dX0_take_9 (Or.inl ⟨by unfold bstep; dsimp only; rw [if_pos (show t = 0 ∧ (L.length < 2 ∨ (xprod R (L.getD 0 0)).length = 0) from hst)], rfl, rfl⟩)
  · have hP : va_P Z.1 vwCl [(vb, .inr (0, [.ref vq, .int (nI t)])), (vq, .inr (2, [.ref aq, .int (nI hd), .int (nI sz)])), (aq, xI Z 662 g), (hp, .inr (4, [.ref s0, .ref s1])), (s0, xI Z 121 sz1), (s1, xI Z 484 lt1)] H := hP
    have hD : va_D A [(vb, .inr (0, [.ref vq, .int (nI t)])), (vq, .inr (2, [.ref aq, .int (nI hd), .int (nI sz)])), (aq, xI Z 662 g), (hp, .inr (4, [.ref s0, .ref s1])), (s0, xI Z 121 sz1), (s1, xI Z 484 lt1)] := hD
    refine ln_if_eq (tgt := 10) hx hb dX0_take_5 (by decide) (by omega) (fun h5 => ?_) (fun h5 => False.elim (by omega))
    refine lv_aload_n hx hb dX0_take_10 rfl (lv_at hl 0 rfl) ?_
    refine x_Vi (y := yX0_gone) (As := []) (wc := [(vb, .inr (0, [.ref vq, .int (nI t)]))]) (wr := [(vq, .inr (2, [.ref aq, .int (nI hd), .int (nI sz)])), (aq, xI Z 662 g), (hp, .inr (4, [.ref s0, .ref s1])), (s0, xI Z 121 sz1), (s1, xI Z 484 lt1)]) hC hP hD hS (c_X0_gone l Z vb vq t (by omega)) (gV wq_626 wq_623 wq_625 wq_12 wq_44) rfl kv_X0_gone rfl rfl ⟨rfl, rfl⟩ rfl hl.1 rfl ⟨Nat.le_of_ble_eq_true rfl, Nat.le_of_ble_eq_true rfl⟩ [0] [1, 2, 3, 4, 5] rfl rfl (by decide) (by decide) (by decide) rfl dX0_take_11 (fun r11 w1 H locs hw hP hD hS => ?_)
    obtain ⟨rfl, rfl⟩ := hw
    have hP := hP.sub (ws' := [(vb, .inr (0, [.ref vq, .int (nI t)])), (vq, .inr (2, [.ref aq, .int (nI hd), .int (nI sz)])), (aq, xI Z 662 g), (hp, .inr (4, [.ref s0, .ref s1])), (s0, xI Z 121 sz1), (s1, xI Z 484 lt1)]) [5, 0, 1, 2, 3, 4] rfl
    have hD := hD.sub (ws' := [(vb, .inr (0, [.ref vq, .int (nI t)])), (vq, .inr (2, [.ref aq, .int (nI hd), .int (nI sz)])), (aq, xI Z 662 g), (hp, .inr (4, [.ref s0, .ref s1])), (s0, xI Z 121 sz1), (s1, xI Z 484 lt1)]) [5, 0, 1, 2, 3, 4] (by decide) rfl
    refine lv_istore_n (lv' := [(3, .int (nI (t % 121))), (0, .ref vb), (1, .int (nI m1)), (2, .ref hp)]) hx hb dX0_take_14 rfl hl (by decide) rfl (fun ls hl => ?_)
    refine lv_aload_n hx hb dX0_take_15 rfl (lv_at hl 1 rfl) ?_
    refine va_get (D := Z.1) (ci := 0) (v := .ref vq) (C := RX0) (T := TX0) (N := 2) hx hb hts iX0 hown hK hP 0 rfl rfl 0 (Nat.le_of_ble_eq_true rfl) qq_308 (fun _ h9 => h9) rfl dX0_take_16 ?_
    refine ln_const 0 hx hb dX0_take_19 (by decide) ?_
    obtain ⟨b6, b7⟩ := hB.one hst
    refine x_Vi (y := yX2_get) (As := [.int (nI 0)]) (wc := [(vq, .inr (2, [.ref aq, .int (nI hd), .int (nI sz)])), (aq, xI Z 662 g)]) (wr := [(vb, .inr (0, [.ref vq, .int (nI t)])), (hp, .inr (4, [.ref s0, .ref s1])), (s0, xI Z 121 sz1), (s1, xI Z 484 lt1)]) hC hP hD hS (c_X2_get_in l Z vq aq 662 hd sz g L (by omega) hR hsz 0 (by omega)) (gV wq_524 wq_621 wq_522 wq_523 wq_43) rfl kv_X2_get rfl rfl ⟨rfl, rfl⟩ rfl hl.1 rfl ⟨Nat.le_of_ble_eq_true rfl, Nat.le_of_ble_eq_true rfl⟩ [1, 2] [0, 3, 4, 5] rfl rfl (by decide) (by decide) (by decide) rfl dX0_take_20 (fun r20 w1 H locs hw hP hD hS => ?_)
    obtain ⟨rfl, rfl⟩ := hw
    have hP := hP.sub (ws' := [(vb, .inr (0, [.ref vq, .int (nI t)])), (vq, .inr (2, [.ref aq, .int (nI hd), .int (nI sz)])), (aq, xI Z 662 g), (hp, .inr (4, [.ref s0, .ref s1])), (s0, xI Z 121 sz1), (s1, xI Z 484 lt1)]) [0, 4, 5, 1, 2, 3] rfl
    have hD := hD.sub (ws' := [(vb, .inr (0, [.ref vq, .int (nI t)])), (vq, .inr (2, [.ref aq, .int (nI hd), .int (nI sz)])), (aq, xI Z 662 g), (hp, .inr (4, [.ref s0, .ref s1])), (s0, xI Z 121 sz1), (s1, xI Z 484 lt1)]) [0, 4, 5, 1, 2, 3] (by decide) rfl
    have hz := b2 _ (getD_mem (w := L) (i := 0) (by omega))
    refine lv_istore (lv' := [(4, .int (nI (L.getD 0 0))), (3, .int (nI (t % 121))), (0, .ref vb), (1, .int (nI m1)), (2, .ref hp)]) hx hb dX0_take_23 hl (by decide) rfl (fun ls hl => ?_)
    refine lv_iload_n hx hb dX0_take_25 rfl (lv_at hl 1 rfl) ?_
    refine lv_iload hx hb dX0_take_26 (lv_at hl 0 rfl) ?_
    refine ln_icmp_ne (tgt := 37) hx hb dX0_take_28 (by decide) (by omega) (by omega) (fun h28 => ?_) (fun h28 => ?_)
    · refine lv_iload_n hx hb dX0_take_37 rfl (lv_at hl 1 rfl) ?_
      refine lv_iload hx hb dX0_take_38 (lv_at hl 0 rfl) ?_
      refine ln_icmp_ge (tgt := 50) hx hb dX0_take_40 (by decide) (by omega) (by omega) (fun h40 => ?_) (fun h40 => ?_)
      · refine ln_bipush 121 hx hb dX0_take_50 (by decide) ?_
        refine lv_iload_n hx hb dX0_take_52 rfl (lv_at hl 1 rfl) ?_
        refine ln_isub (121 - (t % 121)) hx hb dX0_take_53 (by omega) (by first | rfl | omega) ?_
        refine lv_istore (lv' := [(5, .int (nI (121 - (t % 121)))), (4, .int (nI (L.getD 0 0))), (3, .int (nI (t % 121))), (0, .ref vb), (1, .int (nI m1)), (2, .ref hp)]) hx hb dX0_take_54 hl (by decide) rfl (fun ls hl => ?_)
        refine lv_iload hx hb dX0_take_56 (lv_at hl 0 rfl) ?_
        refine lv_iload_n hx hb dX0_take_58 rfl (lv_at hl 4 rfl) ?_
        obtain ⟨kk, hkk⟩ : ∃ z, z + 1 = min (121 - (t % 121)) m1 := ⟨min (121 - (t % 121)) m1 - 1, by omega⟩
        refine va_mmin hx hb (by rw [hml]; exact hl.1.symm) hown qq_641 qq_205 qq_40 qq_206 (Nat.le_of_ble_eq_true rfl) (Nat.le_of_ble_eq_true rfl) (Nat.le_of_ble_eq_true rfl) (Nat.le_of_ble_eq_true rfl) dX0_take_59 ?_
        refine ln_top (y := nI (kk + 1)) (by rw [nI_min (by omega) (by omega), hkk]) ?_
        refine lv_istore (lv' := [(6, .int (nI (kk + 1))), (5, .int (nI (121 - (t % 121)))), (4, .int (nI (L.getD 0 0))), (3, .int (nI (t % 121))), (0, .ref vb), (1, .int (nI m1)), (2, .ref hp)]) hx hb dX0_take_62 hl (by decide) rfl (fun ls hl => ?_)
        refine lv_aload_n hx hb dX0_take_64 rfl (lv_at hl 4 rfl) ?_
        refine lv_iload hx hb dX0_take_65 (lv_at hl 0 rfl) ?_
        refine x_Vv (y := yX0_pass) (As := [.int (nI (kk + 1))]) (wc := [(vb, .inr (0, [.ref vq, .int (nI t)])), (vq, .inr (2, [.ref aq, .int (nI hd), .int (nI sz)])), (aq, xI Z 662 g)]) (wr := [(hp, .inr (4, [.ref s0, .ref s1])), (s0, xI Z 121 sz1), (s1, xI Z 484 lt1)]) hC hP hD hS (c_X0_pass l Z vb vq aq hd sz t g (L) hR (hsz) (kk + 1) (by omega) (b6)) (gV wq_639 wq_636 wq_638 wq_14 wq_44) rfl kv_X0_pass rfl rfl ⟨rfl, rfl⟩ rfl hl.1 rfl ⟨Nat.le_of_ble_eq_true rfl, Nat.le_of_ble_eq_true rfl⟩ [0, 1, 2] [3, 4, 5] rfl rfl (by decide) (by decide) (by decide) rfl dX0_take_67 (fun w1 H locs hw hP hD hS => ?_)
        obtain ⟨hd2, hR2p, rfl⟩ := hw
        have hP := hP.sub (ws' := [(vb, .inr (0, [.ref vq, .int (nI ((bpk (kk + 1) (L, t)).2))])), (vq, .inr (2, [.ref aq, .int (nI hd2), .int (nI ((bpk (kk + 1) (L, t)).1.length))])), (aq, xI Z 662 g), (hp, .inr (4, [.ref s0, .ref s1])), (s0, xI Z 121 sz1), (s1, xI Z 484 lt1)]) [3, 4, 5, 0, 1, 2] rfl
        have hD := hD.sub (ws' := [(vb, .inr (0, [.ref vq, .int (nI ((bpk (kk + 1) (L, t)).2))])), (vq, .inr (2, [.ref aq, .int (nI hd2), .int (nI ((bpk (kk + 1) (L, t)).1.length))])), (aq, xI Z 662 g), (hp, .inr (4, [.ref s0, .ref s1])), (s0, xI Z 121 sz1), (s1, xI Z 484 lt1)]) [3, 4, 5, 0, 1, 2] (by decide) rfl
        refine lv_iload hx hb dX0_take_70 (lv_at hl 0 rfl) ?_
        exact x_iret hC hr hk hP hD hS dX0_take_72 (Or.inr ⟨kk + 1, bpk (kk + 1) (L, t), hd2, g, by omega, by omega, bzeros R L kk t b1 hst (fun j hj => by omega) (by omega), hR2p, rfl, rfl⟩)
      · refine lv_iload hx hb dX0_take_43 (lv_at hl 0 rfl) ?_
        refine lv_iload_n hx hb dX0_take_45 rfl (lv_at hl 1 rfl) ?_
        refine ln_isub ((L.getD 0 0) - (t % 121)) hx hb dX0_take_46 (by omega) (by first | rfl | omega) ?_
        refine lv_goto (tgt := 54) hx hb dX0_take_47 (by decide) ?_
        refine lv_istore (lv' := [(5, .int (nI ((L.getD 0 0) - (t % 121)))), (4, .int (nI (L.getD 0 0))), (3, .int (nI (t % 121))), (0, .ref vb), (1, .int (nI m1)), (2, .ref hp)]) hx hb dX0_take_54 hl (by decide) rfl (fun ls hl => ?_)
        refine lv_iload hx hb dX0_take_56 (lv_at hl 0 rfl) ?_
        refine lv_iload_n hx hb dX0_take_58 rfl (lv_at hl 4 rfl) ?_
        obtain ⟨kk, hkk⟩ : ∃ z, z + 1 = min ((L.getD 0 0) - (t % 121)) m1 := ⟨min ((L.getD 0 0) - (t % 121)) m1 - 1, by omega⟩
        refine va_mmin hx hb (by rw [hml]; exact hl.1.symm) hown qq_641 qq_205 qq_40 qq_206 (Nat.le_of_ble_eq_true rfl) (Nat.le_of_ble_eq_true rfl) (Nat.le_of_ble_eq_true rfl) (Nat.le_of_ble_eq_true rfl) dX0_take_59 ?_
        refine ln_top (y := nI (kk + 1)) (by rw [nI_min (by omega) (by omega), hkk]) ?_
        refine lv_istore (lv' := [(6, .int (nI (kk + 1))), (5, .int (nI ((L.getD 0 0) - (t % 121)))), (4, .int (nI (L.getD 0 0))), (3, .int (nI (t % 121))), (0, .ref vb), (1, .int (nI m1)), (2, .ref hp)]) hx hb dX0_take_62 hl (by decide) rfl (fun ls hl => ?_)
        refine lv_aload_n hx hb dX0_take_64 rfl (lv_at hl 4 rfl) ?_
        refine lv_iload hx hb dX0_take_65 (lv_at hl 0 rfl) ?_
        refine x_Vv (y := yX0_pass) (As := [.int (nI (kk + 1))]) (wc := [(vb, .inr (0, [.ref vq, .int (nI t)])), (vq, .inr (2, [.ref aq, .int (nI hd), .int (nI sz)])), (aq, xI Z 662 g)]) (wr := [(hp, .inr (4, [.ref s0, .ref s1])), (s0, xI Z 121 sz1), (s1, xI Z 484 lt1)]) hC hP hD hS (c_X0_pass l Z vb vq aq hd sz t g (L) hR (hsz) (kk + 1) (by omega) (b6)) (gV wq_639 wq_636 wq_638 wq_14 wq_44) rfl kv_X0_pass rfl rfl ⟨rfl, rfl⟩ rfl hl.1 rfl ⟨Nat.le_of_ble_eq_true rfl, Nat.le_of_ble_eq_true rfl⟩ [0, 1, 2] [3, 4, 5] rfl rfl (by decide) (by decide) (by decide) rfl dX0_take_67 (fun w1 H locs hw hP hD hS => ?_)
        obtain ⟨hd2, hR2p, rfl⟩ := hw
        have hP := hP.sub (ws' := [(vb, .inr (0, [.ref vq, .int (nI ((bpk (kk + 1) (L, t)).2))])), (vq, .inr (2, [.ref aq, .int (nI hd2), .int (nI ((bpk (kk + 1) (L, t)).1.length))])), (aq, xI Z 662 g), (hp, .inr (4, [.ref s0, .ref s1])), (s0, xI Z 121 sz1), (s1, xI Z 484 lt1)]) [3, 4, 5, 0, 1, 2] rfl
        have hD := hD.sub (ws' := [(vb, .inr (0, [.ref vq, .int (nI ((bpk (kk + 1) (L, t)).2))])), (vq, .inr (2, [.ref aq, .int (nI hd2), .int (nI ((bpk (kk + 1) (L, t)).1.length))])), (aq, xI Z 662 g), (hp, .inr (4, [.ref s0, .ref s1])), (s0, xI Z 121 sz1), (s1, xI Z 484 lt1)]) [3, 4, 5, 0, 1, 2] (by decide) rfl
        refine lv_iload hx hb dX0_take_70 (lv_at hl 0 rfl) ?_
        exact x_iret hC hr hk hP hD hS dX0_take_72 (Or.inr ⟨kk + 1, bpk (kk + 1) (L, t), hd2, g, by omega, by omega, bzeros R L kk t b1 hst (fun j hj => by omega) (by omega), hR2p, rfl, rfl⟩)
    · refine lv_aload_n hx hb dX0_take_31 rfl (lv_at hl 2 rfl) ?_
      refine lv_aload_n hx hb dX0_take_32 rfl (lv_at hl 4 rfl) ?_
      refine x_Vi (y := yX0_takeOne) (As := [.ref hp]) (wc := [(vb, .inr (0, [.ref vq, .int (nI t)])), (vq, .inr (2, [.ref aq, .int (nI hd), .int (nI sz)])), (aq, xI Z 662 g), (hp, .inr (4, [.ref s0, .ref s1])), (s0, xI Z 121 sz1), (s1, xI Z 484 lt1)]) (wr := []) hC hP hD hS (c_X0_takeOne l Z vb vq aq hd sz t g L hR hsz hB hp s0 s1 sz1 lt1 R hV hT hst h28.symm) (gV wq_630 wq_627 wq_629 wq_13 wq_44) rfl kv_X0_takeOne rfl rfl ⟨rfl, rfl⟩ rfl hl.1 rfl ⟨Nat.le_of_ble_eq_true rfl, Nat.le_of_ble_eq_true rfl⟩ [0, 1, 2, 3, 4, 5] ([] : List Nat) rfl rfl (by decide) (by decide) (by decide) rfl dX0_take_33 (fun r33 w1 H locs hw hP hD hS => ?_)
      rcases hw with ⟨hno, rfl, rfl⟩ | ⟨P, hd2, g2, hsome, hR2p, rfl, rfl⟩
      · have hP : va_P Z.1 vwCl [(vb, .inr (0, [.ref vq, .int (nI t)])), (vq, .inr (2, [.ref aq, .int (nI hd), .int (nI sz)])), (aq, xI Z 662 g), (hp, .inr (4, [.ref s0, .ref s1])), (s0, xI Z 121 sz1), (s1, xI Z 484 lt1)] H := hP
        have hD : va_D A [(vb, .inr (0, [.ref vq, .int (nI t)])), (vq, .inr (2, [.ref aq, .int (nI hd), .int (nI sz)])), (aq, xI Z 662 g), (hp, .inr (4, [.ref s0, .ref s1])), (s0, xI Z 121 sz1), (s1, xI Z 484 lt1)] := hD
        exact x_iret hC hr hk hP hD hS dX0_take_36 (Or.inl ⟨hno, rfl, rfl⟩)
      · have hP : va_P Z.1 vwCl [(vb, .inr (0, [.ref vq, .int (nI P.2)])), (vq, .inr (2, [.ref aq, .int (nI hd2), .int (nI P.1.length)])), (aq, xI Z 662 g2), (hp, .inr (4, [.ref s0, .ref s1])), (s0, xI Z 121 sz1), (s1, xI Z 484 lt1)] H := hP
        have hD : va_D A [(vb, .inr (0, [.ref vq, .int (nI P.2)])), (vq, .inr (2, [.ref aq, .int (nI hd2), .int (nI P.1.length)])), (aq, xI Z 662 g2), (hp, .inr (4, [.ref s0, .ref s1])), (s0, xI Z 121 sz1), (s1, xI Z 484 lt1)] := hD
        exact x_iret hC hr hk hP hD hS dX0_take_36 (Or.inr ⟨1, P, hd2, g2, Nat.le_refl 1, hm.1, by simp only [xit, hsome], hR2p, rfl, rfl⟩)

theorem xit_ok {R : xRl} (hV : RV R) : ∀ k {s s' : List Nat × Nat}, BV s → xit (bstep R) k s = some s' → BV s'
  | 0, s, s', h, e => by simp only [xit, Option.some.injEq] at e; rw [← e]; exact h
  | k + 1, s, s', h, e => by
    simp only [xit] at e
    cases e1 : bstep R s with
    | none => rw [e1] at e; cases e
    | some s1 =>
      rw [e1] at e
      exact xit_ok hV k (bstep_ok hV h e1) e

theorem kv_X0_take : yX0_take.cls = RX0 ∧ yX0_take.cls ≠ "java/lang/invoke/MethodHandle" ∧ yX0_take.cls ≠ "java/lang/invoke/VarHandle" ∧ (parseMethodDescriptor yX0_take.desc).map (fun d => d.parameters.length) = some 2 := by decide +kernel
set_option maxHeartbeats 4000000 in
set_option maxRecDepth 100000 in
theorem c_X0_doSteps (l : Launch) (Z : xZ) (vb vq aq hd sz t : Nat) (g : Nat → Nat) (L : List Nat) (hR : RR 662 hd g L) (hsz : sz = L.length) (hB : BV (L, t)) (hp s0 s1 : Nat) (sz1 lt1 : Nat → Nat) (R : xRl) (hV : RV R) (hT : TR (xprod R) sz1 lt1) (n : Nat) (hn : n ≤ 30000) : xMi l Z yX0_doSteps vX0_doSteps ({ frames := 5, cells := 0, slots := 0, locals := 115 } : Room) [.ref vb, .int (nI n), .ref hp] [(vb, .inr (0, [.ref vq, .int (nI t)])), (vq, .inr (2, [.ref aq, .int (nI hd), .int (nI sz)])), (aq, xI Z 662 g), (hp, .inr (4, [.ref s0, .ref s1])), (s0, xI Z 121 sz1), (s1, xI Z 484 lt1)] (fun r w => ∃ k P hd2 g2, xrun (bstep R) n (L, t) = (k, P) ∧ RR 662 hd2 g2 P.1 ∧ BV P ∧ r = nI k ∧ w = [(vb, .inr (0, [.ref vq, .int (nI P.2)])), (vq, .inr (2, [.ref aq, .int (nI hd2), .int (nI P.1.length)])), (aq, xI Z 662 g2), (hp, .inr (4, [.ref s0, .ref s1])), (s0, xI Z 121 sz1), (s1, xI Z 484 lt1)]) := by
  refine x_i (by decide) rfl (Nat.le_of_ble_eq_true rfl) ?_
  intro p e s m args below meth c ls A hC hr hk hl hP hD hS
  have hx := hC.1.1
  have hb := hC.1.2.1
  have hml := hC.1.2.2.1
  have hown : s.vm.findClass RX0 = some m.cls := hC.1.2.2.2.1
  have hts := hC.1.2.2.2.2
  have hK := hC.2.1
  have hl : lv_has ls 5 [(0, .ref vb), (1, .int (nI n)), (2, .ref hp)] := hl
  have hP : va_P Z.1 vwCl [(vb, .inr (0, [.ref vq, .int (nI t)])), (vq, .inr (2, [.ref aq, .int (nI hd), .int (nI sz)])), (aq, xI Z 662 g), (hp, .inr (4, [.ref s0, .ref s1])), (s0, xI Z 121 sz1), (s1, xI Z 484 lt1)] s.heap := hP
  have hD : va_D A [(vb, .inr (0, [.ref vq, .int (nI t)])), (vq, .inr (2, [.ref aq, .int (nI hd), .int (nI sz)])), (aq, xI Z 662 g), (hp, .inr (4, [.ref s0, .ref s1])), (s0, xI Z 121 sz1), (s1, xI Z 484 lt1)] := hD
  refine ln_const 0 hx hb dX0_doSteps_0 (by decide) ?_
  refine lv_istore_n (lv' := [(3, .int (nI 0)), (0, .ref vb), (1, .int (nI n)), (2, .ref hp)]) hx hb dX0_doSteps_1 rfl hl (by decide) rfl (fun ls hl => ?_)
  have hloop2 : ∀ (nn : Nat) (k hd1 sz2 t1 : Nat) (g1 : Nat → Nat) (L1 : List Nat) (H : Heap) (locs : List Loc) (ls : Array Slot) (hX : XR (bstep R) n (L, t) k (L1, t1)) (hR1 : RR 662 hd1 g1 L1) (hs1 : sz2 = L1.length) (hB1 : BV (L1, t1)) (hmu : n - k < nn) (hP : va_P Z.1 vwCl [(vb, .inr (0, [.ref vq, .int (nI t1)])), (vq, .inr (2, [.ref aq, .int (nI hd1), .int (nI sz2)])), (aq, xI Z 662 g1), (hp, .inr (4, [.ref s0, .ref s1])), (s0, xI Z 121 sz1), (s1, xI Z 484 lt1)] H) (hD : va_D A [(vb, .inr (0, [.ref vq, .int (nI t1)])), (vq, .inr (2, [.ref aq, .int (nI hd1), .int (nI sz2)])), (aq, xI Z 662 g1), (hp, .inr (4, [.ref s0, .ref s1])), (s0, xI Z 121 sz1), (s1, xI Z 484 lt1)]) (hS : va_S A s.heap H locs) (hl : lv_has ls 5 [(0, .ref vb), (1, .int (nI n)), (2, .ref hp), (3, .int (nI k))]), W p l e ({ frames := 5, cells := 0, slots := 0, locals := 115 } : Room) s m args below meth c H locs 0 0 (MQ below (va_Qi (fun r w => ∃ k P hd2 g2, xrun (bstep R) n (L, t) = (k, P) ∧ RR 662 hd2 g2 P.1 ∧ BV P ∧ r = nI k ∧ w = [(vb, .inr (0, [.ref vq, .int (nI P.2)])), (vq, .inr (2, [.ref aq, .int (nI hd2), .int (nI P.1.length)])), (aq, xI Z 662 g2), (hp, .inr (4, [.ref s0, .ref s1])), (s0, xI Z 121 sz1), (s1, xI Z 484 lt1)]) (xB Z A) A) args s ({ frames := 5, cells := 0, slots := 0, locals := 115 } : Room).cells ({ frames := 5, cells := 0, slots := 0, locals := 115 } : Room).slots A) (F0 m 2 ls []) := by
    intro nn
    induction nn with
    | zero => intro k hd1 sz2 t1 g1 L1 H locs ls hX hR1 hs1 hB1 hmu; exact absurd hmu (Nat.not_lt_zero _)
    | succ nn ih =>
      intro k hd1 sz2 t1 g1 L1 H locs ls hX hR1 hs1 hB1 hmu hP hD hS hl
      have hk1 := hX.1
      refine lv_iload_n hx hb dX0_doSteps_2 rfl (lv_at hl 3 rfl) ?_
      refine lv_iload_n hx hb dX0_doSteps_3 rfl (lv_at hl 1 rfl) ?_
      refine ln_icmp_ge (tgt := 32) hx hb dX0_doSteps_4 (by decide) (by omega) (by omega) (fun h4 => ?_) (fun h4 => ?_)
      · refine lv_iload_n hx hb dX0_doSteps_32 rfl (lv_at hl 3 rfl) ?_
        exact x_iret hC hr hk hP hD hS dX0_doSteps_33 ⟨k, (L1, t1), hd1, g1, hX.full (by omega), hR1, hB1, rfl, by rw [hs1]⟩
      · refine lv_aload_n hx hb dX0_doSteps_7 rfl (lv_at hl 0 rfl) ?_
        refine lv_iload_n hx hb dX0_doSteps_8 rfl (lv_at hl 1 rfl) ?_
        refine lv_iload_n hx hb dX0_doSteps_9 rfl (lv_at hl 3 rfl) ?_
        refine ln_isub (n - k) hx hb dX0_doSteps_10 (by omega) (by first | rfl | omega) ?_
        refine lv_aload_n hx hb dX0_doSteps_11 rfl (lv_at hl 2 rfl) ?_
        refine x_Vi (y := yX0_take) (As := [.int (nI (n - k)), .ref hp]) (wc := [(vb, .inr (0, [.ref vq, .int (nI t1)])), (vq, .inr (2, [.ref aq, .int (nI hd1), .int (nI sz2)])), (aq, xI Z 662 g1), (hp, .inr (4, [.ref s0, .ref s1])), (s0, xI Z 121 sz1), (s1, xI Z 484 lt1)]) (wr := []) hC hP hD hS (c_X0_take l Z vb vq aq hd1 sz2 t1 g1 L1 hR1 hs1 hB1 hp s0 s1 sz1 lt1 R hV hT (n - k) (by omega)) (gV wq_616 wq_613 wq_615 wq_11 wq_44) rfl kv_X0_take rfl rfl ⟨rfl, rfl⟩ rfl hl.1 rfl ⟨Nat.le_of_ble_eq_true rfl, Nat.le_of_ble_eq_true rfl⟩ [0, 1, 2, 3, 4, 5] ([] : List Nat) rfl rfl (by decide) (by decide) (by decide) rfl dX0_doSteps_12 (fun r12 w1 H locs hw hP hD hS => ?_)
        rcases hw with ⟨hno, rfl, rfl⟩ | ⟨k2, P, hd2, g2, hk21, hk22, hit, hR2, rfl, rfl⟩
        · have hP : va_P Z.1 vwCl [(vb, .inr (0, [.ref vq, .int (nI t1)])), (vq, .inr (2, [.ref aq, .int (nI hd1), .int (nI sz2)])), (aq, xI Z 662 g1), (hp, .inr (4, [.ref s0, .ref s1])), (s0, xI Z 121 sz1), (s1, xI Z 484 lt1)] H := hP
          have hD : va_D A [(vb, .inr (0, [.ref vq, .int (nI t1)])), (vq, .inr (2, [.ref aq, .int (nI hd1), .int (nI sz2)])), (aq, xI Z 662 g1), (hp, .inr (4, [.ref s0, .ref s1])), (s0, xI Z 121 sz1), (s1, xI Z 484 lt1)] := hD
          refine lv_istore (lv' := [(4, .int (nI 0)), (0, .ref vb), (1, .int (nI n)), (2, .ref hp), (3, .int (nI k))]) hx hb dX0_doSteps_15 hl (by decide) rfl (fun ls hl => ?_)
          refine lv_iload hx hb dX0_doSteps_17 (lv_at hl 0 rfl) ?_
          refine ln_if_gt (tgt := 24) hx hb dX0_doSteps_19 (by decide) (by omega) (fun h19 => False.elim (by omega)) (fun h19 => ?_)
          refine lv_iload_n hx hb dX0_doSteps_22 rfl (lv_at hl 4 rfl) ?_
          exact x_iret hC hr hk hP hD hS dX0_doSteps_23 ⟨k, (L1, t1), hd1, g1, hX.stop hno, hR1, hB1, rfl, by rw [hs1]⟩
        · have hP : va_P Z.1 vwCl [(vb, .inr (0, [.ref vq, .int (nI P.2)])), (vq, .inr (2, [.ref aq, .int (nI hd2), .int (nI P.1.length)])), (aq, xI Z 662 g2), (hp, .inr (4, [.ref s0, .ref s1])), (s0, xI Z 121 sz1), (s1, xI Z 484 lt1)] H := hP
          have hD : va_D A [(vb, .inr (0, [.ref vq, .int (nI P.2)])), (vq, .inr (2, [.ref aq, .int (nI hd2), .int (nI P.1.length)])), (aq, xI Z 662 g2), (hp, .inr (4, [.ref s0, .ref s1])), (s0, xI Z 121 sz1), (s1, xI Z 484 lt1)] := hD
          refine lv_istore (lv' := [(4, .int (nI k2)), (0, .ref vb), (1, .int (nI n)), (2, .ref hp), (3, .int (nI k))]) hx hb dX0_doSteps_15 hl (by decide) rfl (fun ls hl => ?_)
          refine lv_iload hx hb dX0_doSteps_17 (lv_at hl 0 rfl) ?_
          refine ln_if_gt (tgt := 24) hx hb dX0_doSteps_19 (by decide) (by omega) (fun h19 => ?_) (fun h19 => False.elim (by omega))
          refine lv_iload_n hx hb dX0_doSteps_24 rfl (lv_at hl 4 rfl) ?_
          refine lv_iload hx hb dX0_doSteps_25 (lv_at hl 0 rfl) ?_
          refine ln_iadd (k + k2) hx hb dX0_doSteps_27 (by first | rfl | omega) ?_
          refine lv_istore_n (lv' := [(3, .int (nI (k + k2))), (4, .int (nI k2)), (0, .ref vb), (1, .int (nI n)), (2, .ref hp)]) hx hb dX0_doSteps_28 rfl hl (by decide) rfl (fun ls hl => ?_)
          refine lv_goto (tgt := 2) hx hb dX0_doSteps_29 (by decide) ?_
          exact ih  (k + k2) hd2 P.1.length P.2 g2 P.1 _ _ _ (XR.steps k2 k hX (by omega) hit) hR2 rfl (xit_ok hV k2 hB1 hit) (by omega) hP hD hS (lv_sub hl [2, 3, 4, 0] rfl)
  exact hloop2 ((n - 0) + 1) 0 hd sz t g L _ _ _ (XR.beg _ _ _) hR hsz hB (Nat.lt_succ_self _) hP hD hS (lv_sub hl [1, 2, 3, 0] rfl)
end
