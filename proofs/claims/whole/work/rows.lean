section
-- ===== PART A: goes FIRST, ahead of the names: the tables' words, and 'selects' of the private methods out of them =====
/-- a private method of a class that the tables say can be made, by its rows of tables_1 -/
def lw_okq (q : MethodName × Nat) : Prop := (q.1.cls ≠ "java/lang/invoke/MethodHandle" ∧ q.1.cls ≠ "java/lang/invoke/VarHandle") ∧ Cond.instantiable q.1.cls q.2 ∈ tables_1 ∧ Cond.privateMethod q.1 ∈ tables_1 ∧ Cond.instanceMethod q.1 ∈ tables_1
theorem lw_p0 : lw_okq (⟨"TagTower$Productions", "write", "(Ljava/lang/String;II)V"⟩, 2) := ⟨⟨by decide +kernel, by decide +kernel⟩, List.mem_of_getElem? (i := 92) (by decide +kernel), List.mem_of_getElem? (i := 103) (by decide +kernel), List.mem_of_getElem? (i := 104) (by decide +kernel)⟩
theorem lw_p1 : lw_okq (⟨"TagTower$Productions", "append", "(II)V"⟩, 2) := ⟨⟨by decide +kernel, by decide +kernel⟩, List.mem_of_getElem? (i := 92) (by decide +kernel), List.mem_of_getElem? (i := 224) (by decide +kernel), List.mem_of_getElem? (i := 225) (by decide +kernel)⟩
theorem lw_p2 : lw_okq (⟨"TagTower$Counters", "doLine", "()Z"⟩, 7) := ⟨⟨by decide +kernel, by decide +kernel⟩, List.mem_of_getElem? (i := 24) (by decide +kernel), List.mem_of_getElem? (i := 346) (by decide +kernel), List.mem_of_getElem? (i := 347) (by decide +kernel)⟩
theorem lw_p3 : lw_okq (⟨"TagTower$Counters", "countUp", "(I)Z"⟩, 7) := ⟨⟨by decide +kernel, by decide +kernel⟩, List.mem_of_getElem? (i := 24) (by decide +kernel), List.mem_of_getElem? (i := 351) (by decide +kernel), List.mem_of_getElem? (i := 352) (by decide +kernel)⟩
theorem lw_p4 : lw_okq (⟨"TagTower$Counters", "countDown", "(I)Z"⟩, 7) := ⟨⟨by decide +kernel, by decide +kernel⟩, List.mem_of_getElem? (i := 24) (by decide +kernel), List.mem_of_getElem? (i := 355) (by decide +kernel), List.mem_of_getElem? (i := 356) (by decide +kernel)⟩
theorem lw_p5 : lw_okq (⟨"TagTower$Machine", "doStep", "()Z"⟩, 9) := ⟨⟨by decide +kernel, by decide +kernel⟩, List.mem_of_getElem? (i := 53) (by decide +kernel), List.mem_of_getElem? (i := 419) (by decide +kernel), List.mem_of_getElem? (i := 420) (by decide +kernel)⟩
theorem lw_p6 : lw_okq (⟨"TagTower$Word", "appendTwos", "(II)V"⟩, 2) := ⟨⟨by decide +kernel, by decide +kernel⟩, List.mem_of_getElem? (i := 236) (by decide +kernel), List.mem_of_getElem? (i := 462) (by decide +kernel), List.mem_of_getElem? (i := 463) (by decide +kernel)⟩
theorem lw_p7 : lw_okq (⟨"TagTower$LetterRow", "wrapped", "(I)I"⟩, 3) := ⟨⟨by decide +kernel, by decide +kernel⟩, List.mem_of_getElem? (i := 242) (by decide +kernel), List.mem_of_getElem? (i := 470) (by decide +kernel), List.mem_of_getElem? (i := 471) (by decide +kernel)⟩
theorem lw_p8 : lw_okq (⟨"TagTower$Word", "doStep", "(LTagTower$Productions;)Z"⟩, 2) := ⟨⟨by decide +kernel, by decide +kernel⟩, List.mem_of_getElem? (i := 236) (by decide +kernel), List.mem_of_getElem? (i := 508) (by decide +kernel), List.mem_of_getElem? (i := 509) (by decide +kernel)⟩
theorem lw_p9 : lw_okq (⟨"TagTower$Word", "middle", "()I"⟩, 2) := ⟨⟨by decide +kernel, by decide +kernel⟩, List.mem_of_getElem? (i := 236) (by decide +kernel), List.mem_of_getElem? (i := 539) (by decide +kernel), List.mem_of_getElem? (i := 540) (by decide +kernel)⟩
theorem lw_p10 : lw_okq (⟨"TagTower$Word", "behindTwos", "(II)I"⟩, 2) := ⟨⟨by decide +kernel, by decide +kernel⟩, List.mem_of_getElem? (i := 236) (by decide +kernel), List.mem_of_getElem? (i := 543) (by decide +kernel), List.mem_of_getElem? (i := 544) (by decide +kernel)⟩
theorem lw_p11 : lw_okq (⟨"TagTower$Bits", "take", "(ILTagTower$Productions;)I"⟩, 2) := ⟨⟨by decide +kernel, by decide +kernel⟩, List.mem_of_getElem? (i := 270) (by decide +kernel), List.mem_of_getElem? (i := 583) (by decide +kernel), List.mem_of_getElem? (i := 584) (by decide +kernel)⟩
theorem lw_p12 : lw_okq (⟨"TagTower$Bits", "gone", "()I"⟩, 2) := ⟨⟨by decide +kernel, by decide +kernel⟩, List.mem_of_getElem? (i := 270) (by decide +kernel), List.mem_of_getElem? (i := 593) (by decide +kernel), List.mem_of_getElem? (i := 594) (by decide +kernel)⟩
theorem lw_p13 : lw_okq (⟨"TagTower$Bits", "takeOne", "(LTagTower$Productions;)I"⟩, 2) := ⟨⟨by decide +kernel, by decide +kernel⟩, List.mem_of_getElem? (i := 270) (by decide +kernel), List.mem_of_getElem? (i := 597) (by decide +kernel), List.mem_of_getElem? (i := 598) (by decide +kernel)⟩
theorem lw_p14 : lw_okq (⟨"TagTower$Bits", "pass", "(I)V"⟩, 2) := ⟨⟨by decide +kernel, by decide +kernel⟩, List.mem_of_getElem? (i := 270) (by decide +kernel), List.mem_of_getElem? (i := 606) (by decide +kernel), List.mem_of_getElem? (i := 607) (by decide +kernel)⟩
theorem lw_p15 : lw_okq (⟨"TagTowerModel", "mayDo", "()Z"⟩, 29) := ⟨⟨by decide +kernel, by decide +kernel⟩, List.mem_of_getElem? (i := 637) (by decide +kernel), List.mem_of_getElem? (i := 760) (by decide +kernel), List.mem_of_getElem? (i := 761) (by decide +kernel)⟩
def lw_privs_1 : List (MethodName × Nat) := [(⟨"TagTower$Productions", "write", "(Ljava/lang/String;II)V"⟩, 2), (⟨"TagTower$Productions", "append", "(II)V"⟩, 2), (⟨"TagTower$Counters", "doLine", "()Z"⟩, 7), (⟨"TagTower$Counters", "countUp", "(I)Z"⟩, 7), (⟨"TagTower$Counters", "countDown", "(I)Z"⟩, 7), (⟨"TagTower$Machine", "doStep", "()Z"⟩, 9), (⟨"TagTower$Word", "appendTwos", "(II)V"⟩, 2), (⟨"TagTower$LetterRow", "wrapped", "(I)I"⟩, 3), (⟨"TagTower$Word", "doStep", "(LTagTower$Productions;)Z"⟩, 2), (⟨"TagTower$Word", "middle", "()I"⟩, 2), (⟨"TagTower$Word", "behindTwos", "(II)I"⟩, 2), (⟨"TagTower$Bits", "take", "(ILTagTower$Productions;)I"⟩, 2), (⟨"TagTower$Bits", "gone", "()I"⟩, 2), (⟨"TagTower$Bits", "takeOne", "(LTagTower$Productions;)I"⟩, 2), (⟨"TagTower$Bits", "pass", "(I)V"⟩, 2), (⟨"TagTowerModel", "mayDo", "()Z"⟩, 29)]
theorem lw_r1 : ∀ q ∈ lw_privs_1, lw_okq q := List.forall_mem_cons.mpr ⟨lw_p0, List.forall_mem_cons.mpr ⟨lw_p1, List.forall_mem_cons.mpr ⟨lw_p2, List.forall_mem_cons.mpr ⟨lw_p3, List.forall_mem_cons.mpr ⟨lw_p4, List.forall_mem_cons.mpr ⟨lw_p5, List.forall_mem_cons.mpr ⟨lw_p6, List.forall_mem_cons.mpr ⟨lw_p7, List.forall_mem_cons.mpr ⟨lw_p8, List.forall_mem_cons.mpr ⟨lw_p9, List.forall_mem_cons.mpr ⟨lw_p10, List.forall_mem_cons.mpr ⟨lw_p11, List.forall_mem_cons.mpr ⟨lw_p12, List.forall_mem_cons.mpr ⟨lw_p13, List.forall_mem_cons.mpr ⟨lw_p14, List.forall_mem_cons.mpr ⟨lw_p15, fun _ h => absurd h List.not_mem_nil⟩⟩⟩⟩⟩⟩⟩⟩⟩⟩⟩⟩⟩⟩⟩⟩
theorem lw_p16 : lw_okq (⟨"TagTowerModel", "mayMove", "()Z"⟩, 29) := ⟨⟨by decide +kernel, by decide +kernel⟩, List.mem_of_getElem? (i := 637) (by decide +kernel), List.mem_of_getElem? (i := 792) (by decide +kernel), List.mem_of_getElem? (i := 793) (by decide +kernel)⟩
theorem lw_p17 : lw_okq (⟨"TagTowerModel", "produce", "(I)V"⟩, 29) := ⟨⟨by decide +kernel, by decide +kernel⟩, List.mem_of_getElem? (i := 637) (by decide +kernel), List.mem_of_getElem? (i := 806) (by decide +kernel), List.mem_of_getElem? (i := 807) (by decide +kernel)⟩
theorem lw_p18 : lw_okq (⟨"TagTowerModel", "one", "(I)V"⟩, 29) := ⟨⟨by decide +kernel, by decide +kernel⟩, List.mem_of_getElem? (i := 637) (by decide +kernel), List.mem_of_getElem? (i := 813) (by decide +kernel), List.mem_of_getElem? (i := 814) (by decide +kernel)⟩
theorem lw_p19 : lw_okq (⟨"TagTowerModel", "makes", "(I)V"⟩, 29) := ⟨⟨by decide +kernel, by decide +kernel⟩, List.mem_of_getElem? (i := 637) (by decide +kernel), List.mem_of_getElem? (i := 817) (by decide +kernel), List.mem_of_getElem? (i := 818) (by decide +kernel)⟩
theorem lw_p20 : lw_okq (⟨"TagTowerModel", "produceRuled", "(IIII)V"⟩, 29) := ⟨⟨by decide +kernel, by decide +kernel⟩, List.mem_of_getElem? (i := 637) (by decide +kernel), List.mem_of_getElem? (i := 821) (by decide +kernel), List.mem_of_getElem? (i := 822) (by decide +kernel)⟩
theorem lw_p21 : lw_okq (⟨"TagTowerModel", "doubled", "(IZ)V"⟩, 29) := ⟨⟨by decide +kernel, by decide +kernel⟩, List.mem_of_getElem? (i := 637) (by decide +kernel), List.mem_of_getElem? (i := 825) (by decide +kernel), List.mem_of_getElem? (i := 826) (by decide +kernel)⟩
theorem lw_p22 : lw_okq (⟨"TagTowerModel", "puts", "(I)V"⟩, 29) := ⟨⟨by decide +kernel, by decide +kernel⟩, List.mem_of_getElem? (i := 637) (by decide +kernel), List.mem_of_getElem? (i := 833) (by decide +kernel), List.mem_of_getElem? (i := 834) (by decide +kernel)⟩
theorem lw_p23 : lw_okq (⟨"TagTowerModel", "letterAt", "(I)I"⟩, 29) := ⟨⟨by decide +kernel, by decide +kernel⟩, List.mem_of_getElem? (i := 637) (by decide +kernel), List.mem_of_getElem? (i := 849) (by decide +kernel), List.mem_of_getElem? (i := 850) (by decide +kernel)⟩
theorem lw_p24 : lw_okq (⟨"TagTowerModel", "tags", "()Z"⟩, 29) := ⟨⟨by decide +kernel, by decide +kernel⟩, List.mem_of_getElem? (i := 637) (by decide +kernel), List.mem_of_getElem? (i := 862) (by decide +kernel), List.mem_of_getElem? (i := 863) (by decide +kernel)⟩
theorem lw_p25 : lw_okq (⟨"TagTowerModel", "tells", "()Z"⟩, 29) := ⟨⟨by decide +kernel, by decide +kernel⟩, List.mem_of_getElem? (i := 637) (by decide +kernel), List.mem_of_getElem? (i := 870) (by decide +kernel), List.mem_of_getElem? (i := 871) (by decide +kernel)⟩
theorem lw_p26 : lw_okq (⟨"TagTowerModel", "putBit", "(I)V"⟩, 29) := ⟨⟨by decide +kernel, by decide +kernel⟩, List.mem_of_getElem? (i := 637) (by decide +kernel), List.mem_of_getElem? (i := 888) (by decide +kernel), List.mem_of_getElem? (i := 889) (by decide +kernel)⟩
theorem lw_p27 : lw_okq (⟨"TagTowerModel", "cycles", "()Z"⟩, 29) := ⟨⟨by decide +kernel, by decide +kernel⟩, List.mem_of_getElem? (i := 637) (by decide +kernel), List.mem_of_getElem? (i := 897) (by decide +kernel), List.mem_of_getElem? (i := 898) (by decide +kernel)⟩
theorem lw_p28 : lw_okq (⟨"TagTowerModel", "isStill", "()Z"⟩, 29) := ⟨⟨by decide +kernel, by decide +kernel⟩, List.mem_of_getElem? (i := 637) (by decide +kernel), List.mem_of_getElem? (i := 901) (by decide +kernel), List.mem_of_getElem? (i := 902) (by decide +kernel)⟩
theorem lw_p29 : lw_okq (⟨"TagTowerModel", "letterOf", "(I)I"⟩, 29) := ⟨⟨by decide +kernel, by decide +kernel⟩, List.mem_of_getElem? (i := 637) (by decide +kernel), List.mem_of_getElem? (i := 905) (by decide +kernel), List.mem_of_getElem? (i := 906) (by decide +kernel)⟩
theorem lw_p30 : lw_okq (⟨"TagTowerModel", "bitAt", "(I)I"⟩, 29) := ⟨⟨by decide +kernel, by decide +kernel⟩, List.mem_of_getElem? (i := 637) (by decide +kernel), List.mem_of_getElem? (i := 909) (by decide +kernel), List.mem_of_getElem? (i := 910) (by decide +kernel)⟩
def lw_privs_2 : List (MethodName × Nat) := [(⟨"TagTowerModel", "mayMove", "()Z"⟩, 29), (⟨"TagTowerModel", "produce", "(I)V"⟩, 29), (⟨"TagTowerModel", "one", "(I)V"⟩, 29), (⟨"TagTowerModel", "makes", "(I)V"⟩, 29), (⟨"TagTowerModel", "produceRuled", "(IIII)V"⟩, 29), (⟨"TagTowerModel", "doubled", "(IZ)V"⟩, 29), (⟨"TagTowerModel", "puts", "(I)V"⟩, 29), (⟨"TagTowerModel", "letterAt", "(I)I"⟩, 29), (⟨"TagTowerModel", "tags", "()Z"⟩, 29), (⟨"TagTowerModel", "tells", "()Z"⟩, 29), (⟨"TagTowerModel", "putBit", "(I)V"⟩, 29), (⟨"TagTowerModel", "cycles", "()Z"⟩, 29), (⟨"TagTowerModel", "isStill", "()Z"⟩, 29), (⟨"TagTowerModel", "letterOf", "(I)I"⟩, 29), (⟨"TagTowerModel", "bitAt", "(I)I"⟩, 29)]
theorem lw_r2 : ∀ q ∈ lw_privs_2, lw_okq q := List.forall_mem_cons.mpr ⟨lw_p16, List.forall_mem_cons.mpr ⟨lw_p17, List.forall_mem_cons.mpr ⟨lw_p18, List.forall_mem_cons.mpr ⟨lw_p19, List.forall_mem_cons.mpr ⟨lw_p20, List.forall_mem_cons.mpr ⟨lw_p21, List.forall_mem_cons.mpr ⟨lw_p22, List.forall_mem_cons.mpr ⟨lw_p23, List.forall_mem_cons.mpr ⟨lw_p24, List.forall_mem_cons.mpr ⟨lw_p25, List.forall_mem_cons.mpr ⟨lw_p26, List.forall_mem_cons.mpr ⟨lw_p27, List.forall_mem_cons.mpr ⟨lw_p28, List.forall_mem_cons.mpr ⟨lw_p29, List.forall_mem_cons.mpr ⟨lw_p30, fun _ h => absurd h List.not_mem_nil⟩⟩⟩⟩⟩⟩⟩⟩⟩⟩⟩⟩⟩⟩⟩
def lw_privs : List (MethodName × Nat) := lw_privs_1 ++ (lw_privs_2)
def lw_tbl : List Cond := k2_sels lw_privs ++ tables_1
theorem lw_privs_ok : ∀ q ∈ lw_privs, lw_okq q := by
  show ∀ q ∈ lw_privs_1 ++ (lw_privs_2), lw_okq q
  exact List.forall_mem_append.mpr ⟨lw_r1, lw_r2⟩
-- ===== end of PART A; then your names; then what follows =====
end
section
/-! ===== BEGIN words of one list among another's, by their places ===== -/
theorem goodIn_r {big : List Cond} (ws : List Cond) (ps : List Nat) (hp : ws = ps.filterMap (fun i => big[i]?)) (h : ws.all goodWord = true) : GoodIn big ws := by
  intro w hw
  have h1 := List.all_eq_true.mp h w hw
  rw [hp] at hw
  obtain ⟨i, -, hi⟩ := List.mem_filterMap.mp hw
  have hm : w ∈ big := by first | exact List.mem_of_getElem? hi | exact List.getElem?_mem hi
  exact ⟨hm, good_of_word h1⟩
theorem goodIn_app {big a b : List Cond} (ha : GoodIn big a) (hb : GoodIn big b) : GoodIn big (a ++ b) := fun w h => (List.mem_append.mp h).elim (ha w) (hb w)
theorem goodIn_ca {big a b : List Cond} {c : Cond} (ha : GoodIn big (c :: a)) (hb : GoodIn big b) : GoodIn big (c :: (a ++ b)) := fun w h => (List.mem_cons.mp h).elim (fun e => ha w (List.mem_cons.mpr (Or.inl e))) (fun h => (List.mem_append.mp h).elim (fun h => ha w (List.mem_cons.mpr (Or.inr h))) (hb w))
theorem goodIn_sub {big ws : List Cond} (hm : ∀ w ∈ ws, w ∈ big) (h : ws.all goodWord = true) : GoodIn big ws := fun w hw => ⟨hm w hw, good_of_word (List.all_eq_true.mp h w hw)⟩
/-! ===== END ===== -/

/-! ===== BEGIN printed: names, fields, word lists, decode rows ===== -/
def RX0 : String := "TagTower$Bits"
def TX0 : u_T := fun k => match k with
  | 0 => ("TagTower$Bits", "row", "LTagTower$LetterRow;", true)
  | _ => ("TagTower$Bits", "turn", "I", false)
def tyX0 : Nat → FieldType := fun k => match k with
  | 0 => .object "TagTower$LetterRow"
  | _ => .int
abbrev wsX00 : List Cond := u_ws RX0 TX0 2
theorem nmX0 : ∀ a, a < 2 → ∀ b, b < 2 → a ≠ b → (TX0 a).2.1 ≠ (TX0 b).2.1 := by decide +kernel
theorem tyX0_ok : ∀ k, k < 2 → parseFieldDescriptor (TX0 k).2.2.1 = some (tyX0 k) := by decide +kernel
abbrev cX0_init : ByteArray := prog_2_method_1_code
def yX0_init : MethodName := ⟨RX0, "<init>", "()V"⟩
abbrev cX0_layWord : ByteArray := prog_2_method_2_code
def yX0_layWord : MethodName := ⟨RX0, "layWord", "(LTagTower$LetterRow;)I"⟩
abbrev cX0_size : ByteArray := prog_2_method_3_code
def yX0_size : MethodName := ⟨RX0, "size", "()I"⟩
abbrev cX0_gone : ByteArray := prog_2_method_4_code
def yX0_gone : MethodName := ⟨RX0, "gone", "()I"⟩
abbrev cX0_get : ByteArray := prog_2_method_5_code
def yX0_get : MethodName := ⟨RX0, "get", "(I)I"⟩
abbrev cX0_ones : ByteArray := prog_2_method_6_code
def yX0_ones : MethodName := ⟨RX0, "ones", "()I"⟩
abbrev cX0_isStill : ByteArray := prog_2_method_7_code
def yX0_isStill : MethodName := ⟨RX0, "isStill", "(LTagTower$Productions;)Z"⟩
abbrev cX0_doSteps : ByteArray := prog_2_method_8_code
def yX0_doSteps : MethodName := ⟨RX0, "doSteps", "(ILTagTower$Productions;)I"⟩
abbrev cX0_take : ByteArray := prog_2_method_9_code
def yX0_take : MethodName := ⟨RX0, "take", "(ILTagTower$Productions;)I"⟩
abbrev cX0_takeOne : ByteArray := prog_2_method_10_code
def yX0_takeOne : MethodName := ⟨RX0, "takeOne", "(LTagTower$Productions;)I"⟩
abbrev cX0_pass : ByteArray := prog_2_method_11_code
def yX0_pass : MethodName := ⟨RX0, "pass", "(I)V"⟩
def RX1 : String := "TagTower$Counters"
def TX1 : u_T := fun k => match k with
  | 0 => ("TagTower$Counters", "values", "[I", true)
  | 1 => ("TagTower$Counters", "ops", "[I", true)
  | 2 => ("TagTower$Counters", "worked", "[I", true)
  | 3 => ("TagTower$Counters", "onward", "[I", true)
  | 4 => ("TagTower$Counters", "ifZero", "[I", true)
  | 5 => ("TagTower$Counters", "lines", "I", false)
  | _ => ("TagTower$Counters", "now", "I", false)
def tyX1 : Nat → FieldType := fun k => match k with
  | 0 => .array .int
  | 1 => .array .int
  | 2 => .array .int
  | 3 => .array .int
  | 4 => .array .int
  | 5 => .int
  | _ => .int
abbrev wsX10 : List Cond := u_ws RX1 TX1 7
theorem nmX1 : ∀ a, a < 7 → ∀ b, b < 7 → a ≠ b → (TX1 a).2.1 ≠ (TX1 b).2.1 := by decide +kernel
theorem tyX1_ok : ∀ k, k < 7 → parseFieldDescriptor (TX1 k).2.2.1 = some (tyX1 k) := by decide +kernel
abbrev cX1_init : ByteArray := prog_3_method_1_code
def yX1_init : MethodName := ⟨RX1, "<init>", "()V"⟩
abbrev cX1_addLine : ByteArray := prog_3_method_2_code
def yX1_addLine : MethodName := ⟨RX1, "addLine", "(IIII)I"⟩
abbrev cX1_forgetLines : ByteArray := prog_3_method_3_code
def yX1_forgetLines : MethodName := ⟨RX1, "forgetLines", "()I"⟩
abbrev cX1_value : ByteArray := prog_3_method_4_code
def yX1_value : MethodName := ⟨RX1, "value", "(I)I"⟩
abbrev cX1_putValue : ByteArray := prog_3_method_5_code
def yX1_putValue : MethodName := ⟨RX1, "putValue", "(II)I"⟩
abbrev cX1_lineNow : ByteArray := prog_3_method_6_code
def yX1_lineNow : MethodName := ⟨RX1, "lineNow", "()I"⟩
abbrev cX1_jump : ByteArray := prog_3_method_7_code
def yX1_jump : MethodName := ⟨RX1, "jump", "(I)I"⟩
abbrev cX1_doLines : ByteArray := prog_3_method_8_code
def yX1_doLines : MethodName := ⟨RX1, "doLines", "(I)I"⟩
abbrev cX1_doLine : ByteArray := prog_3_method_9_code
def yX1_doLine : MethodName := ⟨RX1, "doLine", "()Z"⟩
abbrev cX1_countUp : ByteArray := prog_3_method_10_code
def yX1_countUp : MethodName := ⟨RX1, "countUp", "(I)Z"⟩
abbrev cX1_countDown : ByteArray := prog_3_method_11_code
def yX1_countDown : MethodName := ⟨RX1, "countDown", "(I)Z"⟩
def RX2 : String := "TagTower$LetterRow"
def TX2 : u_T := fun k => match k with
  | 0 => ("TagTower$LetterRow", "cells", "[I", true)
  | 1 => ("TagTower$LetterRow", "head", "I", false)
  | _ => ("TagTower$LetterRow", "size", "I", false)
def tyX2 : Nat → FieldType := fun k => match k with
  | 0 => .array .int
  | 1 => .int
  | _ => .int
abbrev wsX20 : List Cond := u_ws RX2 TX2 3
theorem nmX2 : ∀ a, a < 3 → ∀ b, b < 3 → a ≠ b → (TX2 a).2.1 ≠ (TX2 b).2.1 := by decide +kernel
theorem tyX2_ok : ∀ k, k < 3 → parseFieldDescriptor (TX2 k).2.2.1 = some (tyX2 k) := by decide +kernel
abbrev cX2_init : ByteArray := prog_4_method_1_code
def yX2_init : MethodName := ⟨RX2, "<init>", "(I)V"⟩
abbrev cX2_empty : ByteArray := prog_4_method_2_code
def yX2_empty : MethodName := ⟨RX2, "empty", "()V"⟩
abbrev cX2_get : ByteArray := prog_4_method_3_code
def yX2_get : MethodName := ⟨RX2, "get", "(I)I"⟩
abbrev cX2_append : ByteArray := prog_4_method_4_code
def yX2_append : MethodName := ⟨RX2, "append", "(I)V"⟩
abbrev cX2_drop : ByteArray := prog_4_method_5_code
def yX2_drop : MethodName := ⟨RX2, "drop", "(I)V"⟩
abbrev cX2_become : ByteArray := prog_4_method_6_code
def yX2_become : MethodName := ⟨RX2, "become", "(LTagTower$LetterRow;)V"⟩
abbrev cX2_wrapped : ByteArray := prog_4_method_7_code
def yX2_wrapped : MethodName := ⟨RX2, "wrapped", "(I)I"⟩
def RX3 : String := "TagTower$Machine"
def TX3 : u_T := fun k => match k with
  | 0 => ("TagTower$Machine", "ruled", "[Z", true)
  | 1 => ("TagTower$Machine", "signs", "[I", true)
  | 2 => ("TagTower$Machine", "ways", "[I", true)
  | 3 => ("TagTower$Machine", "states", "[I", true)
  | 4 => ("TagTower$Machine", "rules", "I", false)
  | 5 => ("TagTower$Machine", "state", "I", false)
  | 6 => ("TagTower$Machine", "sign", "I", false)
  | 7 => ("TagTower$Machine", "left", "I", false)
  | _ => ("TagTower$Machine", "right", "I", false)
def tyX3 : Nat → FieldType := fun k => match k with
  | 0 => .array .boolean
  | 1 => .array .int
  | 2 => .array .int
  | 3 => .array .int
  | 4 => .int
  | 5 => .int
  | 6 => .int
  | 7 => .int
  | _ => .int
abbrev wsX30 : List Cond := u_ws RX3 TX3 9
theorem nmX3 : ∀ a, a < 9 → ∀ b, b < 9 → a ≠ b → (TX3 a).2.1 ≠ (TX3 b).2.1 := by decide +kernel
theorem tyX3_ok : ∀ k, k < 9 → parseFieldDescriptor (TX3 k).2.2.1 = some (tyX3 k) := by decide +kernel
abbrev cX3_init : ByteArray := prog_5_method_1_code
def yX3_init : MethodName := ⟨RX3, "<init>", "()V"⟩
abbrev cX3_putRule : ByteArray := prog_5_method_2_code
def yX3_putRule : MethodName := ⟨RX3, "putRule", "(IIII)I"⟩
abbrev cX3_dropRule : ByteArray := prog_5_method_3_code
def yX3_dropRule : MethodName := ⟨RX3, "dropRule", "(I)I"⟩
abbrev cX3_putPlace : ByteArray := prog_5_method_4_code
def yX3_putPlace : MethodName := ⟨RX3, "putPlace", "(IIII)V"⟩
abbrev cX3_isStill : ByteArray := prog_5_method_5_code
def yX3_isStill : MethodName := ⟨RX3, "isStill", "()Z"⟩
abbrev cX3_doSteps : ByteArray := prog_5_method_6_code
def yX3_doSteps : MethodName := ⟨RX3, "doSteps", "(I)I"⟩
abbrev cX3_doStep : ByteArray := prog_5_method_7_code
def yX3_doStep : MethodName := ⟨RX3, "doStep", "()Z"⟩
def RX4 : String := "TagTower$Productions"
def TX4 : u_T := fun k => match k with
  | 0 => ("TagTower$Productions", "sizes", "[I", true)
  | _ => ("TagTower$Productions", "letters", "[I", true)
def tyX4 : Nat → FieldType := fun k => match k with
  | 0 => .array .int
  | _ => .array .int
abbrev wsX40 : List Cond := u_ws RX4 TX4 2
theorem nmX4 : ∀ a, a < 2 → ∀ b, b < 2 → a ≠ b → (TX4 a).2.1 ≠ (TX4 b).2.1 := by decide +kernel
theorem tyX4_ok : ∀ k, k < 2 → parseFieldDescriptor (TX4 k).2.2.1 = some (tyX4 k) := by decide +kernel
abbrev cX4_init : ByteArray := prog_6_method_1_code
def yX4_init : MethodName := ⟨RX4, "<init>", "()V"⟩
abbrev cX4_followNone : ByteArray := prog_6_method_2_code
def yX4_followNone : MethodName := ⟨RX4, "followNone", "(I)V"⟩
abbrev cX4_follow : ByteArray := prog_6_method_3_code
def yX4_follow : MethodName := ⟨RX4, "follow", "(IIII)V"⟩
abbrev cX4_write : ByteArray := prog_6_method_4_code
def yX4_write : MethodName := ⟨RX4, "write", "(Ljava/lang/String;II)V"⟩
abbrev cX4_pairMarked : ByteArray := prog_6_method_5_code
def yX4_pairMarked : MethodName := ⟨RX4, "pairMarked", "(CII)I"⟩
abbrev cX4_number : ByteArray := prog_6_method_6_code
def yX4_number : MethodName := ⟨RX4, "number", "(II)I"⟩
abbrev cX4_append : ByteArray := prog_6_method_7_code
def yX4_append : MethodName := ⟨RX4, "append", "(II)V"⟩
abbrev cX4_sizeOf : ByteArray := prog_6_method_8_code
def yX4_sizeOf : MethodName := ⟨RX4, "sizeOf", "(I)I"⟩
abbrev cX4_letterAt : ByteArray := prog_6_method_9_code
def yX4_letterAt : MethodName := ⟨RX4, "letterAt", "(II)I"⟩
abbrev cX4_bitAt : ByteArray := prog_6_method_10_code
def yX4_bitAt : MethodName := ⟨RX4, "bitAt", "(II)I"⟩
abbrev cX4_appendTo : ByteArray := prog_6_method_11_code
def yX4_appendTo : MethodName := ⟨RX4, "appendTo", "(LTagTower$LetterRow;I)V"⟩
def RX5 : String := "TagTower$Word"
def TX5 : u_T := fun k => match k with
  | 0 => ("TagTower$Word", "row", "LTagTower$LetterRow;", true)
  | _ => ("TagTower$Word", "kept", "LTagTower$LetterRow;", true)
def tyX5 : Nat → FieldType := fun k => match k with
  | 0 => .object "TagTower$LetterRow"
  | _ => .object "TagTower$LetterRow"
abbrev wsX50 : List Cond := u_ws RX5 TX5 2
theorem nmX5 : ∀ a, a < 2 → ∀ b, b < 2 → a ≠ b → (TX5 a).2.1 ≠ (TX5 b).2.1 := by decide +kernel
theorem tyX5_ok : ∀ k, k < 2 → parseFieldDescriptor (TX5 k).2.2.1 = some (tyX5 k) := by decide +kernel
abbrev cX5_init : ByteArray := prog_7_method_1_code
def yX5_init : MethodName := ⟨RX5, "<init>", "()V"⟩
abbrev cX5_layPlace : ByteArray := prog_7_method_2_code
def yX5_layPlace : MethodName := ⟨RX5, "layPlace", "(III)I"⟩
abbrev cX5_appendTwos : ByteArray := prog_7_method_3_code
def yX5_appendTwos : MethodName := ⟨RX5, "appendTwos", "(II)V"⟩
abbrev cX5_addLetter : ByteArray := prog_7_method_4_code
def yX5_addLetter : MethodName := ⟨RX5, "addLetter", "(I)I"⟩
abbrev cX5_doSteps : ByteArray := prog_7_method_5_code
def yX5_doSteps : MethodName := ⟨RX5, "doSteps", "(ILTagTower$Productions;)I"⟩
abbrev cX5_stepsToPlace : ByteArray := prog_7_method_6_code
def yX5_stepsToPlace : MethodName := ⟨RX5, "stepsToPlace", "(LTagTower$Productions;)I"⟩
abbrev cX5_doStep : ByteArray := prog_7_method_7_code
def yX5_doStep : MethodName := ⟨RX5, "doStep", "(LTagTower$Productions;)Z"⟩
abbrev cX5_tellPlace : ByteArray := prog_7_method_8_code
def yX5_tellPlace : MethodName := ⟨RX5, "tellPlace", "(I)I"⟩
abbrev cX5_middle : ByteArray := prog_7_method_9_code
def yX5_middle : MethodName := ⟨RX5, "middle", "()I"⟩
abbrev cX5_behindTwos : ByteArray := prog_7_method_10_code
def yX5_behindTwos : MethodName := ⟨RX5, "behindTwos", "(II)I"⟩
def RX6 : String := "TagTower"
def TX6 : u_T := fun k => match k with
  | 0 => ("TagTower", "counters", "LTagTower$Counters;", true)
  | 1 => ("TagTower", "machine", "LTagTower$Machine;", true)
  | 2 => ("TagTower", "productions", "LTagTower$Productions;", true)
  | 3 => ("TagTower", "word", "LTagTower$Word;", true)
  | _ => ("TagTower", "bitRow", "LTagTower$Bits;", true)
def tyX6 : Nat → FieldType := fun k => match k with
  | 0 => .object "TagTower$Counters"
  | 1 => .object "TagTower$Machine"
  | 2 => .object "TagTower$Productions"
  | 3 => .object "TagTower$Word"
  | _ => .object "TagTower$Bits"
abbrev wsX60 : List Cond := u_ws RX6 TX6 5
theorem nmX6 : ∀ a, a < 5 → ∀ b, b < 5 → a ≠ b → (TX6 a).2.1 ≠ (TX6 b).2.1 := by decide +kernel
theorem tyX6_ok : ∀ k, k < 5 → parseFieldDescriptor (TX6 k).2.2.1 = some (tyX6 k) := by decide +kernel
abbrev cX6_init : ByteArray := prog_1_method_1_code
def yX6_init : MethodName := ⟨RX6, "<init>", "()V"⟩
abbrev cX6_line : ByteArray := prog_1_method_2_code
def yX6_line : MethodName := ⟨RX6, "line", "(IIII)I"⟩
abbrev cX6_wipe : ByteArray := prog_1_method_3_code
def yX6_wipe : MethodName := ⟨RX6, "wipe", "()I"⟩
abbrev cX6_set : ByteArray := prog_1_method_4_code
def yX6_set : MethodName := ⟨RX6, "set", "(II)I"⟩
abbrev cX6_counter : ByteArray := prog_1_method_5_code
def yX6_counter : MethodName := ⟨RX6, "counter", "(I)I"⟩
abbrev cX6_count : ByteArray := prog_1_method_6_code
def yX6_count : MethodName := ⟨RX6, "count", "(I)I"⟩
abbrev cX6_at : ByteArray := prog_1_method_7_code
def yX6_at : MethodName := ⟨RX6, "at", "()I"⟩
abbrev cX6_go : ByteArray := prog_1_method_8_code
def yX6_go : MethodName := ⟨RX6, "go", "(I)I"⟩
abbrev cX6_rule : ByteArray := prog_1_method_9_code
def yX6_rule : MethodName := ⟨RX6, "rule", "(IIIII)I"⟩
abbrev cX6_unrule : ByteArray := prog_1_method_10_code
def yX6_unrule : MethodName := ⟨RX6, "unrule", "(II)I"⟩
abbrev cX6_place : ByteArray := prog_1_method_11_code
def yX6_place : MethodName := ⟨RX6, "place", "(IIII)I"⟩
abbrev cX6_move : ByteArray := prog_1_method_12_code
def yX6_move : MethodName := ⟨RX6, "move", "(I)I"⟩
abbrev cX6_where : ByteArray := prog_1_method_13_code
def yX6_where : MethodName := ⟨RX6, "where", "(I)I"⟩
abbrev cX6_production : ByteArray := prog_1_method_14_code
def yX6_production : MethodName := ⟨RX6, "production", "(II)I"⟩
abbrev cX6_lay : ByteArray := prog_1_method_15_code
def yX6_lay : MethodName := ⟨RX6, "lay", "()I"⟩
abbrev cX6_add : ByteArray := prog_1_method_16_code
def yX6_add : MethodName := ⟨RX6, "add", "(I)I"⟩
abbrev cX6_clear : ByteArray := prog_1_method_17_code
def yX6_clear : MethodName := ⟨RX6, "clear", "()I"⟩
abbrev cX6_letter : ByteArray := prog_1_method_18_code
def yX6_letter : MethodName := ⟨RX6, "letter", "(I)I"⟩
abbrev cX6_length : ByteArray := prog_1_method_19_code
def yX6_length : MethodName := ⟨RX6, "length", "()I"⟩
abbrev cX6_tag : ByteArray := prog_1_method_20_code
def yX6_tag : MethodName := ⟨RX6, "tag", "(I)I"⟩
abbrev cX6_next : ByteArray := prog_1_method_21_code
def yX6_next : MethodName := ⟨RX6, "next", "()I"⟩
abbrev cX6_told : ByteArray := prog_1_method_22_code
def yX6_told : MethodName := ⟨RX6, "told", "(I)I"⟩
abbrev cX6_appendant : ByteArray := prog_1_method_23_code
def yX6_appendant : MethodName := ⟨RX6, "appendant", "(II)I"⟩
abbrev cX6_spread : ByteArray := prog_1_method_24_code
def yX6_spread : MethodName := ⟨RX6, "spread", "()I"⟩
abbrev cX6_cycle : ByteArray := prog_1_method_25_code
def yX6_cycle : MethodName := ⟨RX6, "cycle", "(I)I"⟩
abbrev cX6_bit : ByteArray := prog_1_method_26_code
def yX6_bit : MethodName := ⟨RX6, "bit", "(I)I"⟩
abbrev cX6_bits : ByteArray := prog_1_method_27_code
def yX6_bits : MethodName := ⟨RX6, "bits", "(I)I"⟩
abbrev cX6_gather : ByteArray := prog_1_method_28_code
def yX6_gather : MethodName := ⟨RX6, "gather", "()I"⟩
abbrev cX6_outside : ByteArray := prog_1_method_29_code
def yX6_outside : MethodName := ⟨RX6, "outside", "(III)Z"⟩
abbrev cX6_oneIf : ByteArray := prog_1_method_30_code
def yX6_oneIf : MethodName := ⟨RX6, "oneIf", "(Z)I"⟩
abbrev cX6_pairOf : ByteArray := prog_1_method_31_code
def yX6_pairOf : MethodName := ⟨RX6, "pairOf", "(II)I"⟩
def RX7 : String := "TagTowerModel"
def TX7 : u_T := fun k => match k with
  | 0 => ("TagTowerModel", "thrown", "I", false)
  | 1 => ("TagTowerModel", "counter", "[I", true)
  | 2 => ("TagTowerModel", "lines", "I", false)
  | 3 => ("TagTowerModel", "op", "[I", true)
  | 4 => ("TagTowerModel", "which", "[I", true)
  | 5 => ("TagTowerModel", "then", "[I", true)
  | 6 => ("TagTowerModel", "other", "[I", true)
  | 7 => ("TagTowerModel", "line", "I", false)
  | 8 => ("TagTowerModel", "writes", "[I", true)
  | 9 => ("TagTowerModel", "way", "[I", true)
  | 10 => ("TagTowerModel", "goes", "[I", true)
  | 11 => ("TagTowerModel", "state", "I", false)
  | 12 => ("TagTowerModel", "sign", "I", false)
  | 13 => ("TagTowerModel", "left", "I", false)
  | 14 => ("TagTowerModel", "right", "I", false)
  | 15 => ("TagTowerModel", "begin", "I", false)
  | 16 => ("TagTowerModel", "length", "I", false)
  | 17 => ("TagTowerModel", "word", "[I", true)
  | 18 => ("TagTowerModel", "savedLength", "I", false)
  | 19 => ("TagTowerModel", "saved", "[I", true)
  | 20 => ("TagTowerModel", "first", "I", false)
  | 21 => ("TagTowerModel", "many", "I", false)
  | 22 => ("TagTowerModel", "bits", "[I", true)
  | 23 => ("TagTowerModel", "turn", "I", false)
  | 24 => ("TagTowerModel", "made", "I", false)
  | 25 => ("TagTowerModel", "makes", "[I", true)
  | 26 => ("TagTowerModel", "toldPair", "I", false)
  | 27 => ("TagTowerModel", "toldLeft", "I", false)
  | _ => ("TagTowerModel", "toldRight", "I", false)
def tyX7 : Nat → FieldType := fun k => match k with
  | 0 => .int
  | 1 => .array .int
  | 2 => .int
  | 3 => .array .int
  | 4 => .array .int
  | 5 => .array .int
  | 6 => .array .int
  | 7 => .int
  | 8 => .array .int
  | 9 => .array .int
  | 10 => .array .int
  | 11 => .int
  | 12 => .int
  | 13 => .int
  | 14 => .int
  | 15 => .int
  | 16 => .int
  | 17 => .array .int
  | 18 => .int
  | 19 => .array .int
  | 20 => .int
  | 21 => .int
  | 22 => .array .int
  | 23 => .int
  | 24 => .int
  | 25 => .array .int
  | 26 => .int
  | 27 => .int
  | _ => .int
abbrev wsX70 : List Cond := u_ws RX7 TX7 29
theorem nmX7 : ∀ a, a < 29 → ∀ b, b < 29 → a ≠ b → (TX7 a).2.1 ≠ (TX7 b).2.1 := by decide +kernel
theorem tyX7_ok : ∀ k, k < 29 → parseFieldDescriptor (TX7 k).2.2.1 = some (tyX7 k) := by decide +kernel
abbrev cX7_init : ByteArray := prog_9_method_1_code
def yX7_init : MethodName := ⟨RX7, "<init>", "()V"⟩
abbrev cX7_in : ByteArray := prog_9_method_3_code
def yX7_in : MethodName := ⟨RX7, "in", "(JJJ)Z"⟩
abbrev cX7_line : ByteArray := prog_9_method_4_code
def yX7_line : MethodName := ⟨RX7, "line", "(IIII)I"⟩
abbrev cX7_wipe : ByteArray := prog_9_method_5_code
def yX7_wipe : MethodName := ⟨RX7, "wipe", "()I"⟩
abbrev cX7_set : ByteArray := prog_9_method_6_code
def yX7_set : MethodName := ⟨RX7, "set", "(II)I"⟩
abbrev cX7_counter : ByteArray := prog_9_method_7_code
def yX7_counter : MethodName := ⟨RX7, "counter", "(I)I"⟩
abbrev cX7_mayDo : ByteArray := prog_9_method_8_code
def yX7_mayDo : MethodName := ⟨RX7, "mayDo", "()Z"⟩
abbrev cX7_count : ByteArray := prog_9_method_9_code
def yX7_count : MethodName := ⟨RX7, "count", "(I)I"⟩
abbrev cX7_at : ByteArray := prog_9_method_10_code
def yX7_at : MethodName := ⟨RX7, "at", "()I"⟩
abbrev cX7_go : ByteArray := prog_9_method_11_code
def yX7_go : MethodName := ⟨RX7, "go", "(I)I"⟩
abbrev cX7_isPair : ByteArray := prog_9_method_12_code
def yX7_isPair : MethodName := ⟨RX7, "isPair", "(II)Z"⟩
abbrev cX7_rule : ByteArray := prog_9_method_13_code
def yX7_rule : MethodName := ⟨RX7, "rule", "(IIIII)I"⟩
abbrev cX7_unrule : ByteArray := prog_9_method_14_code
def yX7_unrule : MethodName := ⟨RX7, "unrule", "(II)I"⟩
abbrev cX7_place : ByteArray := prog_9_method_15_code
def yX7_place : MethodName := ⟨RX7, "place", "(IIII)I"⟩
abbrev cX7_mayMove : ByteArray := prog_9_method_16_code
def yX7_mayMove : MethodName := ⟨RX7, "mayMove", "()Z"⟩
abbrev cX7_move : ByteArray := prog_9_method_17_code
def yX7_move : MethodName := ⟨RX7, "move", "(I)I"⟩
abbrev cX7_where : ByteArray := prog_9_method_18_code
def yX7_where : MethodName := ⟨RX7, "where", "(I)I"⟩
abbrev cX7_makes : ByteArray := prog_9_method_19_code
def yX7_makes : MethodName := ⟨RX7, "makes", "(I)V"⟩
abbrev cX7_of : ByteArray := prog_9_method_20_code
def yX7_of : MethodName := ⟨RX7, "of", "(II)I"⟩
abbrev cX7_one : ByteArray := prog_9_method_21_code
def yX7_one : MethodName := ⟨RX7, "one", "(I)V"⟩
abbrev cX7_doubled : ByteArray := prog_9_method_22_code
def yX7_doubled : MethodName := ⟨RX7, "doubled", "(IZ)V"⟩
abbrev cX7_produceRuled : ByteArray := prog_9_method_23_code
def yX7_produceRuled : MethodName := ⟨RX7, "produceRuled", "(IIII)V"⟩
abbrev cX7_produce : ByteArray := prog_9_method_24_code
def yX7_produce : MethodName := ⟨RX7, "produce", "(I)V"⟩
abbrev cX7_production : ByteArray := prog_9_method_25_code
def yX7_production : MethodName := ⟨RX7, "production", "(II)I"⟩
abbrev cX7_letterAt : ByteArray := prog_9_method_26_code
def yX7_letterAt : MethodName := ⟨RX7, "letterAt", "(I)I"⟩
abbrev cX7_puts : ByteArray := prog_9_method_27_code
def yX7_puts : MethodName := ⟨RX7, "puts", "(I)V"⟩
abbrev cX7_lay : ByteArray := prog_9_method_28_code
def yX7_lay : MethodName := ⟨RX7, "lay", "()I"⟩
abbrev cX7_add : ByteArray := prog_9_method_29_code
def yX7_add : MethodName := ⟨RX7, "add", "(I)I"⟩
abbrev cX7_clear : ByteArray := prog_9_method_30_code
def yX7_clear : MethodName := ⟨RX7, "clear", "()I"⟩
abbrev cX7_letter : ByteArray := prog_9_method_31_code
def yX7_letter : MethodName := ⟨RX7, "letter", "(I)I"⟩
abbrev cX7_length : ByteArray := prog_9_method_32_code
def yX7_length : MethodName := ⟨RX7, "length", "()I"⟩
abbrev cX7_tags : ByteArray := prog_9_method_33_code
def yX7_tags : MethodName := ⟨RX7, "tags", "()Z"⟩
abbrev cX7_tag : ByteArray := prog_9_method_34_code
def yX7_tag : MethodName := ⟨RX7, "tag", "(I)I"⟩
abbrev cX7_tells : ByteArray := prog_9_method_35_code
def yX7_tells : MethodName := ⟨RX7, "tells", "()Z"⟩
abbrev cX7_next : ByteArray := prog_9_method_36_code
def yX7_next : MethodName := ⟨RX7, "next", "()I"⟩
abbrev cX7_told : ByteArray := prog_9_method_37_code
def yX7_told : MethodName := ⟨RX7, "told", "(I)I"⟩
abbrev cX7_bitAt : ByteArray := prog_9_method_38_code
def yX7_bitAt : MethodName := ⟨RX7, "bitAt", "(I)I"⟩
abbrev cX7_putBit : ByteArray := prog_9_method_39_code
def yX7_putBit : MethodName := ⟨RX7, "putBit", "(I)V"⟩
abbrev cX7_appendant : ByteArray := prog_9_method_40_code
def yX7_appendant : MethodName := ⟨RX7, "appendant", "(II)I"⟩
abbrev cX7_spread : ByteArray := prog_9_method_41_code
def yX7_spread : MethodName := ⟨RX7, "spread", "()I"⟩
abbrev cX7_letterOf : ByteArray := prog_9_method_42_code
def yX7_letterOf : MethodName := ⟨RX7, "letterOf", "(I)I"⟩
abbrev cX7_isStill : ByteArray := prog_9_method_43_code
def yX7_isStill : MethodName := ⟨RX7, "isStill", "()Z"⟩
abbrev cX7_cycles : ByteArray := prog_9_method_44_code
def yX7_cycles : MethodName := ⟨RX7, "cycles", "()Z"⟩
abbrev cX7_cycle : ByteArray := prog_9_method_45_code
def yX7_cycle : MethodName := ⟨RX7, "cycle", "(I)I"⟩
abbrev cX7_bit : ByteArray := prog_9_method_46_code
def yX7_bit : MethodName := ⟨RX7, "bit", "(I)I"⟩
abbrev cX7_bits : ByteArray := prog_9_method_47_code
def yX7_bits : MethodName := ⟨RX7, "bits", "(I)I"⟩
abbrev cX7_gather : ByteArray := prog_9_method_48_code
def yX7_gather : MethodName := ⟨RX7, "gather", "()I"⟩
def RJ11 : String := "java/lang/Character"
def TJ11 : u_T := fun k => match k with
  | _ => ("", "", "", false)
def tyJ11 : Nat → FieldType := fun k => match k with
  | _ => .int
abbrev wsJ110 : List Cond := u_ws RJ11 TJ11 0
theorem nmJ11 : ∀ a, a < 0 → ∀ b, b < 0 → a ≠ b → (TJ11 a).2.1 ≠ (TJ11 b).2.1 := by decide +kernel
theorem tyJ11_ok : ∀ k, k < 0 → parseFieldDescriptor (TJ11 k).2.2.1 = some (tyJ11 k) := by decide +kernel
abbrev cJ11_isValidCodePoint_9a6ad : ByteArray := prog_10_method_11_code
def yJ11_isValidCodePoint_9a6ad : MethodName := ⟨RJ11, "isValidCodePoint", "(I)Z"⟩
abbrev cJ11_highSurrogate_5068e : ByteArray := prog_10_method_28_code
def yJ11_highSurrogate_5068e : MethodName := ⟨RJ11, "highSurrogate", "(I)C"⟩
abbrev cJ11_lowSurrogate_5068e : ByteArray := prog_10_method_29_code
def yJ11_lowSurrogate_5068e : MethodName := ⟨RJ11, "lowSurrogate", "(I)C"⟩
def RJ9 : String := "java/lang/Math"
def TJ9 : u_T := fun k => match k with
  | _ => ("", "", "", false)
def tyJ9 : Nat → FieldType := fun k => match k with
  | _ => .int
abbrev wsJ90 : List Cond := u_ws RJ9 TJ9 0
theorem nmJ9 : ∀ a, a < 0 → ∀ b, b < 0 → a ≠ b → (TJ9 a).2.1 ≠ (TJ9 b).2.1 := by decide +kernel
theorem tyJ9_ok : ∀ k, k < 0 → parseFieldDescriptor (TJ9 k).2.2.1 = some (tyJ9 k) := by decide +kernel
abbrev cJ9_max_7cf53 : ByteArray := prog_11_method_65_code
def yJ9_max_7cf53 : MethodName := ⟨RJ9, "max", "(II)I"⟩
abbrev cJ9_min_7cf53 : ByteArray := prog_11_method_69_code
def yJ9_min_7cf53 : MethodName := ⟨RJ9, "min", "(II)I"⟩
def RJ0 : String := "java/lang/String"
def TJ0 : u_T := fun k => match k with
  | _ => ("", "", "", false)
def tyJ0 : Nat → FieldType := fun k => match k with
  | _ => .int
abbrev wsJ00 : List Cond := u_ws RJ0 TJ0 0
theorem nmJ0 : ∀ a, a < 0 → ∀ b, b < 0 → a ≠ b → (TJ0 a).2.1 ≠ (TJ0 b).2.1 := by decide +kernel
theorem tyJ0_ok : ∀ k, k < 0 → parseFieldDescriptor (TJ0 k).2.2.1 = some (tyJ0 k) := by decide +kernel
abbrev cJ0_length_8abf5 : ByteArray := prog_12_method_54_code
def yJ0_length_8abf5 : MethodName := ⟨RJ0, "length", "()I"⟩
abbrev cJ0_charAt_5068e : ByteArray := prog_12_method_56_code
def yJ0_charAt_5068e : MethodName := ⟨RJ0, "charAt", "(I)C"⟩
abbrev cJ0_indexOf_0f7a4 : ByteArray := prog_12_method_79_code
def yJ0_indexOf_0f7a4 : MethodName := ⟨RJ0, "indexOf", "(I)I"⟩
abbrev cJ0_indexOf_7cf53 : ByteArray := prog_12_method_80_code
def yJ0_indexOf_7cf53 : MethodName := ⟨RJ0, "indexOf", "(II)I"⟩
abbrev cJ0_coder_7d493 : ByteArray := prog_12_method_152_code
def yJ0_coder_7d493 : MethodName := ⟨RJ0, "coder", "()B"⟩
abbrev cJ0_isLatin1_aae02 : ByteArray := prog_12_method_154_code
def yJ0_isLatin1_aae02 : MethodName := ⟨RJ0, "isLatin1", "()Z"⟩
abbrev cJ0_checkIndex_df160 : ByteArray := prog_12_method_155_code
def yJ0_checkIndex_df160 : MethodName := ⟨RJ0, "checkIndex", "(II)V"⟩
abbrev cJ0_checkBoundsBeginEnd_23922 : ByteArray := prog_12_method_158_code
def yJ0_checkBoundsBeginEnd_23922 : MethodName := ⟨RJ0, "checkBoundsBeginEnd", "(III)V"⟩
def RJ1 : String := "java/lang/StringLatin1"
def TJ1 : u_T := fun k => match k with
  | _ => ("", "", "", false)
def tyJ1 : Nat → FieldType := fun k => match k with
  | _ => .int
abbrev wsJ10 : List Cond := u_ws RJ1 TJ1 0
theorem nmJ1 : ∀ a, a < 0 → ∀ b, b < 0 → a ≠ b → (TJ1 a).2.1 ≠ (TJ1 b).2.1 := by decide +kernel
theorem tyJ1_ok : ∀ k, k < 0 → parseFieldDescriptor (TJ1 k).2.2.1 = some (tyJ1 k) := by decide +kernel
abbrev cJ1_charAt_3b067 : ByteArray := prog_13_method_2_code
def yJ1_charAt_3b067 : MethodName := ⟨RJ1, "charAt", "([BI)C"⟩
abbrev cJ1_canEncode_9a6ad : ByteArray := prog_13_method_4_code
def yJ1_canEncode_9a6ad : MethodName := ⟨RJ1, "canEncode", "(I)Z"⟩
abbrev cJ1_indexOf_4cfef : ByteArray := prog_13_method_22_code
def yJ1_indexOf_4cfef : MethodName := ⟨RJ1, "indexOf", "([BIII)I"⟩
abbrev cJ1_indexOfChar_4cfef : ByteArray := prog_13_method_23_code
def yJ1_indexOfChar_4cfef : MethodName := ⟨RJ1, "indexOfChar", "([BIII)I"⟩
def RJ2 : String := "java/lang/StringUTF16"
def TJ2 : u_T := fun k => match k with
  | _ => ("", "", "", false)
def tyJ2 : Nat → FieldType := fun k => match k with
  | _ => .int
abbrev wsJ20 : List Cond := u_ws RJ2 TJ2 0
theorem nmJ2 : ∀ a, a < 0 → ∀ b, b < 0 → a ≠ b → (TJ2 a).2.1 ≠ (TJ2 b).2.1 := by decide +kernel
theorem tyJ2_ok : ∀ k, k < 0 → parseFieldDescriptor (TJ2 k).2.2.1 = some (tyJ2 k) := by decide +kernel
abbrev cJ2_getChar_3b067 : ByteArray := prog_14_method_5_code
def yJ2_getChar_3b067 : MethodName := ⟨RJ2, "getChar", "([BI)C"⟩
abbrev cJ2_length_9d52b : ByteArray := prog_14_method_6_code
def yJ2_length_9d52b : MethodName := ⟨RJ2, "length", "([B)I"⟩
abbrev cJ2_indexOf_4cfef : ByteArray := prog_14_method_40_code
def yJ2_indexOf_4cfef : MethodName := ⟨RJ2, "indexOf", "([BIII)I"⟩
abbrev cJ2_indexOfChar_4cfef : ByteArray := prog_14_method_47_code
def yJ2_indexOfChar_4cfef : MethodName := ⟨RJ2, "indexOfChar", "([BIII)I"⟩
abbrev cJ2_indexOfCharUnsafe_4cfef : ByteArray := prog_14_method_48_code
def yJ2_indexOfCharUnsafe_4cfef : MethodName := ⟨RJ2, "indexOfCharUnsafe", "([BIII)I"⟩
abbrev cJ2_indexOfSupplementary_4cfef : ByteArray := prog_14_method_49_code
def yJ2_indexOfSupplementary_4cfef : MethodName := ⟨RJ2, "indexOfSupplementary", "([BIII)I"⟩
abbrev cJ2_charAt_3b067 : ByteArray := prog_14_method_83_code
def yJ2_charAt_3b067 : MethodName := ⟨RJ2, "charAt", "([BI)C"⟩
abbrev cJ2_checkIndex_2214a : ByteArray := prog_14_method_91_code
def yJ2_checkIndex_2214a : MethodName := ⟨RJ2, "checkIndex", "(I[B)V"⟩
abbrev cJ2_checkBoundsBeginEnd_d044e : ByteArray := prog_14_method_93_code
def yJ2_checkBoundsBeginEnd_d044e : MethodName := ⟨RJ2, "checkBoundsBeginEnd", "(II[B)V"⟩
def RJ3 : String := "jdk/internal/util/Preconditions"
def TJ3 : u_T := fun k => match k with
  | _ => ("", "", "", false)
def tyJ3 : Nat → FieldType := fun k => match k with
  | _ => .int
abbrev wsJ30 : List Cond := u_ws RJ3 TJ3 0
theorem nmJ3 : ∀ a, a < 0 → ∀ b, b < 0 → a ≠ b → (TJ3 a).2.1 ≠ (TJ3 b).2.1 := by decide +kernel
theorem tyJ3_ok : ∀ k, k < 0 → parseFieldDescriptor (TJ3 k).2.2.1 = some (tyJ3 k) := by decide +kernel
abbrev cJ3_checkIndex_8e157 : ByteArray := prog_15_method_11_code
def yJ3_checkIndex_8e157 : MethodName := ⟨RJ3, "checkIndex", "(IILjava/util/function/BiFunction;)I"⟩
abbrev cJ3_checkFromToIndex_8c36e : ByteArray := prog_15_method_12_code
def yJ3_checkFromToIndex_8c36e : MethodName := ⟨RJ3, "checkFromToIndex", "(IIILjava/util/function/BiFunction;)I"⟩
def RL : String := "TagTowerLaw"
abbrev cL_law : ByteArray := code
def yL_law : MethodName := ⟨RL, "law", "([I)Z"⟩
def wsX2_init : List Cond := .code yX2_init cX2_init 2 none :: ([.methodLink RX2 3 objectInit, .instanceMethod objectInit, .code objectInit ⟨#[0xb1]⟩ 1 none, .methodLink RX2 9 Lib.Math.max.name, .static Lib.Math.max.name, .initialized "java/lang/Math", .code Lib.Math.max.name Lib.Math.max.code 2 (some .int), .arrayClass .int, .fieldLink RX2 15 "TagTower$LetterRow" "cells" "[I"] ++ wsX20)
def wsX0_init : List Cond := .code yX0_init cX0_init 1 none :: ([.methodLink RX0 3 objectInit, .instanceMethod objectInit, .code objectInit ⟨#[0xb1]⟩ 1 none, .classLink RX0 9 RX2, .instantiable RX2 3, .initialized RX2, .fieldLink RX0 14 "TagTower$Bits" "row" "LTagTower$LetterRow;", .methodLink RX0 11 yX2_init, .instanceMethod yX2_init, .code yX2_init cX2_init 2 none, .methodLink RX2 3 objectInit, .methodLink RX2 9 Lib.Math.max.name, .static Lib.Math.max.name, .initialized "java/lang/Math", .code Lib.Math.max.name Lib.Math.max.code 2 (some .int), .arrayClass .int, .fieldLink RX2 15 "TagTower$LetterRow" "cells" "[I"] ++ wsX20 ++ wsX00)
def wsX2_empty : List Cond := .code yX2_empty cX2_empty 1 none :: ([.fieldLink RX2 21 "TagTower$LetterRow" "head" "I", .fieldLink RX2 25 "TagTower$LetterRow" "size" "I"] ++ wsX20)
def wsX6_outside : List Cond := .code yX6_outside cX6_outside 3 (some .boolean) :: ([])
def wsX2_wrapped : List Cond := .code yX2_wrapped cX2_wrapped 2 (some .int) :: ([.fieldLink RX2 15 "TagTower$LetterRow" "cells" "[I"] ++ wsX20)
def wsX2_get : List Cond := .code yX2_get cX2_get 2 (some .int) :: ([.fieldLink RX2 25 "TagTower$LetterRow" "size" "I", .fieldLink RX2 15 "TagTower$LetterRow" "cells" "[I", .fieldLink RX2 21 "TagTower$LetterRow" "head" "I", .static yX6_outside, .initialized RX6, .code yX6_outside cX6_outside 3 (some .boolean), .methodLink RX2 32 yX2_wrapped, .instanceMethod yX2_wrapped, .selects RX2 yX2_wrapped yX2_wrapped, .initialized RX2, .code yX2_wrapped cX2_wrapped 2 (some .int)] ++ wsX20)
def wsX2_append : List Cond := .code yX2_append cX2_append 2 none :: ([.fieldLink RX2 25 "TagTower$LetterRow" "size" "I", .fieldLink RX2 15 "TagTower$LetterRow" "cells" "[I", .fieldLink RX2 21 "TagTower$LetterRow" "head" "I", .methodLink RX2 32 yX2_wrapped, .instanceMethod yX2_wrapped, .selects RX2 yX2_wrapped yX2_wrapped, .initialized RX2, .code yX2_wrapped cX2_wrapped 2 (some .int)] ++ wsX20)
def wsX2_become : List Cond := .code yX2_become cX2_become 3 none :: ([.fieldLink RX2 25 "TagTower$LetterRow" "size" "I", .methodLink RX2 39 yX2_empty, .instanceMethod yX2_empty, .selects RX2 yX2_empty yX2_empty, .initialized RX2, .code yX2_empty cX2_empty 1 none, .fieldLink RX2 21 "TagTower$LetterRow" "head" "I", .methodLink RX2 42 yX2_get, .instanceMethod yX2_get, .selects RX2 yX2_get yX2_get, .code yX2_get cX2_get 2 (some .int), .fieldLink RX2 15 "TagTower$LetterRow" "cells" "[I", .static yX6_outside, .initialized RX6, .code yX6_outside cX6_outside 3 (some .boolean), .methodLink RX2 32 yX2_wrapped, .instanceMethod yX2_wrapped, .selects RX2 yX2_wrapped yX2_wrapped, .code yX2_wrapped cX2_wrapped 2 (some .int), .methodLink RX2 45 yX2_append, .instanceMethod yX2_append, .selects RX2 yX2_append yX2_append, .code yX2_append cX2_append 2 none] ++ wsX20)
def wsX0_layWord_r1 : List Cond := [Cond.constant RX0 24 (80000), Cond.fieldLink RX0 14 "TagTower$Bits" "row" "LTagTower$LetterRow;", Cond.fieldLink RX0 29 "TagTower$Bits" "turn" "I", Cond.methodLink RX0 25 yX2_become, Cond.instanceMethod yX2_become, Cond.selects RX2 yX2_become yX2_become, Cond.initialized RX2, Cond.code yX2_become cX2_become 3 none, Cond.fieldLink RX2 25 "TagTower$LetterRow" "size" "I", Cond.methodLink RX2 39 yX2_empty, Cond.instanceMethod yX2_empty, Cond.selects RX2 yX2_empty yX2_empty, Cond.code yX2_empty cX2_empty 1 none, Cond.fieldLink RX2 21 "TagTower$LetterRow" "head" "I", Cond.methodLink RX2 42 yX2_get, Cond.instanceMethod yX2_get, Cond.selects RX2 yX2_get yX2_get, Cond.code yX2_get cX2_get 2 (some .int), Cond.fieldLink RX2 15 "TagTower$LetterRow" "cells" "[I", Cond.static yX6_outside, Cond.initialized RX6, Cond.code yX6_outside cX6_outside 3 (some .boolean), Cond.methodLink RX2 32 yX2_wrapped, Cond.instanceMethod yX2_wrapped]
def wsX0_layWord_r2 : List Cond := [Cond.selects RX2 yX2_wrapped yX2_wrapped, Cond.code yX2_wrapped cX2_wrapped 2 (some .int), Cond.methodLink RX2 45 yX2_append, Cond.instanceMethod yX2_append, Cond.selects RX2 yX2_append yX2_append, Cond.code yX2_append cX2_append 2 none]
def wsX0_layWord : List Cond := .code yX0_layWord cX0_layWord 3 (some .int) :: ((wsX0_layWord_r1 ++ wsX0_layWord_r2) ++ wsX20 ++ wsX00)
def wsX0_gone : List Cond := .code yX0_gone cX0_gone 1 (some .int) :: ([.fieldLink RX0 29 "TagTower$Bits" "turn" "I"] ++ wsX00)
def wsX0_size : List Cond := .code yX0_size cX0_size 1 (some .int) :: ([.fieldLink RX0 14 "TagTower$Bits" "row" "LTagTower$LetterRow;", .methodLink RX0 32 yX0_gone, .instanceMethod yX0_gone, .selects RX0 yX0_gone yX0_gone, .initialized RX0, .code yX0_gone cX0_gone 1 (some .int), .fieldLink RX0 29 "TagTower$Bits" "turn" "I"] ++ wsX00 ++ wsX20)
def wsX6_oneIf : List Cond := .code yX6_oneIf cX6_oneIf 1 (some .int) :: ([])
def wsX0_get_r1 : List Cond := [Cond.fieldLink RX0 14 "TagTower$Bits" "row" "LTagTower$LetterRow;", Cond.methodLink RX0 36 yX0_size, Cond.instanceMethod yX0_size, Cond.selects RX0 yX0_size yX0_size, Cond.initialized RX0, Cond.code yX0_size cX0_size 1 (some .int), Cond.methodLink RX0 32 yX0_gone, Cond.instanceMethod yX0_gone, Cond.selects RX0 yX0_gone yX0_gone, Cond.code yX0_gone cX0_gone 1 (some .int), Cond.fieldLink RX0 29 "TagTower$Bits" "turn" "I", Cond.static yX6_outside, Cond.initialized RX6, Cond.code yX6_outside cX6_outside 3 (some .boolean), Cond.methodLink RX0 42 yX2_get, Cond.instanceMethod yX2_get, Cond.selects RX2 yX2_get yX2_get, Cond.initialized RX2, Cond.code yX2_get cX2_get 2 (some .int), Cond.fieldLink RX2 25 "TagTower$LetterRow" "size" "I", Cond.fieldLink RX2 15 "TagTower$LetterRow" "cells" "[I", Cond.fieldLink RX2 21 "TagTower$LetterRow" "head" "I", Cond.methodLink RX2 32 yX2_wrapped, Cond.instanceMethod yX2_wrapped]
def wsX0_get_r2 : List Cond := [Cond.selects RX2 yX2_wrapped yX2_wrapped, Cond.code yX2_wrapped cX2_wrapped 2 (some .int), Cond.static yX6_oneIf, Cond.code yX6_oneIf cX6_oneIf 1 (some .int)]
def wsX0_get : List Cond := .code yX0_get cX0_get 3 (some .int) :: ((wsX0_get_r1 ++ wsX0_get_r2) ++ wsX00 ++ wsX20)
def wsX0_ones : List Cond := .code yX0_ones cX0_ones 2 (some .int) :: ([.fieldLink RX0 14 "TagTower$Bits" "row" "LTagTower$LetterRow;", .methodLink RX0 42 yX2_get, .instanceMethod yX2_get, .selects RX2 yX2_get yX2_get, .initialized RX2, .code yX2_get cX2_get 2 (some .int), .fieldLink RX2 25 "TagTower$LetterRow" "size" "I", .fieldLink RX2 15 "TagTower$LetterRow" "cells" "[I", .fieldLink RX2 21 "TagTower$LetterRow" "head" "I", .static yX6_outside, .initialized RX6, .code yX6_outside cX6_outside 3 (some .boolean), .methodLink RX2 32 yX2_wrapped, .instanceMethod yX2_wrapped, .selects RX2 yX2_wrapped yX2_wrapped, .code yX2_wrapped cX2_wrapped 2 (some .int), .methodLink RX0 32 yX0_gone, .instanceMethod yX0_gone, .selects RX0 yX0_gone yX0_gone, .initialized RX0, .code yX0_gone cX0_gone 1 (some .int), .fieldLink RX0 29 "TagTower$Bits" "turn" "I"] ++ wsX00 ++ wsX20)
def wsX4_sizeOf : List Cond := .code yX4_sizeOf cX4_sizeOf 2 (some .int) :: ([.fieldLink RX4 9 "TagTower$Productions" "sizes" "[I", .static yX6_outside, .initialized RX6, .code yX6_outside cX6_outside 3 (some .boolean)] ++ wsX40)
def wsX0_isStill : List Cond := .code yX0_isStill cX0_isStill 2 (some .boolean) :: ([.fieldLink RX0 29 "TagTower$Bits" "turn" "I", .fieldLink RX0 14 "TagTower$Bits" "row" "LTagTower$LetterRow;", .methodLink RX0 42 yX2_get, .instanceMethod yX2_get, .selects RX2 yX2_get yX2_get, .initialized RX2, .code yX2_get cX2_get 2 (some .int), .fieldLink RX2 25 "TagTower$LetterRow" "size" "I", .fieldLink RX2 15 "TagTower$LetterRow" "cells" "[I", .fieldLink RX2 21 "TagTower$LetterRow" "head" "I", .static yX6_outside, .initialized RX6, .code yX6_outside cX6_outside 3 (some .boolean), .methodLink RX2 32 yX2_wrapped, .instanceMethod yX2_wrapped, .selects RX2 yX2_wrapped yX2_wrapped, .code yX2_wrapped cX2_wrapped 2 (some .int), .methodLink RX0 50 yX4_sizeOf, .instanceMethod yX4_sizeOf, .selects RX4 yX4_sizeOf yX4_sizeOf, .initialized RX4, .code yX4_sizeOf cX4_sizeOf 2 (some .int), .fieldLink RX4 9 "TagTower$Productions" "sizes" "[I"] ++ wsX00 ++ wsX20 ++ wsX40)
def wsX4_appendTo : List Cond := .code yX4_appendTo cX4_appendTo 6 none :: ([.fieldLink RX4 15 "TagTower$Productions" "letters" "[I", .methodLink RX4 75 yX4_sizeOf, .instanceMethod yX4_sizeOf, .selects RX4 yX4_sizeOf yX4_sizeOf, .initialized RX4, .code yX4_sizeOf cX4_sizeOf 2 (some .int), .fieldLink RX4 9 "TagTower$Productions" "sizes" "[I", .static yX6_outside, .initialized RX6, .code yX6_outside cX6_outside 3 (some .boolean), .methodLink RX4 85 yX2_append, .instanceMethod yX2_append, .selects RX2 yX2_append yX2_append, .initialized RX2, .code yX2_append cX2_append 2 none, .fieldLink RX2 25 "TagTower$LetterRow" "size" "I", .fieldLink RX2 15 "TagTower$LetterRow" "cells" "[I", .fieldLink RX2 21 "TagTower$LetterRow" "head" "I", .methodLink RX2 32 yX2_wrapped, .instanceMethod yX2_wrapped, .selects RX2 yX2_wrapped yX2_wrapped, .code yX2_wrapped cX2_wrapped 2 (some .int)] ++ wsX40 ++ wsX20)
def wsX2_drop : List Cond := .code yX2_drop cX2_drop 3 none :: ([.fieldLink RX2 25 "TagTower$LetterRow" "size" "I", .methodLink RX2 36 Lib.Math.min.name, .static Lib.Math.min.name, .initialized "java/lang/Math", .code Lib.Math.min.name Lib.Math.min.code 2 (some .int), .fieldLink RX2 21 "TagTower$LetterRow" "head" "I", .methodLink RX2 32 yX2_wrapped, .instanceMethod yX2_wrapped, .selects RX2 yX2_wrapped yX2_wrapped, .initialized RX2, .code yX2_wrapped cX2_wrapped 2 (some .int), .fieldLink RX2 15 "TagTower$LetterRow" "cells" "[I"] ++ wsX20)
def wsX0_pass : List Cond := .code yX0_pass cX0_pass 2 none :: ([.fieldLink RX0 29 "TagTower$Bits" "turn" "I", .fieldLink RX0 14 "TagTower$Bits" "row" "LTagTower$LetterRow;", .methodLink RX0 32 yX0_gone, .instanceMethod yX0_gone, .selects RX0 yX0_gone yX0_gone, .initialized RX0, .code yX0_gone cX0_gone 1 (some .int), .methodLink RX0 80 yX2_drop, .instanceMethod yX2_drop, .selects RX2 yX2_drop yX2_drop, .initialized RX2, .code yX2_drop cX2_drop 3 none, .fieldLink RX2 25 "TagTower$LetterRow" "size" "I", .methodLink RX2 36 Lib.Math.min.name, .static Lib.Math.min.name, .initialized "java/lang/Math", .code Lib.Math.min.name Lib.Math.min.code 2 (some .int), .fieldLink RX2 21 "TagTower$LetterRow" "head" "I", .methodLink RX2 32 yX2_wrapped, .instanceMethod yX2_wrapped, .selects RX2 yX2_wrapped yX2_wrapped, .code yX2_wrapped cX2_wrapped 2 (some .int), .fieldLink RX2 15 "TagTower$LetterRow" "cells" "[I"] ++ wsX00 ++ wsX20)
def wsX0_takeOne_r1 : List Cond := [Cond.fieldLink RX0 29 "TagTower$Bits" "turn" "I", Cond.constant RX0 24 (80000), Cond.fieldLink RX0 14 "TagTower$Bits" "row" "LTagTower$LetterRow;", Cond.methodLink RX0 36 yX0_size, Cond.instanceMethod yX0_size, Cond.selects RX0 yX0_size yX0_size, Cond.initialized RX0, Cond.code yX0_size cX0_size 1 (some .int), Cond.methodLink RX0 32 yX0_gone, Cond.instanceMethod yX0_gone, Cond.selects RX0 yX0_gone yX0_gone, Cond.code yX0_gone cX0_gone 1 (some .int), Cond.methodLink RX0 50 yX4_sizeOf, Cond.instanceMethod yX4_sizeOf, Cond.selects RX4 yX4_sizeOf yX4_sizeOf, Cond.initialized RX4, Cond.code yX4_sizeOf cX4_sizeOf 2 (some .int), Cond.fieldLink RX4 9 "TagTower$Productions" "sizes" "[I", Cond.static yX6_outside, Cond.initialized RX6, Cond.code yX6_outside cX6_outside 3 (some .boolean), Cond.methodLink RX0 76 yX4_appendTo, Cond.instanceMethod yX4_appendTo, Cond.selects RX4 yX4_appendTo yX4_appendTo]
def wsX0_takeOne_r2 : List Cond := [Cond.code yX4_appendTo cX4_appendTo 6 none, Cond.fieldLink RX4 15 "TagTower$Productions" "letters" "[I", Cond.methodLink RX4 75 yX4_sizeOf, Cond.methodLink RX4 85 yX2_append, Cond.instanceMethod yX2_append, Cond.selects RX2 yX2_append yX2_append, Cond.initialized RX2, Cond.code yX2_append cX2_append 2 none, Cond.fieldLink RX2 25 "TagTower$LetterRow" "size" "I", Cond.fieldLink RX2 15 "TagTower$LetterRow" "cells" "[I", Cond.fieldLink RX2 21 "TagTower$LetterRow" "head" "I", Cond.methodLink RX2 32 yX2_wrapped, Cond.instanceMethod yX2_wrapped, Cond.selects RX2 yX2_wrapped yX2_wrapped, Cond.code yX2_wrapped cX2_wrapped 2 (some .int), Cond.methodLink RX0 73 yX0_pass, Cond.instanceMethod yX0_pass, Cond.selects RX0 yX0_pass yX0_pass, Cond.code yX0_pass cX0_pass 2 none, Cond.methodLink RX0 80 yX2_drop, Cond.instanceMethod yX2_drop, Cond.selects RX2 yX2_drop yX2_drop, Cond.code yX2_drop cX2_drop 3 none, Cond.methodLink RX2 36 Lib.Math.min.name]
def wsX0_takeOne_r3 : List Cond := [Cond.static Lib.Math.min.name, Cond.initialized "java/lang/Math", Cond.code Lib.Math.min.name Lib.Math.min.code 2 (some .int)]
def wsX0_takeOne : List Cond := .code yX0_takeOne cX0_takeOne 2 (some .int) :: ((wsX0_takeOne_r1 ++ (wsX0_takeOne_r2 ++ wsX0_takeOne_r3)) ++ wsX00 ++ wsX20 ++ wsX40)
def wsX0_take_r1 : List Cond := [Cond.fieldLink RX0 14 "TagTower$Bits" "row" "LTagTower$LetterRow;", Cond.methodLink RX0 67 Lib.Math.min.name, Cond.static Lib.Math.min.name, Cond.initialized "java/lang/Math", Cond.code Lib.Math.min.name Lib.Math.min.code 2 (some .int), Cond.methodLink RX0 59 yX0_isStill, Cond.instanceMethod yX0_isStill, Cond.selects RX0 yX0_isStill yX0_isStill, Cond.initialized RX0, Cond.code yX0_isStill cX0_isStill 2 (some .boolean), Cond.fieldLink RX0 29 "TagTower$Bits" "turn" "I", Cond.methodLink RX0 42 yX2_get, Cond.instanceMethod yX2_get, Cond.selects RX2 yX2_get yX2_get, Cond.initialized RX2, Cond.code yX2_get cX2_get 2 (some .int), Cond.fieldLink RX2 25 "TagTower$LetterRow" "size" "I", Cond.fieldLink RX2 15 "TagTower$LetterRow" "cells" "[I", Cond.fieldLink RX2 21 "TagTower$LetterRow" "head" "I", Cond.static yX6_outside, Cond.initialized RX6, Cond.code yX6_outside cX6_outside 3 (some .boolean), Cond.methodLink RX2 32 yX2_wrapped, Cond.instanceMethod yX2_wrapped]
def wsX0_take_r2 : List Cond := [Cond.selects RX2 yX2_wrapped yX2_wrapped, Cond.code yX2_wrapped cX2_wrapped 2 (some .int), Cond.methodLink RX0 50 yX4_sizeOf, Cond.instanceMethod yX4_sizeOf, Cond.selects RX4 yX4_sizeOf yX4_sizeOf, Cond.initialized RX4, Cond.code yX4_sizeOf cX4_sizeOf 2 (some .int), Cond.fieldLink RX4 9 "TagTower$Productions" "sizes" "[I", Cond.methodLink RX0 32 yX0_gone, Cond.instanceMethod yX0_gone, Cond.selects RX0 yX0_gone yX0_gone, Cond.code yX0_gone cX0_gone 1 (some .int), Cond.methodLink RX0 63 yX0_takeOne, Cond.instanceMethod yX0_takeOne, Cond.selects RX0 yX0_takeOne yX0_takeOne, Cond.code yX0_takeOne cX0_takeOne 2 (some .int), Cond.constant RX0 24 (80000), Cond.methodLink RX0 36 yX0_size, Cond.instanceMethod yX0_size, Cond.selects RX0 yX0_size yX0_size, Cond.code yX0_size cX0_size 1 (some .int), Cond.methodLink RX0 76 yX4_appendTo, Cond.instanceMethod yX4_appendTo, Cond.selects RX4 yX4_appendTo yX4_appendTo]
def wsX0_take_r3 : List Cond := [Cond.code yX4_appendTo cX4_appendTo 6 none, Cond.fieldLink RX4 15 "TagTower$Productions" "letters" "[I", Cond.methodLink RX4 75 yX4_sizeOf, Cond.methodLink RX4 85 yX2_append, Cond.instanceMethod yX2_append, Cond.selects RX2 yX2_append yX2_append, Cond.code yX2_append cX2_append 2 none, Cond.methodLink RX0 73 yX0_pass, Cond.instanceMethod yX0_pass, Cond.selects RX0 yX0_pass yX0_pass, Cond.code yX0_pass cX0_pass 2 none, Cond.methodLink RX0 80 yX2_drop, Cond.instanceMethod yX2_drop, Cond.selects RX2 yX2_drop yX2_drop, Cond.code yX2_drop cX2_drop 3 none, Cond.methodLink RX2 36 Lib.Math.min.name]
def wsX0_take : List Cond := .code yX0_take cX0_take 7 (some .int) :: ((wsX0_take_r1 ++ (wsX0_take_r2 ++ wsX0_take_r3)) ++ wsX00 ++ wsX20 ++ wsX40)
def wsX0_doSteps_r1 : List Cond := [Cond.methodLink RX0 55 yX0_take, Cond.instanceMethod yX0_take, Cond.selects RX0 yX0_take yX0_take, Cond.initialized RX0, Cond.code yX0_take cX0_take 7 (some .int), Cond.fieldLink RX0 14 "TagTower$Bits" "row" "LTagTower$LetterRow;", Cond.methodLink RX0 67 Lib.Math.min.name, Cond.static Lib.Math.min.name, Cond.initialized "java/lang/Math", Cond.code Lib.Math.min.name Lib.Math.min.code 2 (some .int), Cond.methodLink RX0 59 yX0_isStill, Cond.instanceMethod yX0_isStill, Cond.selects RX0 yX0_isStill yX0_isStill, Cond.code yX0_isStill cX0_isStill 2 (some .boolean), Cond.fieldLink RX0 29 "TagTower$Bits" "turn" "I", Cond.methodLink RX0 42 yX2_get, Cond.instanceMethod yX2_get, Cond.selects RX2 yX2_get yX2_get, Cond.initialized RX2, Cond.code yX2_get cX2_get 2 (some .int), Cond.fieldLink RX2 25 "TagTower$LetterRow" "size" "I", Cond.fieldLink RX2 15 "TagTower$LetterRow" "cells" "[I", Cond.fieldLink RX2 21 "TagTower$LetterRow" "head" "I", Cond.static yX6_outside]
def wsX0_doSteps_r2 : List Cond := [Cond.initialized RX6, Cond.code yX6_outside cX6_outside 3 (some .boolean), Cond.methodLink RX2 32 yX2_wrapped, Cond.instanceMethod yX2_wrapped, Cond.selects RX2 yX2_wrapped yX2_wrapped, Cond.code yX2_wrapped cX2_wrapped 2 (some .int), Cond.methodLink RX0 50 yX4_sizeOf, Cond.instanceMethod yX4_sizeOf, Cond.selects RX4 yX4_sizeOf yX4_sizeOf, Cond.initialized RX4, Cond.code yX4_sizeOf cX4_sizeOf 2 (some .int), Cond.fieldLink RX4 9 "TagTower$Productions" "sizes" "[I", Cond.methodLink RX0 32 yX0_gone, Cond.instanceMethod yX0_gone, Cond.selects RX0 yX0_gone yX0_gone, Cond.code yX0_gone cX0_gone 1 (some .int), Cond.methodLink RX0 63 yX0_takeOne, Cond.instanceMethod yX0_takeOne, Cond.selects RX0 yX0_takeOne yX0_takeOne, Cond.code yX0_takeOne cX0_takeOne 2 (some .int), Cond.constant RX0 24 (80000), Cond.methodLink RX0 36 yX0_size, Cond.instanceMethod yX0_size, Cond.selects RX0 yX0_size yX0_size]
def wsX0_doSteps_r3 : List Cond := [Cond.code yX0_size cX0_size 1 (some .int), Cond.methodLink RX0 76 yX4_appendTo, Cond.instanceMethod yX4_appendTo, Cond.selects RX4 yX4_appendTo yX4_appendTo, Cond.code yX4_appendTo cX4_appendTo 6 none, Cond.fieldLink RX4 15 "TagTower$Productions" "letters" "[I", Cond.methodLink RX4 75 yX4_sizeOf, Cond.methodLink RX4 85 yX2_append, Cond.instanceMethod yX2_append, Cond.selects RX2 yX2_append yX2_append, Cond.code yX2_append cX2_append 2 none, Cond.methodLink RX0 73 yX0_pass, Cond.instanceMethod yX0_pass, Cond.selects RX0 yX0_pass yX0_pass, Cond.code yX0_pass cX0_pass 2 none, Cond.methodLink RX0 80 yX2_drop, Cond.instanceMethod yX2_drop, Cond.selects RX2 yX2_drop yX2_drop, Cond.code yX2_drop cX2_drop 3 none, Cond.methodLink RX2 36 Lib.Math.min.name]
def wsX0_doSteps : List Cond := .code yX0_doSteps cX0_doSteps 5 (some .int) :: ((wsX0_doSteps_r1 ++ (wsX0_doSteps_r2 ++ wsX0_doSteps_r3)) ++ wsX00 ++ wsX20 ++ wsX40)
def wsX1_init : List Cond := .code yX1_init cX1_init 1 none :: ([.methodLink RX1 3 objectInit, .instanceMethod objectInit, .code objectInit ⟨#[0xb1]⟩ 1 none, .arrayClass .int, .fieldLink RX1 9 "TagTower$Counters" "values" "[I", .fieldLink RX1 15 "TagTower$Counters" "ops" "[I", .fieldLink RX1 18 "TagTower$Counters" "worked" "[I", .fieldLink RX1 21 "TagTower$Counters" "onward" "[I", .fieldLink RX1 24 "TagTower$Counters" "ifZero" "[I"] ++ wsX10)
def wsX1_addLine : List Cond := .code yX1_addLine cX1_addLine 5 (some .int) :: ([.fieldLink RX1 27 "TagTower$Counters" "lines" "I", .fieldLink RX1 15 "TagTower$Counters" "ops" "[I", .fieldLink RX1 18 "TagTower$Counters" "worked" "[I", .fieldLink RX1 21 "TagTower$Counters" "onward" "[I", .fieldLink RX1 24 "TagTower$Counters" "ifZero" "[I"] ++ wsX10)
def wsX1_forgetLines : List Cond := .code yX1_forgetLines cX1_forgetLines 2 (some .int) :: ([.fieldLink RX1 27 "TagTower$Counters" "lines" "I", .fieldLink RX1 31 "TagTower$Counters" "now" "I"] ++ wsX10)
def wsX1_value : List Cond := .code yX1_value cX1_value 2 (some .int) :: ([.fieldLink RX1 9 "TagTower$Counters" "values" "[I"] ++ wsX10)
def wsX1_putValue : List Cond := .code yX1_putValue cX1_putValue 4 (some .int) :: ([.fieldLink RX1 9 "TagTower$Counters" "values" "[I"] ++ wsX10)
def wsX1_lineNow : List Cond := .code yX1_lineNow cX1_lineNow 1 (some .int) :: ([.fieldLink RX1 31 "TagTower$Counters" "now" "I"] ++ wsX10)
def wsX1_jump : List Cond := .code yX1_jump cX1_jump 3 (some .int) :: ([.fieldLink RX1 31 "TagTower$Counters" "now" "I"] ++ wsX10)
def wsX1_countUp : List Cond := .code yX1_countUp cX1_countUp 2 (some .boolean) :: ([.fieldLink RX1 9 "TagTower$Counters" "values" "[I", .fieldLink RX1 21 "TagTower$Counters" "onward" "[I", .fieldLink RX1 31 "TagTower$Counters" "now" "I"] ++ wsX10)
def wsX1_countDown : List Cond := .code yX1_countDown cX1_countDown 2 (some .boolean) :: ([.fieldLink RX1 9 "TagTower$Counters" "values" "[I", .fieldLink RX1 24 "TagTower$Counters" "ifZero" "[I", .fieldLink RX1 31 "TagTower$Counters" "now" "I", .fieldLink RX1 21 "TagTower$Counters" "onward" "[I"] ++ wsX10)
def wsX1_doLine : List Cond := .code yX1_doLine cX1_doLine 1 (some .boolean) :: ([.fieldLink RX1 31 "TagTower$Counters" "now" "I", .fieldLink RX1 27 "TagTower$Counters" "lines" "I", .fieldLink RX1 15 "TagTower$Counters" "ops" "[I", .fieldLink RX1 18 "TagTower$Counters" "worked" "[I", .static yX6_outside, .initialized RX6, .code yX6_outside cX6_outside 3 (some .boolean), .methodLink RX1 42 yX1_countUp, .instanceMethod yX1_countUp, .selects RX1 yX1_countUp yX1_countUp, .initialized RX1, .code yX1_countUp cX1_countUp 2 (some .boolean), .fieldLink RX1 9 "TagTower$Counters" "values" "[I", .fieldLink RX1 21 "TagTower$Counters" "onward" "[I", .methodLink RX1 46 yX1_countDown, .instanceMethod yX1_countDown, .selects RX1 yX1_countDown yX1_countDown, .code yX1_countDown cX1_countDown 2 (some .boolean), .fieldLink RX1 24 "TagTower$Counters" "ifZero" "[I"] ++ wsX10)
def wsX1_doLines : List Cond := .code yX1_doLines cX1_doLines 3 (some .int) :: ([.methodLink RX1 34 yX1_doLine, .instanceMethod yX1_doLine, .selects RX1 yX1_doLine yX1_doLine, .initialized RX1, .code yX1_doLine cX1_doLine 1 (some .boolean), .fieldLink RX1 31 "TagTower$Counters" "now" "I", .fieldLink RX1 27 "TagTower$Counters" "lines" "I", .fieldLink RX1 15 "TagTower$Counters" "ops" "[I", .fieldLink RX1 18 "TagTower$Counters" "worked" "[I", .static yX6_outside, .initialized RX6, .code yX6_outside cX6_outside 3 (some .boolean), .methodLink RX1 42 yX1_countUp, .instanceMethod yX1_countUp, .selects RX1 yX1_countUp yX1_countUp, .code yX1_countUp cX1_countUp 2 (some .boolean), .fieldLink RX1 9 "TagTower$Counters" "values" "[I", .fieldLink RX1 21 "TagTower$Counters" "onward" "[I", .methodLink RX1 46 yX1_countDown, .instanceMethod yX1_countDown, .selects RX1 yX1_countDown yX1_countDown, .code yX1_countDown cX1_countDown 2 (some .boolean), .fieldLink RX1 24 "TagTower$Counters" "ifZero" "[I"] ++ wsX10)
def wsX3_init : List Cond := .code yX3_init cX3_init 1 none :: ([.methodLink RX3 3 objectInit, .instanceMethod objectInit, .code objectInit ⟨#[0xb1]⟩ 1 none, .arrayClass .boolean, .fieldLink RX3 9 "TagTower$Machine" "ruled" "[Z", .arrayClass .int, .fieldLink RX3 15 "TagTower$Machine" "signs" "[I", .fieldLink RX3 19 "TagTower$Machine" "ways" "[I", .fieldLink RX3 22 "TagTower$Machine" "states" "[I"] ++ wsX30)
def wsX3_putRule : List Cond := .code yX3_putRule cX3_putRule 5 (some .int) :: ([.fieldLink RX3 9 "TagTower$Machine" "ruled" "[Z", .fieldLink RX3 25 "TagTower$Machine" "rules" "I", .fieldLink RX3 15 "TagTower$Machine" "signs" "[I", .fieldLink RX3 19 "TagTower$Machine" "ways" "[I", .fieldLink RX3 22 "TagTower$Machine" "states" "[I"] ++ wsX30)
def wsX3_dropRule : List Cond := .code yX3_dropRule cX3_dropRule 2 (some .int) :: ([.fieldLink RX3 9 "TagTower$Machine" "ruled" "[Z", .fieldLink RX3 25 "TagTower$Machine" "rules" "I"] ++ wsX30)
def wsX3_putPlace : List Cond := .code yX3_putPlace cX3_putPlace 5 none :: ([.fieldLink RX3 29 "TagTower$Machine" "state" "I", .fieldLink RX3 32 "TagTower$Machine" "sign" "I", .fieldLink RX3 35 "TagTower$Machine" "left" "I", .fieldLink RX3 38 "TagTower$Machine" "right" "I"] ++ wsX30)
def wsX6_pairOf : List Cond := .code yX6_pairOf cX6_pairOf 2 (some .int) :: ([])
def wsX3_isStill : List Cond := .code yX3_isStill cX3_isStill 1 (some .boolean) :: ([.fieldLink RX3 9 "TagTower$Machine" "ruled" "[Z", .fieldLink RX3 29 "TagTower$Machine" "state" "I", .fieldLink RX3 32 "TagTower$Machine" "sign" "I", .static yX6_pairOf, .initialized RX6, .code yX6_pairOf cX6_pairOf 2 (some .int)] ++ wsX30)
def wsX3_doStep : List Cond := .code yX3_doStep cX3_doStep 5 (some .boolean) :: ([.fieldLink RX3 29 "TagTower$Machine" "state" "I", .fieldLink RX3 32 "TagTower$Machine" "sign" "I", .fieldLink RX3 19 "TagTower$Machine" "ways" "[I", .fieldLink RX3 35 "TagTower$Machine" "left" "I", .fieldLink RX3 38 "TagTower$Machine" "right" "I", .fieldLink RX3 15 "TagTower$Machine" "signs" "[I", .constant RX3 52 (100000), .fieldLink RX3 22 "TagTower$Machine" "states" "[I", .methodLink RX3 49 yX3_isStill, .instanceMethod yX3_isStill, .selects RX3 yX3_isStill yX3_isStill, .initialized RX3, .code yX3_isStill cX3_isStill 1 (some .boolean), .fieldLink RX3 9 "TagTower$Machine" "ruled" "[Z", .static yX6_pairOf, .initialized RX6, .code yX6_pairOf cX6_pairOf 2 (some .int)] ++ wsX30)
def wsX3_doSteps : List Cond := .code yX3_doSteps cX3_doSteps 3 (some .int) :: ([.methodLink RX3 45 yX3_doStep, .instanceMethod yX3_doStep, .selects RX3 yX3_doStep yX3_doStep, .initialized RX3, .code yX3_doStep cX3_doStep 5 (some .boolean), .fieldLink RX3 29 "TagTower$Machine" "state" "I", .fieldLink RX3 32 "TagTower$Machine" "sign" "I", .fieldLink RX3 19 "TagTower$Machine" "ways" "[I", .fieldLink RX3 35 "TagTower$Machine" "left" "I", .fieldLink RX3 38 "TagTower$Machine" "right" "I", .fieldLink RX3 15 "TagTower$Machine" "signs" "[I", .constant RX3 52 (100000), .fieldLink RX3 22 "TagTower$Machine" "states" "[I", .methodLink RX3 49 yX3_isStill, .instanceMethod yX3_isStill, .selects RX3 yX3_isStill yX3_isStill, .code yX3_isStill cX3_isStill 1 (some .boolean), .fieldLink RX3 9 "TagTower$Machine" "ruled" "[Z", .static yX6_pairOf, .initialized RX6, .code yX6_pairOf cX6_pairOf 2 (some .int)] ++ wsX30)
def wsJ0_coder_7d493 : List Cond := .code yJ0_coder_7d493 cJ0_coder_7d493 1 (some .byte) :: ([.fieldLink RJ0 38 "java/lang/String" "COMPACT_STRINGS" "Z", .fieldLink RJ0 15 "java/lang/String" "coder" "B"])
def wsJ0_length_8abf5 : List Cond := .code yJ0_length_8abf5 cJ0_length_8abf5 1 (some .int) :: ([.fieldLink RJ0 9 "java/lang/String" "value" "[B", .methodLink RJ0 335 yJ0_coder_7d493, .instanceMethod yJ0_coder_7d493, .selects RJ0 yJ0_coder_7d493 yJ0_coder_7d493, .initialized RJ0, .code yJ0_coder_7d493 cJ0_coder_7d493 1 (some .byte), .fieldLink RJ0 38 "java/lang/String" "COMPACT_STRINGS" "Z", .fieldLink RJ0 15 "java/lang/String" "coder" "B"])
def wsJ0_isLatin1_aae02 : List Cond := .code yJ0_isLatin1_aae02 cJ0_isLatin1_aae02 1 (some .boolean) :: ([.fieldLink RJ0 38 "java/lang/String" "COMPACT_STRINGS" "Z", .fieldLink RJ0 15 "java/lang/String" "coder" "B"])
def wsJ3_checkIndex_8e157 : List Cond := .code yJ3_checkIndex_8e157 cJ3_checkIndex_8e157 3 (some .int) :: ([])
def wsJ0_checkIndex_df160 : List Cond := .code yJ0_checkIndex_df160 cJ0_checkIndex_df160 2 none :: ([.fieldLink RJ0 1053 "jdk/internal/util/Preconditions" "SIOOBE_FORMATTER" "Ljava/util/function/BiFunction;", .methodLink RJ0 1059 yJ3_checkIndex_8e157, .static yJ3_checkIndex_8e157, .initialized RJ3, .code yJ3_checkIndex_8e157 cJ3_checkIndex_8e157 3 (some .int)])
def wsJ1_charAt_3b067 : List Cond := .code yJ1_charAt_3b067 cJ1_charAt_3b067 2 (some .char) :: ([.methodLink RJ1 9 yJ0_checkIndex_df160, .static yJ0_checkIndex_df160, .initialized RJ0, .code yJ0_checkIndex_df160 cJ0_checkIndex_df160 2 none, .fieldLink RJ0 1053 "jdk/internal/util/Preconditions" "SIOOBE_FORMATTER" "Ljava/util/function/BiFunction;", .methodLink RJ0 1059 yJ3_checkIndex_8e157, .static yJ3_checkIndex_8e157, .initialized RJ3, .code yJ3_checkIndex_8e157 cJ3_checkIndex_8e157 3 (some .int)])
def wsJ2_length_9d52b : List Cond := .code yJ2_length_9d52b cJ2_length_9d52b 1 (some .int) :: ([])
def wsJ2_checkIndex_2214a : List Cond := .code yJ2_checkIndex_2214a cJ2_checkIndex_2214a 2 none :: ([.methodLink RJ2 48 yJ2_length_9d52b, .static yJ2_length_9d52b, .initialized RJ2, .code yJ2_length_9d52b cJ2_length_9d52b 1 (some .int), .methodLink RJ2 414 yJ0_checkIndex_df160, .static yJ0_checkIndex_df160, .initialized RJ0, .code yJ0_checkIndex_df160 cJ0_checkIndex_df160 2 none, .fieldLink RJ0 1053 "jdk/internal/util/Preconditions" "SIOOBE_FORMATTER" "Ljava/util/function/BiFunction;", .methodLink RJ0 1059 yJ3_checkIndex_8e157, .static yJ3_checkIndex_8e157, .initialized RJ3, .code yJ3_checkIndex_8e157 cJ3_checkIndex_8e157 3 (some .int)])
def wsJ2_getChar_3b067 : List Cond := .code yJ2_getChar_3b067 cJ2_getChar_3b067 2 (some .char) :: ([.fieldLink RJ2 44 "java/lang/StringUTF16" "$assertionsDisabled" "Z", .fieldLink RJ2 59 "java/lang/StringUTF16" "HI_BYTE_SHIFT" "I", .fieldLink RJ2 63 "java/lang/StringUTF16" "LO_BYTE_SHIFT" "I", .methodLink RJ2 48 yJ2_length_9d52b, .static yJ2_length_9d52b, .initialized RJ2, .code yJ2_length_9d52b cJ2_length_9d52b 1 (some .int)])
def wsJ2_charAt_3b067 : List Cond := .code yJ2_charAt_3b067 cJ2_charAt_3b067 2 (some .char) :: ([.methodLink RJ2 67 yJ2_checkIndex_2214a, .static yJ2_checkIndex_2214a, .initialized RJ2, .code yJ2_checkIndex_2214a cJ2_checkIndex_2214a 2 none, .methodLink RJ2 48 yJ2_length_9d52b, .static yJ2_length_9d52b, .code yJ2_length_9d52b cJ2_length_9d52b 1 (some .int), .methodLink RJ2 414 yJ0_checkIndex_df160, .static yJ0_checkIndex_df160, .initialized RJ0, .code yJ0_checkIndex_df160 cJ0_checkIndex_df160 2 none, .fieldLink RJ0 1053 "jdk/internal/util/Preconditions" "SIOOBE_FORMATTER" "Ljava/util/function/BiFunction;", .methodLink RJ0 1059 yJ3_checkIndex_8e157, .static yJ3_checkIndex_8e157, .initialized RJ3, .code yJ3_checkIndex_8e157 cJ3_checkIndex_8e157 3 (some .int), .methodLink RJ2 71 yJ2_getChar_3b067, .static yJ2_getChar_3b067, .code yJ2_getChar_3b067 cJ2_getChar_3b067 2 (some .char), .fieldLink RJ2 44 "java/lang/StringUTF16" "$assertionsDisabled" "Z", .fieldLink RJ2 59 "java/lang/StringUTF16" "HI_BYTE_SHIFT" "I", .fieldLink RJ2 63 "java/lang/StringUTF16" "LO_BYTE_SHIFT" "I"])
def wsJ0_charAt_5068e_r1 : List Cond := [Cond.fieldLink RJ0 9 "java/lang/String" "value" "[B", Cond.methodLink RJ0 492 yJ0_isLatin1_aae02, Cond.instanceMethod yJ0_isLatin1_aae02, Cond.selects RJ0 yJ0_isLatin1_aae02 yJ0_isLatin1_aae02, Cond.initialized RJ0, Cond.code yJ0_isLatin1_aae02 cJ0_isLatin1_aae02 1 (some .boolean), Cond.fieldLink RJ0 38 "java/lang/String" "COMPACT_STRINGS" "Z", Cond.fieldLink RJ0 15 "java/lang/String" "coder" "B", Cond.methodLink RJ0 495 yJ1_charAt_3b067, Cond.static yJ1_charAt_3b067, Cond.initialized RJ1, Cond.code yJ1_charAt_3b067 cJ1_charAt_3b067 2 (some .char), Cond.methodLink RJ1 9 yJ0_checkIndex_df160, Cond.static yJ0_checkIndex_df160, Cond.code yJ0_checkIndex_df160 cJ0_checkIndex_df160 2 none, Cond.fieldLink RJ0 1053 "jdk/internal/util/Preconditions" "SIOOBE_FORMATTER" "Ljava/util/function/BiFunction;", Cond.methodLink RJ0 1059 yJ3_checkIndex_8e157, Cond.static yJ3_checkIndex_8e157, Cond.initialized RJ3, Cond.code yJ3_checkIndex_8e157 cJ3_checkIndex_8e157 3 (some .int), Cond.methodLink RJ0 498 yJ2_charAt_3b067, Cond.static yJ2_charAt_3b067, Cond.initialized RJ2, Cond.code yJ2_charAt_3b067 cJ2_charAt_3b067 2 (some .char)]
def wsJ0_charAt_5068e_r2 : List Cond := [Cond.methodLink RJ2 67 yJ2_checkIndex_2214a, Cond.static yJ2_checkIndex_2214a, Cond.code yJ2_checkIndex_2214a cJ2_checkIndex_2214a 2 none, Cond.methodLink RJ2 48 yJ2_length_9d52b, Cond.static yJ2_length_9d52b, Cond.code yJ2_length_9d52b cJ2_length_9d52b 1 (some .int), Cond.methodLink RJ2 414 yJ0_checkIndex_df160, Cond.methodLink RJ2 71 yJ2_getChar_3b067, Cond.static yJ2_getChar_3b067, Cond.code yJ2_getChar_3b067 cJ2_getChar_3b067 2 (some .char), Cond.fieldLink RJ2 44 "java/lang/StringUTF16" "$assertionsDisabled" "Z", Cond.fieldLink RJ2 59 "java/lang/StringUTF16" "HI_BYTE_SHIFT" "I", Cond.fieldLink RJ2 63 "java/lang/StringUTF16" "LO_BYTE_SHIFT" "I"]
def wsJ0_charAt_5068e : List Cond := .code yJ0_charAt_5068e cJ0_charAt_5068e 2 (some .char) :: ((wsJ0_charAt_5068e_r1 ++ wsJ0_charAt_5068e_r2))
def wsJ1_canEncode_9a6ad : List Cond := .code yJ1_canEncode_9a6ad cJ1_canEncode_9a6ad 1 (some .boolean) :: ([])
def wsJ1_indexOfChar_4cfef : List Cond := .code yJ1_indexOfChar_4cfef cJ1_indexOfChar_4cfef 6 (some .int) :: ([])
def wsJ1_indexOf_4cfef : List Cond := .code yJ1_indexOf_4cfef cJ1_indexOf_4cfef 4 (some .int) :: ([.methodLink RJ1 92 Lib.Math.max.name, .static Lib.Math.max.name, .initialized "java/lang/Math", .code Lib.Math.max.name Lib.Math.max.code 2 (some .int), .methodLink RJ1 38 Lib.Math.min.name, .static Lib.Math.min.name, .code Lib.Math.min.name Lib.Math.min.code 2 (some .int), .methodLink RJ1 88 yJ1_canEncode_9a6ad, .static yJ1_canEncode_9a6ad, .initialized RJ1, .code yJ1_canEncode_9a6ad cJ1_canEncode_9a6ad 1 (some .boolean), .methodLink RJ1 95 yJ1_indexOfChar_4cfef, .static yJ1_indexOfChar_4cfef, .code yJ1_indexOfChar_4cfef cJ1_indexOfChar_4cfef 6 (some .int)])
def wsJ3_checkFromToIndex_8c36e : List Cond := .code yJ3_checkFromToIndex_8c36e cJ3_checkFromToIndex_8c36e 4 (some .int) :: ([])
def wsJ0_checkBoundsBeginEnd_23922 : List Cond := .code yJ0_checkBoundsBeginEnd_23922 cJ0_checkBoundsBeginEnd_23922 3 none :: ([.fieldLink RJ0 1053 "jdk/internal/util/Preconditions" "SIOOBE_FORMATTER" "Ljava/util/function/BiFunction;", .methodLink RJ0 1062 yJ3_checkFromToIndex_8c36e, .static yJ3_checkFromToIndex_8c36e, .initialized RJ3, .code yJ3_checkFromToIndex_8c36e cJ3_checkFromToIndex_8c36e 4 (some .int)])
def wsJ2_checkBoundsBeginEnd_d044e : List Cond := .code yJ2_checkBoundsBeginEnd_d044e cJ2_checkBoundsBeginEnd_d044e 3 none :: ([.methodLink RJ2 48 yJ2_length_9d52b, .static yJ2_length_9d52b, .initialized RJ2, .code yJ2_length_9d52b cJ2_length_9d52b 1 (some .int), .methodLink RJ2 241 yJ0_checkBoundsBeginEnd_23922, .static yJ0_checkBoundsBeginEnd_23922, .initialized RJ0, .code yJ0_checkBoundsBeginEnd_23922 cJ0_checkBoundsBeginEnd_23922 3 none, .fieldLink RJ0 1053 "jdk/internal/util/Preconditions" "SIOOBE_FORMATTER" "Ljava/util/function/BiFunction;", .methodLink RJ0 1062 yJ3_checkFromToIndex_8c36e, .static yJ3_checkFromToIndex_8c36e, .initialized RJ3, .code yJ3_checkFromToIndex_8c36e cJ3_checkFromToIndex_8c36e 4 (some .int)])
def wsJ2_indexOfCharUnsafe_4cfef : List Cond := .code yJ2_indexOfCharUnsafe_4cfef cJ2_indexOfCharUnsafe_4cfef 5 (some .int) :: ([.methodLink RJ2 71 yJ2_getChar_3b067, .static yJ2_getChar_3b067, .initialized RJ2, .code yJ2_getChar_3b067 cJ2_getChar_3b067 2 (some .char), .fieldLink RJ2 44 "java/lang/StringUTF16" "$assertionsDisabled" "Z", .fieldLink RJ2 59 "java/lang/StringUTF16" "HI_BYTE_SHIFT" "I", .fieldLink RJ2 63 "java/lang/StringUTF16" "LO_BYTE_SHIFT" "I", .methodLink RJ2 48 yJ2_length_9d52b, .static yJ2_length_9d52b, .code yJ2_length_9d52b cJ2_length_9d52b 1 (some .int)])
def wsJ2_indexOfChar_4cfef_r1 : List Cond := [Cond.methodLink RJ2 96 yJ2_checkBoundsBeginEnd_d044e, Cond.static yJ2_checkBoundsBeginEnd_d044e, Cond.initialized RJ2, Cond.code yJ2_checkBoundsBeginEnd_d044e cJ2_checkBoundsBeginEnd_d044e 3 none, Cond.methodLink RJ2 48 yJ2_length_9d52b, Cond.static yJ2_length_9d52b, Cond.code yJ2_length_9d52b cJ2_length_9d52b 1 (some .int), Cond.methodLink RJ2 241 yJ0_checkBoundsBeginEnd_23922, Cond.static yJ0_checkBoundsBeginEnd_23922, Cond.initialized RJ0, Cond.code yJ0_checkBoundsBeginEnd_23922 cJ0_checkBoundsBeginEnd_23922 3 none, Cond.fieldLink RJ0 1053 "jdk/internal/util/Preconditions" "SIOOBE_FORMATTER" "Ljava/util/function/BiFunction;", Cond.methodLink RJ0 1062 yJ3_checkFromToIndex_8c36e, Cond.static yJ3_checkFromToIndex_8c36e, Cond.initialized RJ3, Cond.code yJ3_checkFromToIndex_8c36e cJ3_checkFromToIndex_8c36e 4 (some .int), Cond.methodLink RJ2 244 yJ2_indexOfCharUnsafe_4cfef, Cond.static yJ2_indexOfCharUnsafe_4cfef, Cond.code yJ2_indexOfCharUnsafe_4cfef cJ2_indexOfCharUnsafe_4cfef 5 (some .int), Cond.methodLink RJ2 71 yJ2_getChar_3b067, Cond.static yJ2_getChar_3b067, Cond.code yJ2_getChar_3b067 cJ2_getChar_3b067 2 (some .char), Cond.fieldLink RJ2 44 "java/lang/StringUTF16" "$assertionsDisabled" "Z", Cond.fieldLink RJ2 59 "java/lang/StringUTF16" "HI_BYTE_SHIFT" "I"]
def wsJ2_indexOfChar_4cfef_r2 : List Cond := [Cond.fieldLink RJ2 63 "java/lang/StringUTF16" "LO_BYTE_SHIFT" "I"]
def wsJ2_indexOfChar_4cfef : List Cond := .code yJ2_indexOfChar_4cfef cJ2_indexOfChar_4cfef 4 (some .int) :: ((wsJ2_indexOfChar_4cfef_r1 ++ wsJ2_indexOfChar_4cfef_r2))
def wsJ11_isValidCodePoint_9a6ad : List Cond := .code yJ11_isValidCodePoint_9a6ad cJ11_isValidCodePoint_9a6ad 2 (some .boolean) :: ([])
def wsJ11_highSurrogate_5068e : List Cond := .code yJ11_highSurrogate_5068e cJ11_highSurrogate_5068e 1 (some .char) :: ([.constant RJ11 110 (55232)])
def wsJ11_lowSurrogate_5068e : List Cond := .code yJ11_lowSurrogate_5068e cJ11_lowSurrogate_5068e 1 (some .char) :: ([.constant RJ11 76 (56320)])
def wsJ2_indexOfSupplementary_4cfef_r1 : List Cond := [Cond.methodLink RJ2 164 yJ11_isValidCodePoint_9a6ad, Cond.static yJ11_isValidCodePoint_9a6ad, Cond.initialized RJ11, Cond.code yJ11_isValidCodePoint_9a6ad cJ11_isValidCodePoint_9a6ad 2 (some .boolean), Cond.methodLink RJ2 157 yJ11_highSurrogate_5068e, Cond.static yJ11_highSurrogate_5068e, Cond.code yJ11_highSurrogate_5068e cJ11_highSurrogate_5068e 1 (some .char), Cond.constant RJ11 110 (55232), Cond.methodLink RJ2 161 yJ11_lowSurrogate_5068e, Cond.static yJ11_lowSurrogate_5068e, Cond.code yJ11_lowSurrogate_5068e cJ11_lowSurrogate_5068e 1 (some .char), Cond.constant RJ11 76 (56320), Cond.methodLink RJ2 96 yJ2_checkBoundsBeginEnd_d044e, Cond.static yJ2_checkBoundsBeginEnd_d044e, Cond.initialized RJ2, Cond.code yJ2_checkBoundsBeginEnd_d044e cJ2_checkBoundsBeginEnd_d044e 3 none, Cond.methodLink RJ2 48 yJ2_length_9d52b, Cond.static yJ2_length_9d52b, Cond.code yJ2_length_9d52b cJ2_length_9d52b 1 (some .int), Cond.methodLink RJ2 241 yJ0_checkBoundsBeginEnd_23922, Cond.static yJ0_checkBoundsBeginEnd_23922, Cond.initialized RJ0, Cond.code yJ0_checkBoundsBeginEnd_23922 cJ0_checkBoundsBeginEnd_23922 3 none, Cond.fieldLink RJ0 1053 "jdk/internal/util/Preconditions" "SIOOBE_FORMATTER" "Ljava/util/function/BiFunction;"]
def wsJ2_indexOfSupplementary_4cfef_r2 : List Cond := [Cond.methodLink RJ0 1062 yJ3_checkFromToIndex_8c36e, Cond.static yJ3_checkFromToIndex_8c36e, Cond.initialized RJ3, Cond.code yJ3_checkFromToIndex_8c36e cJ3_checkFromToIndex_8c36e 4 (some .int), Cond.methodLink RJ2 71 yJ2_getChar_3b067, Cond.static yJ2_getChar_3b067, Cond.code yJ2_getChar_3b067 cJ2_getChar_3b067 2 (some .char), Cond.fieldLink RJ2 44 "java/lang/StringUTF16" "$assertionsDisabled" "Z", Cond.fieldLink RJ2 59 "java/lang/StringUTF16" "HI_BYTE_SHIFT" "I", Cond.fieldLink RJ2 63 "java/lang/StringUTF16" "LO_BYTE_SHIFT" "I"]
def wsJ2_indexOfSupplementary_4cfef : List Cond := .code yJ2_indexOfSupplementary_4cfef cJ2_indexOfSupplementary_4cfef 7 (some .int) :: ((wsJ2_indexOfSupplementary_4cfef_r1 ++ wsJ2_indexOfSupplementary_4cfef_r2))
def wsJ2_indexOf_4cfef_r1 : List Cond := [Cond.methodLink RJ2 224 Lib.Math.max.name, Cond.static Lib.Math.max.name, Cond.initialized "java/lang/Math", Cond.code Lib.Math.max.name Lib.Math.max.code 2 (some .int), Cond.methodLink RJ2 183 Lib.Math.min.name, Cond.static Lib.Math.min.name, Cond.code Lib.Math.min.name Lib.Math.min.code 2 (some .int), Cond.constant RJ2 227 (65536), Cond.methodLink RJ2 228 yJ2_indexOfChar_4cfef, Cond.static yJ2_indexOfChar_4cfef, Cond.initialized RJ2, Cond.code yJ2_indexOfChar_4cfef cJ2_indexOfChar_4cfef 4 (some .int), Cond.methodLink RJ2 96 yJ2_checkBoundsBeginEnd_d044e, Cond.static yJ2_checkBoundsBeginEnd_d044e, Cond.code yJ2_checkBoundsBeginEnd_d044e cJ2_checkBoundsBeginEnd_d044e 3 none, Cond.methodLink RJ2 48 yJ2_length_9d52b, Cond.static yJ2_length_9d52b, Cond.code yJ2_length_9d52b cJ2_length_9d52b 1 (some .int), Cond.methodLink RJ2 241 yJ0_checkBoundsBeginEnd_23922, Cond.static yJ0_checkBoundsBeginEnd_23922, Cond.initialized RJ0, Cond.code yJ0_checkBoundsBeginEnd_23922 cJ0_checkBoundsBeginEnd_23922 3 none, Cond.fieldLink RJ0 1053 "jdk/internal/util/Preconditions" "SIOOBE_FORMATTER" "Ljava/util/function/BiFunction;", Cond.methodLink RJ0 1062 yJ3_checkFromToIndex_8c36e]
def wsJ2_indexOf_4cfef_r2 : List Cond := [Cond.static yJ3_checkFromToIndex_8c36e, Cond.initialized RJ3, Cond.code yJ3_checkFromToIndex_8c36e cJ3_checkFromToIndex_8c36e 4 (some .int), Cond.methodLink RJ2 244 yJ2_indexOfCharUnsafe_4cfef, Cond.static yJ2_indexOfCharUnsafe_4cfef, Cond.code yJ2_indexOfCharUnsafe_4cfef cJ2_indexOfCharUnsafe_4cfef 5 (some .int), Cond.methodLink RJ2 71 yJ2_getChar_3b067, Cond.static yJ2_getChar_3b067, Cond.code yJ2_getChar_3b067 cJ2_getChar_3b067 2 (some .char), Cond.fieldLink RJ2 44 "java/lang/StringUTF16" "$assertionsDisabled" "Z", Cond.fieldLink RJ2 59 "java/lang/StringUTF16" "HI_BYTE_SHIFT" "I", Cond.fieldLink RJ2 63 "java/lang/StringUTF16" "LO_BYTE_SHIFT" "I", Cond.methodLink RJ2 232 yJ2_indexOfSupplementary_4cfef, Cond.static yJ2_indexOfSupplementary_4cfef, Cond.code yJ2_indexOfSupplementary_4cfef cJ2_indexOfSupplementary_4cfef 7 (some .int), Cond.methodLink RJ2 164 yJ11_isValidCodePoint_9a6ad, Cond.static yJ11_isValidCodePoint_9a6ad, Cond.initialized RJ11, Cond.code yJ11_isValidCodePoint_9a6ad cJ11_isValidCodePoint_9a6ad 2 (some .boolean), Cond.methodLink RJ2 157 yJ11_highSurrogate_5068e, Cond.static yJ11_highSurrogate_5068e, Cond.code yJ11_highSurrogate_5068e cJ11_highSurrogate_5068e 1 (some .char), Cond.constant RJ11 110 (55232), Cond.methodLink RJ2 161 yJ11_lowSurrogate_5068e]
def wsJ2_indexOf_4cfef_r3 : List Cond := [Cond.static yJ11_lowSurrogate_5068e, Cond.code yJ11_lowSurrogate_5068e cJ11_lowSurrogate_5068e 1 (some .char), Cond.constant RJ11 76 (56320)]
def wsJ2_indexOf_4cfef : List Cond := .code yJ2_indexOf_4cfef cJ2_indexOf_4cfef 4 (some .int) :: ((wsJ2_indexOf_4cfef_r1 ++ (wsJ2_indexOf_4cfef_r2 ++ wsJ2_indexOf_4cfef_r3)))
def wsJ0_indexOf_7cf53_r1 : List Cond := [Cond.fieldLink RJ0 9 "java/lang/String" "value" "[B", Cond.methodLink RJ0 492 yJ0_isLatin1_aae02, Cond.instanceMethod yJ0_isLatin1_aae02, Cond.selects RJ0 yJ0_isLatin1_aae02 yJ0_isLatin1_aae02, Cond.initialized RJ0, Cond.code yJ0_isLatin1_aae02 cJ0_isLatin1_aae02 1 (some .boolean), Cond.fieldLink RJ0 38 "java/lang/String" "COMPACT_STRINGS" "Z", Cond.fieldLink RJ0 15 "java/lang/String" "coder" "B", Cond.methodLink RJ0 505 yJ0_length_8abf5, Cond.instanceMethod yJ0_length_8abf5, Cond.selects RJ0 yJ0_length_8abf5 yJ0_length_8abf5, Cond.code yJ0_length_8abf5 cJ0_length_8abf5 1 (some .int), Cond.methodLink RJ0 335 yJ0_coder_7d493, Cond.instanceMethod yJ0_coder_7d493, Cond.selects RJ0 yJ0_coder_7d493 yJ0_coder_7d493, Cond.code yJ0_coder_7d493 cJ0_coder_7d493 1 (some .byte), Cond.methodLink RJ0 637 yJ1_indexOf_4cfef, Cond.static yJ1_indexOf_4cfef, Cond.initialized RJ1, Cond.code yJ1_indexOf_4cfef cJ1_indexOf_4cfef 4 (some .int), Cond.methodLink RJ1 92 Lib.Math.max.name, Cond.static Lib.Math.max.name, Cond.initialized "java/lang/Math", Cond.code Lib.Math.max.name Lib.Math.max.code 2 (some .int)]
def wsJ0_indexOf_7cf53_r2 : List Cond := [Cond.methodLink RJ1 38 Lib.Math.min.name, Cond.static Lib.Math.min.name, Cond.code Lib.Math.min.name Lib.Math.min.code 2 (some .int), Cond.methodLink RJ1 88 yJ1_canEncode_9a6ad, Cond.static yJ1_canEncode_9a6ad, Cond.code yJ1_canEncode_9a6ad cJ1_canEncode_9a6ad 1 (some .boolean), Cond.methodLink RJ1 95 yJ1_indexOfChar_4cfef, Cond.static yJ1_indexOfChar_4cfef, Cond.code yJ1_indexOfChar_4cfef cJ1_indexOfChar_4cfef 6 (some .int), Cond.methodLink RJ0 640 yJ2_indexOf_4cfef, Cond.static yJ2_indexOf_4cfef, Cond.initialized RJ2, Cond.code yJ2_indexOf_4cfef cJ2_indexOf_4cfef 4 (some .int), Cond.methodLink RJ2 224 Lib.Math.max.name, Cond.methodLink RJ2 183 Lib.Math.min.name, Cond.constant RJ2 227 (65536), Cond.methodLink RJ2 228 yJ2_indexOfChar_4cfef, Cond.static yJ2_indexOfChar_4cfef, Cond.code yJ2_indexOfChar_4cfef cJ2_indexOfChar_4cfef 4 (some .int), Cond.methodLink RJ2 96 yJ2_checkBoundsBeginEnd_d044e, Cond.static yJ2_checkBoundsBeginEnd_d044e, Cond.code yJ2_checkBoundsBeginEnd_d044e cJ2_checkBoundsBeginEnd_d044e 3 none, Cond.methodLink RJ2 48 yJ2_length_9d52b, Cond.static yJ2_length_9d52b]
def wsJ0_indexOf_7cf53_r3 : List Cond := [Cond.code yJ2_length_9d52b cJ2_length_9d52b 1 (some .int), Cond.methodLink RJ2 241 yJ0_checkBoundsBeginEnd_23922, Cond.static yJ0_checkBoundsBeginEnd_23922, Cond.code yJ0_checkBoundsBeginEnd_23922 cJ0_checkBoundsBeginEnd_23922 3 none, Cond.fieldLink RJ0 1053 "jdk/internal/util/Preconditions" "SIOOBE_FORMATTER" "Ljava/util/function/BiFunction;", Cond.methodLink RJ0 1062 yJ3_checkFromToIndex_8c36e, Cond.static yJ3_checkFromToIndex_8c36e, Cond.initialized RJ3, Cond.code yJ3_checkFromToIndex_8c36e cJ3_checkFromToIndex_8c36e 4 (some .int), Cond.methodLink RJ2 244 yJ2_indexOfCharUnsafe_4cfef, Cond.static yJ2_indexOfCharUnsafe_4cfef, Cond.code yJ2_indexOfCharUnsafe_4cfef cJ2_indexOfCharUnsafe_4cfef 5 (some .int), Cond.methodLink RJ2 71 yJ2_getChar_3b067, Cond.static yJ2_getChar_3b067, Cond.code yJ2_getChar_3b067 cJ2_getChar_3b067 2 (some .char), Cond.fieldLink RJ2 44 "java/lang/StringUTF16" "$assertionsDisabled" "Z", Cond.fieldLink RJ2 59 "java/lang/StringUTF16" "HI_BYTE_SHIFT" "I", Cond.fieldLink RJ2 63 "java/lang/StringUTF16" "LO_BYTE_SHIFT" "I", Cond.methodLink RJ2 232 yJ2_indexOfSupplementary_4cfef, Cond.static yJ2_indexOfSupplementary_4cfef, Cond.code yJ2_indexOfSupplementary_4cfef cJ2_indexOfSupplementary_4cfef 7 (some .int), Cond.methodLink RJ2 164 yJ11_isValidCodePoint_9a6ad, Cond.static yJ11_isValidCodePoint_9a6ad, Cond.initialized RJ11]
def wsJ0_indexOf_7cf53_r4 : List Cond := [Cond.code yJ11_isValidCodePoint_9a6ad cJ11_isValidCodePoint_9a6ad 2 (some .boolean), Cond.methodLink RJ2 157 yJ11_highSurrogate_5068e, Cond.static yJ11_highSurrogate_5068e, Cond.code yJ11_highSurrogate_5068e cJ11_highSurrogate_5068e 1 (some .char), Cond.constant RJ11 110 (55232), Cond.methodLink RJ2 161 yJ11_lowSurrogate_5068e, Cond.static yJ11_lowSurrogate_5068e, Cond.code yJ11_lowSurrogate_5068e cJ11_lowSurrogate_5068e 1 (some .char), Cond.constant RJ11 76 (56320)]
def wsJ0_indexOf_7cf53 : List Cond := .code yJ0_indexOf_7cf53 cJ0_indexOf_7cf53 3 (some .int) :: ((wsJ0_indexOf_7cf53_r1 ++ (wsJ0_indexOf_7cf53_r2 ++ (wsJ0_indexOf_7cf53_r3 ++ wsJ0_indexOf_7cf53_r4))))
def wsJ0_indexOf_0f7a4_r1 : List Cond := [Cond.methodLink RJ0 633 yJ0_indexOf_7cf53, Cond.instanceMethod yJ0_indexOf_7cf53, Cond.selects RJ0 yJ0_indexOf_7cf53 yJ0_indexOf_7cf53, Cond.initialized RJ0, Cond.code yJ0_indexOf_7cf53 cJ0_indexOf_7cf53 3 (some .int), Cond.fieldLink RJ0 9 "java/lang/String" "value" "[B", Cond.methodLink RJ0 492 yJ0_isLatin1_aae02, Cond.instanceMethod yJ0_isLatin1_aae02, Cond.selects RJ0 yJ0_isLatin1_aae02 yJ0_isLatin1_aae02, Cond.code yJ0_isLatin1_aae02 cJ0_isLatin1_aae02 1 (some .boolean), Cond.fieldLink RJ0 38 "java/lang/String" "COMPACT_STRINGS" "Z", Cond.fieldLink RJ0 15 "java/lang/String" "coder" "B", Cond.methodLink RJ0 505 yJ0_length_8abf5, Cond.instanceMethod yJ0_length_8abf5, Cond.selects RJ0 yJ0_length_8abf5 yJ0_length_8abf5, Cond.code yJ0_length_8abf5 cJ0_length_8abf5 1 (some .int), Cond.methodLink RJ0 335 yJ0_coder_7d493, Cond.instanceMethod yJ0_coder_7d493, Cond.selects RJ0 yJ0_coder_7d493 yJ0_coder_7d493, Cond.code yJ0_coder_7d493 cJ0_coder_7d493 1 (some .byte), Cond.methodLink RJ0 637 yJ1_indexOf_4cfef, Cond.static yJ1_indexOf_4cfef, Cond.initialized RJ1, Cond.code yJ1_indexOf_4cfef cJ1_indexOf_4cfef 4 (some .int)]
def wsJ0_indexOf_0f7a4_r2 : List Cond := [Cond.methodLink RJ1 92 Lib.Math.max.name, Cond.static Lib.Math.max.name, Cond.initialized "java/lang/Math", Cond.code Lib.Math.max.name Lib.Math.max.code 2 (some .int), Cond.methodLink RJ1 38 Lib.Math.min.name, Cond.static Lib.Math.min.name, Cond.code Lib.Math.min.name Lib.Math.min.code 2 (some .int), Cond.methodLink RJ1 88 yJ1_canEncode_9a6ad, Cond.static yJ1_canEncode_9a6ad, Cond.code yJ1_canEncode_9a6ad cJ1_canEncode_9a6ad 1 (some .boolean), Cond.methodLink RJ1 95 yJ1_indexOfChar_4cfef, Cond.static yJ1_indexOfChar_4cfef, Cond.code yJ1_indexOfChar_4cfef cJ1_indexOfChar_4cfef 6 (some .int), Cond.methodLink RJ0 640 yJ2_indexOf_4cfef, Cond.static yJ2_indexOf_4cfef, Cond.initialized RJ2, Cond.code yJ2_indexOf_4cfef cJ2_indexOf_4cfef 4 (some .int), Cond.methodLink RJ2 224 Lib.Math.max.name, Cond.methodLink RJ2 183 Lib.Math.min.name, Cond.constant RJ2 227 (65536), Cond.methodLink RJ2 228 yJ2_indexOfChar_4cfef, Cond.static yJ2_indexOfChar_4cfef, Cond.code yJ2_indexOfChar_4cfef cJ2_indexOfChar_4cfef 4 (some .int), Cond.methodLink RJ2 96 yJ2_checkBoundsBeginEnd_d044e]
def wsJ0_indexOf_0f7a4_r3 : List Cond := [Cond.static yJ2_checkBoundsBeginEnd_d044e, Cond.code yJ2_checkBoundsBeginEnd_d044e cJ2_checkBoundsBeginEnd_d044e 3 none, Cond.methodLink RJ2 48 yJ2_length_9d52b, Cond.static yJ2_length_9d52b, Cond.code yJ2_length_9d52b cJ2_length_9d52b 1 (some .int), Cond.methodLink RJ2 241 yJ0_checkBoundsBeginEnd_23922, Cond.static yJ0_checkBoundsBeginEnd_23922, Cond.code yJ0_checkBoundsBeginEnd_23922 cJ0_checkBoundsBeginEnd_23922 3 none, Cond.fieldLink RJ0 1053 "jdk/internal/util/Preconditions" "SIOOBE_FORMATTER" "Ljava/util/function/BiFunction;", Cond.methodLink RJ0 1062 yJ3_checkFromToIndex_8c36e, Cond.static yJ3_checkFromToIndex_8c36e, Cond.initialized RJ3, Cond.code yJ3_checkFromToIndex_8c36e cJ3_checkFromToIndex_8c36e 4 (some .int), Cond.methodLink RJ2 244 yJ2_indexOfCharUnsafe_4cfef, Cond.static yJ2_indexOfCharUnsafe_4cfef, Cond.code yJ2_indexOfCharUnsafe_4cfef cJ2_indexOfCharUnsafe_4cfef 5 (some .int), Cond.methodLink RJ2 71 yJ2_getChar_3b067, Cond.static yJ2_getChar_3b067, Cond.code yJ2_getChar_3b067 cJ2_getChar_3b067 2 (some .char), Cond.fieldLink RJ2 44 "java/lang/StringUTF16" "$assertionsDisabled" "Z", Cond.fieldLink RJ2 59 "java/lang/StringUTF16" "HI_BYTE_SHIFT" "I", Cond.fieldLink RJ2 63 "java/lang/StringUTF16" "LO_BYTE_SHIFT" "I", Cond.methodLink RJ2 232 yJ2_indexOfSupplementary_4cfef, Cond.static yJ2_indexOfSupplementary_4cfef]
def wsJ0_indexOf_0f7a4_r4 : List Cond := [Cond.code yJ2_indexOfSupplementary_4cfef cJ2_indexOfSupplementary_4cfef 7 (some .int), Cond.methodLink RJ2 164 yJ11_isValidCodePoint_9a6ad, Cond.static yJ11_isValidCodePoint_9a6ad, Cond.initialized RJ11, Cond.code yJ11_isValidCodePoint_9a6ad cJ11_isValidCodePoint_9a6ad 2 (some .boolean), Cond.methodLink RJ2 157 yJ11_highSurrogate_5068e, Cond.static yJ11_highSurrogate_5068e, Cond.code yJ11_highSurrogate_5068e cJ11_highSurrogate_5068e 1 (some .char), Cond.constant RJ11 110 (55232), Cond.methodLink RJ2 161 yJ11_lowSurrogate_5068e, Cond.static yJ11_lowSurrogate_5068e, Cond.code yJ11_lowSurrogate_5068e cJ11_lowSurrogate_5068e 1 (some .char), Cond.constant RJ11 76 (56320)]
def wsJ0_indexOf_0f7a4 : List Cond := .code yJ0_indexOf_0f7a4 cJ0_indexOf_0f7a4 2 (some .int) :: ((wsJ0_indexOf_0f7a4_r1 ++ (wsJ0_indexOf_0f7a4_r2 ++ (wsJ0_indexOf_0f7a4_r3 ++ wsJ0_indexOf_0f7a4_r4))))
def wsX4_number : List Cond := .code yX4_number cX4_number 2 (some .int) :: ([])
def wsX4_pairMarked : List Cond := .code yX4_pairMarked cX4_pairMarked 3 (some .int) :: ([.static yX6_pairOf, .initialized RX6, .code yX6_pairOf cX6_pairOf 2 (some .int)])
def wsX4_append : List Cond := .code yX4_append cX4_append 3 none :: ([.fieldLink RX4 9 "TagTower$Productions" "sizes" "[I", .fieldLink RX4 15 "TagTower$Productions" "letters" "[I"] ++ wsX40)
def wsX4_write_r1 : List Cond := [Cond.methodLink RX4 40 yJ0_length_8abf5, Cond.instanceMethod yJ0_length_8abf5, Cond.selects RJ0 yJ0_length_8abf5 yJ0_length_8abf5, Cond.initialized RJ0, Cond.code yJ0_length_8abf5 cJ0_length_8abf5 1 (some .int), Cond.fieldLink RJ0 9 "java/lang/String" "value" "[B", Cond.methodLink RJ0 335 yJ0_coder_7d493, Cond.instanceMethod yJ0_coder_7d493, Cond.selects RJ0 yJ0_coder_7d493 yJ0_coder_7d493, Cond.code yJ0_coder_7d493 cJ0_coder_7d493 1 (some .byte), Cond.fieldLink RJ0 38 "java/lang/String" "COMPACT_STRINGS" "Z", Cond.fieldLink RJ0 15 "java/lang/String" "coder" "B", Cond.methodLink RX4 46 yJ0_charAt_5068e, Cond.instanceMethod yJ0_charAt_5068e, Cond.selects RJ0 yJ0_charAt_5068e yJ0_charAt_5068e, Cond.code yJ0_charAt_5068e cJ0_charAt_5068e 2 (some .char), Cond.methodLink RJ0 492 yJ0_isLatin1_aae02, Cond.instanceMethod yJ0_isLatin1_aae02, Cond.selects RJ0 yJ0_isLatin1_aae02 yJ0_isLatin1_aae02, Cond.code yJ0_isLatin1_aae02 cJ0_isLatin1_aae02 1 (some .boolean), Cond.methodLink RJ0 495 yJ1_charAt_3b067, Cond.static yJ1_charAt_3b067, Cond.initialized RJ1, Cond.code yJ1_charAt_3b067 cJ1_charAt_3b067 2 (some .char)]
def wsX4_write_r2 : List Cond := [Cond.methodLink RJ1 9 yJ0_checkIndex_df160, Cond.static yJ0_checkIndex_df160, Cond.code yJ0_checkIndex_df160 cJ0_checkIndex_df160 2 none, Cond.fieldLink RJ0 1053 "jdk/internal/util/Preconditions" "SIOOBE_FORMATTER" "Ljava/util/function/BiFunction;", Cond.methodLink RJ0 1059 yJ3_checkIndex_8e157, Cond.static yJ3_checkIndex_8e157, Cond.initialized RJ3, Cond.code yJ3_checkIndex_8e157 cJ3_checkIndex_8e157 3 (some .int), Cond.methodLink RJ0 498 yJ2_charAt_3b067, Cond.static yJ2_charAt_3b067, Cond.initialized RJ2, Cond.code yJ2_charAt_3b067 cJ2_charAt_3b067 2 (some .char), Cond.methodLink RJ2 67 yJ2_checkIndex_2214a, Cond.static yJ2_checkIndex_2214a, Cond.code yJ2_checkIndex_2214a cJ2_checkIndex_2214a 2 none, Cond.methodLink RJ2 48 yJ2_length_9d52b, Cond.static yJ2_length_9d52b, Cond.code yJ2_length_9d52b cJ2_length_9d52b 1 (some .int), Cond.methodLink RJ2 414 yJ0_checkIndex_df160, Cond.methodLink RJ2 71 yJ2_getChar_3b067, Cond.static yJ2_getChar_3b067, Cond.code yJ2_getChar_3b067 cJ2_getChar_3b067 2 (some .char), Cond.fieldLink RJ2 44 "java/lang/StringUTF16" "$assertionsDisabled" "Z", Cond.fieldLink RJ2 59 "java/lang/StringUTF16" "HI_BYTE_SHIFT" "I"]
def wsX4_write_r3 : List Cond := [Cond.fieldLink RJ2 63 "java/lang/StringUTF16" "LO_BYTE_SHIFT" "I", Cond.methodLink RX4 52 yJ0_indexOf_0f7a4, Cond.instanceMethod yJ0_indexOf_0f7a4, Cond.selects RJ0 yJ0_indexOf_0f7a4 yJ0_indexOf_0f7a4, Cond.code yJ0_indexOf_0f7a4 cJ0_indexOf_0f7a4 2 (some .int), Cond.methodLink RJ0 633 yJ0_indexOf_7cf53, Cond.instanceMethod yJ0_indexOf_7cf53, Cond.selects RJ0 yJ0_indexOf_7cf53 yJ0_indexOf_7cf53, Cond.code yJ0_indexOf_7cf53 cJ0_indexOf_7cf53 3 (some .int), Cond.methodLink RJ0 505 yJ0_length_8abf5, Cond.methodLink RJ0 637 yJ1_indexOf_4cfef, Cond.static yJ1_indexOf_4cfef, Cond.code yJ1_indexOf_4cfef cJ1_indexOf_4cfef 4 (some .int), Cond.methodLink RJ1 92 Lib.Math.max.name, Cond.static Lib.Math.max.name, Cond.initialized "java/lang/Math", Cond.code Lib.Math.max.name Lib.Math.max.code 2 (some .int), Cond.methodLink RJ1 38 Lib.Math.min.name, Cond.static Lib.Math.min.name, Cond.code Lib.Math.min.name Lib.Math.min.code 2 (some .int), Cond.methodLink RJ1 88 yJ1_canEncode_9a6ad, Cond.static yJ1_canEncode_9a6ad, Cond.code yJ1_canEncode_9a6ad cJ1_canEncode_9a6ad 1 (some .boolean), Cond.methodLink RJ1 95 yJ1_indexOfChar_4cfef]
def wsX4_write_r4 : List Cond := [Cond.static yJ1_indexOfChar_4cfef, Cond.code yJ1_indexOfChar_4cfef cJ1_indexOfChar_4cfef 6 (some .int), Cond.methodLink RJ0 640 yJ2_indexOf_4cfef, Cond.static yJ2_indexOf_4cfef, Cond.code yJ2_indexOf_4cfef cJ2_indexOf_4cfef 4 (some .int), Cond.methodLink RJ2 224 Lib.Math.max.name, Cond.methodLink RJ2 183 Lib.Math.min.name, Cond.constant RJ2 227 (65536), Cond.methodLink RJ2 228 yJ2_indexOfChar_4cfef, Cond.static yJ2_indexOfChar_4cfef, Cond.code yJ2_indexOfChar_4cfef cJ2_indexOfChar_4cfef 4 (some .int), Cond.methodLink RJ2 96 yJ2_checkBoundsBeginEnd_d044e, Cond.static yJ2_checkBoundsBeginEnd_d044e, Cond.code yJ2_checkBoundsBeginEnd_d044e cJ2_checkBoundsBeginEnd_d044e 3 none, Cond.methodLink RJ2 241 yJ0_checkBoundsBeginEnd_23922, Cond.static yJ0_checkBoundsBeginEnd_23922, Cond.code yJ0_checkBoundsBeginEnd_23922 cJ0_checkBoundsBeginEnd_23922 3 none, Cond.methodLink RJ0 1062 yJ3_checkFromToIndex_8c36e, Cond.static yJ3_checkFromToIndex_8c36e, Cond.code yJ3_checkFromToIndex_8c36e cJ3_checkFromToIndex_8c36e 4 (some .int), Cond.methodLink RJ2 244 yJ2_indexOfCharUnsafe_4cfef, Cond.static yJ2_indexOfCharUnsafe_4cfef, Cond.code yJ2_indexOfCharUnsafe_4cfef cJ2_indexOfCharUnsafe_4cfef 5 (some .int), Cond.methodLink RJ2 232 yJ2_indexOfSupplementary_4cfef]
def wsX4_write_r5 : List Cond := [Cond.static yJ2_indexOfSupplementary_4cfef, Cond.code yJ2_indexOfSupplementary_4cfef cJ2_indexOfSupplementary_4cfef 7 (some .int), Cond.methodLink RJ2 164 yJ11_isValidCodePoint_9a6ad, Cond.static yJ11_isValidCodePoint_9a6ad, Cond.initialized RJ11, Cond.code yJ11_isValidCodePoint_9a6ad cJ11_isValidCodePoint_9a6ad 2 (some .boolean), Cond.methodLink RJ2 157 yJ11_highSurrogate_5068e, Cond.static yJ11_highSurrogate_5068e, Cond.code yJ11_highSurrogate_5068e cJ11_highSurrogate_5068e 1 (some .char), Cond.constant RJ11 110 (55232), Cond.methodLink RJ2 161 yJ11_lowSurrogate_5068e, Cond.static yJ11_lowSurrogate_5068e, Cond.code yJ11_lowSurrogate_5068e cJ11_lowSurrogate_5068e 1 (some .char), Cond.constant RJ11 76 (56320), Cond.methodLink RX4 56 yX4_number, Cond.static yX4_number, Cond.initialized RX4, Cond.code yX4_number cX4_number 2 (some .int), Cond.methodLink RX4 60 yX4_pairMarked, Cond.static yX4_pairMarked, Cond.code yX4_pairMarked cX4_pairMarked 3 (some .int), Cond.static yX6_pairOf, Cond.initialized RX6, Cond.code yX6_pairOf cX6_pairOf 2 (some .int)]
def wsX4_write_r6 : List Cond := [Cond.methodLink RX4 64 yX4_append, Cond.instanceMethod yX4_append, Cond.selects RX4 yX4_append yX4_append, Cond.code yX4_append cX4_append 3 none, Cond.fieldLink RX4 9 "TagTower$Productions" "sizes" "[I", Cond.fieldLink RX4 15 "TagTower$Productions" "letters" "[I"]
def wsX4_write : List Cond := .code yX4_write cX4_write 8 none :: ((wsX4_write_r1 ++ (wsX4_write_r2 ++ (wsX4_write_r3 ++ (wsX4_write_r4 ++ (wsX4_write_r5 ++ wsX4_write_r6))))) ++ wsX40)
def wsX4_followNone_r1 : List Cond := [Cond.fieldLink RX4 9 "TagTower$Productions" "sizes" "[I", Cond.methodLink RX4 24 yX4_write, Cond.instanceMethod yX4_write, Cond.selects RX4 yX4_write yX4_write, Cond.initialized RX4, Cond.code yX4_write cX4_write 8 none, Cond.methodLink RX4 40 yJ0_length_8abf5, Cond.instanceMethod yJ0_length_8abf5, Cond.selects RJ0 yJ0_length_8abf5 yJ0_length_8abf5, Cond.initialized RJ0, Cond.code yJ0_length_8abf5 cJ0_length_8abf5 1 (some .int), Cond.fieldLink RJ0 9 "java/lang/String" "value" "[B", Cond.methodLink RJ0 335 yJ0_coder_7d493, Cond.instanceMethod yJ0_coder_7d493, Cond.selects RJ0 yJ0_coder_7d493 yJ0_coder_7d493, Cond.code yJ0_coder_7d493 cJ0_coder_7d493 1 (some .byte), Cond.fieldLink RJ0 38 "java/lang/String" "COMPACT_STRINGS" "Z", Cond.fieldLink RJ0 15 "java/lang/String" "coder" "B", Cond.methodLink RX4 46 yJ0_charAt_5068e, Cond.instanceMethod yJ0_charAt_5068e, Cond.selects RJ0 yJ0_charAt_5068e yJ0_charAt_5068e, Cond.code yJ0_charAt_5068e cJ0_charAt_5068e 2 (some .char), Cond.methodLink RJ0 492 yJ0_isLatin1_aae02, Cond.instanceMethod yJ0_isLatin1_aae02]
def wsX4_followNone_r2 : List Cond := [Cond.selects RJ0 yJ0_isLatin1_aae02 yJ0_isLatin1_aae02, Cond.code yJ0_isLatin1_aae02 cJ0_isLatin1_aae02 1 (some .boolean), Cond.methodLink RJ0 495 yJ1_charAt_3b067, Cond.static yJ1_charAt_3b067, Cond.initialized RJ1, Cond.code yJ1_charAt_3b067 cJ1_charAt_3b067 2 (some .char), Cond.methodLink RJ1 9 yJ0_checkIndex_df160, Cond.static yJ0_checkIndex_df160, Cond.code yJ0_checkIndex_df160 cJ0_checkIndex_df160 2 none, Cond.fieldLink RJ0 1053 "jdk/internal/util/Preconditions" "SIOOBE_FORMATTER" "Ljava/util/function/BiFunction;", Cond.methodLink RJ0 1059 yJ3_checkIndex_8e157, Cond.static yJ3_checkIndex_8e157, Cond.initialized RJ3, Cond.code yJ3_checkIndex_8e157 cJ3_checkIndex_8e157 3 (some .int), Cond.methodLink RJ0 498 yJ2_charAt_3b067, Cond.static yJ2_charAt_3b067, Cond.initialized RJ2, Cond.code yJ2_charAt_3b067 cJ2_charAt_3b067 2 (some .char), Cond.methodLink RJ2 67 yJ2_checkIndex_2214a, Cond.static yJ2_checkIndex_2214a, Cond.code yJ2_checkIndex_2214a cJ2_checkIndex_2214a 2 none, Cond.methodLink RJ2 48 yJ2_length_9d52b, Cond.static yJ2_length_9d52b, Cond.code yJ2_length_9d52b cJ2_length_9d52b 1 (some .int)]
def wsX4_followNone_r3 : List Cond := [Cond.methodLink RJ2 414 yJ0_checkIndex_df160, Cond.methodLink RJ2 71 yJ2_getChar_3b067, Cond.static yJ2_getChar_3b067, Cond.code yJ2_getChar_3b067 cJ2_getChar_3b067 2 (some .char), Cond.fieldLink RJ2 44 "java/lang/StringUTF16" "$assertionsDisabled" "Z", Cond.fieldLink RJ2 59 "java/lang/StringUTF16" "HI_BYTE_SHIFT" "I", Cond.fieldLink RJ2 63 "java/lang/StringUTF16" "LO_BYTE_SHIFT" "I", Cond.methodLink RX4 52 yJ0_indexOf_0f7a4, Cond.instanceMethod yJ0_indexOf_0f7a4, Cond.selects RJ0 yJ0_indexOf_0f7a4 yJ0_indexOf_0f7a4, Cond.code yJ0_indexOf_0f7a4 cJ0_indexOf_0f7a4 2 (some .int), Cond.methodLink RJ0 633 yJ0_indexOf_7cf53, Cond.instanceMethod yJ0_indexOf_7cf53, Cond.selects RJ0 yJ0_indexOf_7cf53 yJ0_indexOf_7cf53, Cond.code yJ0_indexOf_7cf53 cJ0_indexOf_7cf53 3 (some .int), Cond.methodLink RJ0 505 yJ0_length_8abf5, Cond.methodLink RJ0 637 yJ1_indexOf_4cfef, Cond.static yJ1_indexOf_4cfef, Cond.code yJ1_indexOf_4cfef cJ1_indexOf_4cfef 4 (some .int), Cond.methodLink RJ1 92 Lib.Math.max.name, Cond.static Lib.Math.max.name, Cond.initialized "java/lang/Math", Cond.code Lib.Math.max.name Lib.Math.max.code 2 (some .int), Cond.methodLink RJ1 38 Lib.Math.min.name]
def wsX4_followNone_r4 : List Cond := [Cond.static Lib.Math.min.name, Cond.code Lib.Math.min.name Lib.Math.min.code 2 (some .int), Cond.methodLink RJ1 88 yJ1_canEncode_9a6ad, Cond.static yJ1_canEncode_9a6ad, Cond.code yJ1_canEncode_9a6ad cJ1_canEncode_9a6ad 1 (some .boolean), Cond.methodLink RJ1 95 yJ1_indexOfChar_4cfef, Cond.static yJ1_indexOfChar_4cfef, Cond.code yJ1_indexOfChar_4cfef cJ1_indexOfChar_4cfef 6 (some .int), Cond.methodLink RJ0 640 yJ2_indexOf_4cfef, Cond.static yJ2_indexOf_4cfef, Cond.code yJ2_indexOf_4cfef cJ2_indexOf_4cfef 4 (some .int), Cond.methodLink RJ2 224 Lib.Math.max.name, Cond.methodLink RJ2 183 Lib.Math.min.name, Cond.constant RJ2 227 (65536), Cond.methodLink RJ2 228 yJ2_indexOfChar_4cfef, Cond.static yJ2_indexOfChar_4cfef, Cond.code yJ2_indexOfChar_4cfef cJ2_indexOfChar_4cfef 4 (some .int), Cond.methodLink RJ2 96 yJ2_checkBoundsBeginEnd_d044e, Cond.static yJ2_checkBoundsBeginEnd_d044e, Cond.code yJ2_checkBoundsBeginEnd_d044e cJ2_checkBoundsBeginEnd_d044e 3 none, Cond.methodLink RJ2 241 yJ0_checkBoundsBeginEnd_23922, Cond.static yJ0_checkBoundsBeginEnd_23922, Cond.code yJ0_checkBoundsBeginEnd_23922 cJ0_checkBoundsBeginEnd_23922 3 none, Cond.methodLink RJ0 1062 yJ3_checkFromToIndex_8c36e]
def wsX4_followNone_r5 : List Cond := [Cond.static yJ3_checkFromToIndex_8c36e, Cond.code yJ3_checkFromToIndex_8c36e cJ3_checkFromToIndex_8c36e 4 (some .int), Cond.methodLink RJ2 244 yJ2_indexOfCharUnsafe_4cfef, Cond.static yJ2_indexOfCharUnsafe_4cfef, Cond.code yJ2_indexOfCharUnsafe_4cfef cJ2_indexOfCharUnsafe_4cfef 5 (some .int), Cond.methodLink RJ2 232 yJ2_indexOfSupplementary_4cfef, Cond.static yJ2_indexOfSupplementary_4cfef, Cond.code yJ2_indexOfSupplementary_4cfef cJ2_indexOfSupplementary_4cfef 7 (some .int), Cond.methodLink RJ2 164 yJ11_isValidCodePoint_9a6ad, Cond.static yJ11_isValidCodePoint_9a6ad, Cond.initialized RJ11, Cond.code yJ11_isValidCodePoint_9a6ad cJ11_isValidCodePoint_9a6ad 2 (some .boolean), Cond.methodLink RJ2 157 yJ11_highSurrogate_5068e, Cond.static yJ11_highSurrogate_5068e, Cond.code yJ11_highSurrogate_5068e cJ11_highSurrogate_5068e 1 (some .char), Cond.constant RJ11 110 (55232), Cond.methodLink RJ2 161 yJ11_lowSurrogate_5068e, Cond.static yJ11_lowSurrogate_5068e, Cond.code yJ11_lowSurrogate_5068e cJ11_lowSurrogate_5068e 1 (some .char), Cond.constant RJ11 76 (56320), Cond.methodLink RX4 56 yX4_number, Cond.static yX4_number, Cond.code yX4_number cX4_number 2 (some .int), Cond.methodLink RX4 60 yX4_pairMarked]
def wsX4_followNone_r6 : List Cond := [Cond.static yX4_pairMarked, Cond.code yX4_pairMarked cX4_pairMarked 3 (some .int), Cond.static yX6_pairOf, Cond.initialized RX6, Cond.code yX6_pairOf cX6_pairOf 2 (some .int), Cond.methodLink RX4 64 yX4_append, Cond.instanceMethod yX4_append, Cond.selects RX4 yX4_append yX4_append, Cond.code yX4_append cX4_append 3 none, Cond.fieldLink RX4 15 "TagTower$Productions" "letters" "[I"]
def wsX4_followNone : List Cond := .code yX4_followNone cX4_followNone 3 none :: ((wsX4_followNone_r1 ++ (wsX4_followNone_r2 ++ (wsX4_followNone_r3 ++ (wsX4_followNone_r4 ++ (wsX4_followNone_r5 ++ wsX4_followNone_r6))))) ++ wsX40)
def wsX4_init_r1 : List Cond := [Cond.methodLink RX4 3 objectInit, Cond.instanceMethod objectInit, Cond.code objectInit ⟨#[0xb1]⟩ 1 none, Cond.arrayClass .int, Cond.fieldLink RX4 9 "TagTower$Productions" "sizes" "[I", Cond.fieldLink RX4 15 "TagTower$Productions" "letters" "[I", Cond.methodLink RX4 18 yX4_followNone, Cond.instanceMethod yX4_followNone, Cond.selects RX4 yX4_followNone yX4_followNone, Cond.initialized RX4, Cond.code yX4_followNone cX4_followNone 3 none, Cond.methodLink RX4 24 yX4_write, Cond.instanceMethod yX4_write, Cond.selects RX4 yX4_write yX4_write, Cond.code yX4_write cX4_write 8 none, Cond.methodLink RX4 40 yJ0_length_8abf5, Cond.instanceMethod yJ0_length_8abf5, Cond.selects RJ0 yJ0_length_8abf5 yJ0_length_8abf5, Cond.initialized RJ0, Cond.code yJ0_length_8abf5 cJ0_length_8abf5 1 (some .int), Cond.fieldLink RJ0 9 "java/lang/String" "value" "[B", Cond.methodLink RJ0 335 yJ0_coder_7d493, Cond.instanceMethod yJ0_coder_7d493, Cond.selects RJ0 yJ0_coder_7d493 yJ0_coder_7d493]
def wsX4_init_r2 : List Cond := [Cond.code yJ0_coder_7d493 cJ0_coder_7d493 1 (some .byte), Cond.fieldLink RJ0 38 "java/lang/String" "COMPACT_STRINGS" "Z", Cond.fieldLink RJ0 15 "java/lang/String" "coder" "B", Cond.methodLink RX4 46 yJ0_charAt_5068e, Cond.instanceMethod yJ0_charAt_5068e, Cond.selects RJ0 yJ0_charAt_5068e yJ0_charAt_5068e, Cond.code yJ0_charAt_5068e cJ0_charAt_5068e 2 (some .char), Cond.methodLink RJ0 492 yJ0_isLatin1_aae02, Cond.instanceMethod yJ0_isLatin1_aae02, Cond.selects RJ0 yJ0_isLatin1_aae02 yJ0_isLatin1_aae02, Cond.code yJ0_isLatin1_aae02 cJ0_isLatin1_aae02 1 (some .boolean), Cond.methodLink RJ0 495 yJ1_charAt_3b067, Cond.static yJ1_charAt_3b067, Cond.initialized RJ1, Cond.code yJ1_charAt_3b067 cJ1_charAt_3b067 2 (some .char), Cond.methodLink RJ1 9 yJ0_checkIndex_df160, Cond.static yJ0_checkIndex_df160, Cond.code yJ0_checkIndex_df160 cJ0_checkIndex_df160 2 none, Cond.fieldLink RJ0 1053 "jdk/internal/util/Preconditions" "SIOOBE_FORMATTER" "Ljava/util/function/BiFunction;", Cond.methodLink RJ0 1059 yJ3_checkIndex_8e157, Cond.static yJ3_checkIndex_8e157, Cond.initialized RJ3, Cond.code yJ3_checkIndex_8e157 cJ3_checkIndex_8e157 3 (some .int), Cond.methodLink RJ0 498 yJ2_charAt_3b067]
def wsX4_init_r3 : List Cond := [Cond.static yJ2_charAt_3b067, Cond.initialized RJ2, Cond.code yJ2_charAt_3b067 cJ2_charAt_3b067 2 (some .char), Cond.methodLink RJ2 67 yJ2_checkIndex_2214a, Cond.static yJ2_checkIndex_2214a, Cond.code yJ2_checkIndex_2214a cJ2_checkIndex_2214a 2 none, Cond.methodLink RJ2 48 yJ2_length_9d52b, Cond.static yJ2_length_9d52b, Cond.code yJ2_length_9d52b cJ2_length_9d52b 1 (some .int), Cond.methodLink RJ2 414 yJ0_checkIndex_df160, Cond.methodLink RJ2 71 yJ2_getChar_3b067, Cond.static yJ2_getChar_3b067, Cond.code yJ2_getChar_3b067 cJ2_getChar_3b067 2 (some .char), Cond.fieldLink RJ2 44 "java/lang/StringUTF16" "$assertionsDisabled" "Z", Cond.fieldLink RJ2 59 "java/lang/StringUTF16" "HI_BYTE_SHIFT" "I", Cond.fieldLink RJ2 63 "java/lang/StringUTF16" "LO_BYTE_SHIFT" "I", Cond.methodLink RX4 52 yJ0_indexOf_0f7a4, Cond.instanceMethod yJ0_indexOf_0f7a4, Cond.selects RJ0 yJ0_indexOf_0f7a4 yJ0_indexOf_0f7a4, Cond.code yJ0_indexOf_0f7a4 cJ0_indexOf_0f7a4 2 (some .int), Cond.methodLink RJ0 633 yJ0_indexOf_7cf53, Cond.instanceMethod yJ0_indexOf_7cf53, Cond.selects RJ0 yJ0_indexOf_7cf53 yJ0_indexOf_7cf53, Cond.code yJ0_indexOf_7cf53 cJ0_indexOf_7cf53 3 (some .int)]
def wsX4_init_r4 : List Cond := [Cond.methodLink RJ0 505 yJ0_length_8abf5, Cond.methodLink RJ0 637 yJ1_indexOf_4cfef, Cond.static yJ1_indexOf_4cfef, Cond.code yJ1_indexOf_4cfef cJ1_indexOf_4cfef 4 (some .int), Cond.methodLink RJ1 92 Lib.Math.max.name, Cond.static Lib.Math.max.name, Cond.initialized "java/lang/Math", Cond.code Lib.Math.max.name Lib.Math.max.code 2 (some .int), Cond.methodLink RJ1 38 Lib.Math.min.name, Cond.static Lib.Math.min.name, Cond.code Lib.Math.min.name Lib.Math.min.code 2 (some .int), Cond.methodLink RJ1 88 yJ1_canEncode_9a6ad, Cond.static yJ1_canEncode_9a6ad, Cond.code yJ1_canEncode_9a6ad cJ1_canEncode_9a6ad 1 (some .boolean), Cond.methodLink RJ1 95 yJ1_indexOfChar_4cfef, Cond.static yJ1_indexOfChar_4cfef, Cond.code yJ1_indexOfChar_4cfef cJ1_indexOfChar_4cfef 6 (some .int), Cond.methodLink RJ0 640 yJ2_indexOf_4cfef, Cond.static yJ2_indexOf_4cfef, Cond.code yJ2_indexOf_4cfef cJ2_indexOf_4cfef 4 (some .int), Cond.methodLink RJ2 224 Lib.Math.max.name, Cond.methodLink RJ2 183 Lib.Math.min.name, Cond.constant RJ2 227 (65536), Cond.methodLink RJ2 228 yJ2_indexOfChar_4cfef]
def wsX4_init_r5 : List Cond := [Cond.static yJ2_indexOfChar_4cfef, Cond.code yJ2_indexOfChar_4cfef cJ2_indexOfChar_4cfef 4 (some .int), Cond.methodLink RJ2 96 yJ2_checkBoundsBeginEnd_d044e, Cond.static yJ2_checkBoundsBeginEnd_d044e, Cond.code yJ2_checkBoundsBeginEnd_d044e cJ2_checkBoundsBeginEnd_d044e 3 none, Cond.methodLink RJ2 241 yJ0_checkBoundsBeginEnd_23922, Cond.static yJ0_checkBoundsBeginEnd_23922, Cond.code yJ0_checkBoundsBeginEnd_23922 cJ0_checkBoundsBeginEnd_23922 3 none, Cond.methodLink RJ0 1062 yJ3_checkFromToIndex_8c36e, Cond.static yJ3_checkFromToIndex_8c36e, Cond.code yJ3_checkFromToIndex_8c36e cJ3_checkFromToIndex_8c36e 4 (some .int), Cond.methodLink RJ2 244 yJ2_indexOfCharUnsafe_4cfef, Cond.static yJ2_indexOfCharUnsafe_4cfef, Cond.code yJ2_indexOfCharUnsafe_4cfef cJ2_indexOfCharUnsafe_4cfef 5 (some .int), Cond.methodLink RJ2 232 yJ2_indexOfSupplementary_4cfef, Cond.static yJ2_indexOfSupplementary_4cfef, Cond.code yJ2_indexOfSupplementary_4cfef cJ2_indexOfSupplementary_4cfef 7 (some .int), Cond.methodLink RJ2 164 yJ11_isValidCodePoint_9a6ad, Cond.static yJ11_isValidCodePoint_9a6ad, Cond.initialized RJ11, Cond.code yJ11_isValidCodePoint_9a6ad cJ11_isValidCodePoint_9a6ad 2 (some .boolean), Cond.methodLink RJ2 157 yJ11_highSurrogate_5068e, Cond.static yJ11_highSurrogate_5068e, Cond.code yJ11_highSurrogate_5068e cJ11_highSurrogate_5068e 1 (some .char)]
def wsX4_init_r6 : List Cond := [Cond.constant RJ11 110 (55232), Cond.methodLink RJ2 161 yJ11_lowSurrogate_5068e, Cond.static yJ11_lowSurrogate_5068e, Cond.code yJ11_lowSurrogate_5068e cJ11_lowSurrogate_5068e 1 (some .char), Cond.constant RJ11 76 (56320), Cond.methodLink RX4 56 yX4_number, Cond.static yX4_number, Cond.code yX4_number cX4_number 2 (some .int), Cond.methodLink RX4 60 yX4_pairMarked, Cond.static yX4_pairMarked, Cond.code yX4_pairMarked cX4_pairMarked 3 (some .int), Cond.static yX6_pairOf, Cond.initialized RX6, Cond.code yX6_pairOf cX6_pairOf 2 (some .int), Cond.methodLink RX4 64 yX4_append, Cond.instanceMethod yX4_append, Cond.selects RX4 yX4_append yX4_append, Cond.code yX4_append cX4_append 3 none]
def wsX4_init : List Cond := .code yX4_init cX4_init 2 none :: ((wsX4_init_r1 ++ (wsX4_init_r2 ++ (wsX4_init_r3 ++ (wsX4_init_r4 ++ (wsX4_init_r5 ++ wsX4_init_r6))))) ++ wsX40)
def wsX4_follow_r1 : List Cond := [Cond.methodLink RX4 18 yX4_followNone, Cond.instanceMethod yX4_followNone, Cond.selects RX4 yX4_followNone yX4_followNone, Cond.initialized RX4, Cond.code yX4_followNone cX4_followNone 3 none, Cond.fieldLink RX4 9 "TagTower$Productions" "sizes" "[I", Cond.methodLink RX4 24 yX4_write, Cond.instanceMethod yX4_write, Cond.selects RX4 yX4_write yX4_write, Cond.code yX4_write cX4_write 8 none, Cond.methodLink RX4 40 yJ0_length_8abf5, Cond.instanceMethod yJ0_length_8abf5, Cond.selects RJ0 yJ0_length_8abf5 yJ0_length_8abf5, Cond.initialized RJ0, Cond.code yJ0_length_8abf5 cJ0_length_8abf5 1 (some .int), Cond.fieldLink RJ0 9 "java/lang/String" "value" "[B", Cond.methodLink RJ0 335 yJ0_coder_7d493, Cond.instanceMethod yJ0_coder_7d493, Cond.selects RJ0 yJ0_coder_7d493 yJ0_coder_7d493, Cond.code yJ0_coder_7d493 cJ0_coder_7d493 1 (some .byte), Cond.fieldLink RJ0 38 "java/lang/String" "COMPACT_STRINGS" "Z", Cond.fieldLink RJ0 15 "java/lang/String" "coder" "B", Cond.methodLink RX4 46 yJ0_charAt_5068e, Cond.instanceMethod yJ0_charAt_5068e]
def wsX4_follow_r2 : List Cond := [Cond.selects RJ0 yJ0_charAt_5068e yJ0_charAt_5068e, Cond.code yJ0_charAt_5068e cJ0_charAt_5068e 2 (some .char), Cond.methodLink RJ0 492 yJ0_isLatin1_aae02, Cond.instanceMethod yJ0_isLatin1_aae02, Cond.selects RJ0 yJ0_isLatin1_aae02 yJ0_isLatin1_aae02, Cond.code yJ0_isLatin1_aae02 cJ0_isLatin1_aae02 1 (some .boolean), Cond.methodLink RJ0 495 yJ1_charAt_3b067, Cond.static yJ1_charAt_3b067, Cond.initialized RJ1, Cond.code yJ1_charAt_3b067 cJ1_charAt_3b067 2 (some .char), Cond.methodLink RJ1 9 yJ0_checkIndex_df160, Cond.static yJ0_checkIndex_df160, Cond.code yJ0_checkIndex_df160 cJ0_checkIndex_df160 2 none, Cond.fieldLink RJ0 1053 "jdk/internal/util/Preconditions" "SIOOBE_FORMATTER" "Ljava/util/function/BiFunction;", Cond.methodLink RJ0 1059 yJ3_checkIndex_8e157, Cond.static yJ3_checkIndex_8e157, Cond.initialized RJ3, Cond.code yJ3_checkIndex_8e157 cJ3_checkIndex_8e157 3 (some .int), Cond.methodLink RJ0 498 yJ2_charAt_3b067, Cond.static yJ2_charAt_3b067, Cond.initialized RJ2, Cond.code yJ2_charAt_3b067 cJ2_charAt_3b067 2 (some .char), Cond.methodLink RJ2 67 yJ2_checkIndex_2214a, Cond.static yJ2_checkIndex_2214a]
def wsX4_follow_r3 : List Cond := [Cond.code yJ2_checkIndex_2214a cJ2_checkIndex_2214a 2 none, Cond.methodLink RJ2 48 yJ2_length_9d52b, Cond.static yJ2_length_9d52b, Cond.code yJ2_length_9d52b cJ2_length_9d52b 1 (some .int), Cond.methodLink RJ2 414 yJ0_checkIndex_df160, Cond.methodLink RJ2 71 yJ2_getChar_3b067, Cond.static yJ2_getChar_3b067, Cond.code yJ2_getChar_3b067 cJ2_getChar_3b067 2 (some .char), Cond.fieldLink RJ2 44 "java/lang/StringUTF16" "$assertionsDisabled" "Z", Cond.fieldLink RJ2 59 "java/lang/StringUTF16" "HI_BYTE_SHIFT" "I", Cond.fieldLink RJ2 63 "java/lang/StringUTF16" "LO_BYTE_SHIFT" "I", Cond.methodLink RX4 52 yJ0_indexOf_0f7a4, Cond.instanceMethod yJ0_indexOf_0f7a4, Cond.selects RJ0 yJ0_indexOf_0f7a4 yJ0_indexOf_0f7a4, Cond.code yJ0_indexOf_0f7a4 cJ0_indexOf_0f7a4 2 (some .int), Cond.methodLink RJ0 633 yJ0_indexOf_7cf53, Cond.instanceMethod yJ0_indexOf_7cf53, Cond.selects RJ0 yJ0_indexOf_7cf53 yJ0_indexOf_7cf53, Cond.code yJ0_indexOf_7cf53 cJ0_indexOf_7cf53 3 (some .int), Cond.methodLink RJ0 505 yJ0_length_8abf5, Cond.methodLink RJ0 637 yJ1_indexOf_4cfef, Cond.static yJ1_indexOf_4cfef, Cond.code yJ1_indexOf_4cfef cJ1_indexOf_4cfef 4 (some .int), Cond.methodLink RJ1 92 Lib.Math.max.name]
def wsX4_follow_r4 : List Cond := [Cond.static Lib.Math.max.name, Cond.initialized "java/lang/Math", Cond.code Lib.Math.max.name Lib.Math.max.code 2 (some .int), Cond.methodLink RJ1 38 Lib.Math.min.name, Cond.static Lib.Math.min.name, Cond.code Lib.Math.min.name Lib.Math.min.code 2 (some .int), Cond.methodLink RJ1 88 yJ1_canEncode_9a6ad, Cond.static yJ1_canEncode_9a6ad, Cond.code yJ1_canEncode_9a6ad cJ1_canEncode_9a6ad 1 (some .boolean), Cond.methodLink RJ1 95 yJ1_indexOfChar_4cfef, Cond.static yJ1_indexOfChar_4cfef, Cond.code yJ1_indexOfChar_4cfef cJ1_indexOfChar_4cfef 6 (some .int), Cond.methodLink RJ0 640 yJ2_indexOf_4cfef, Cond.static yJ2_indexOf_4cfef, Cond.code yJ2_indexOf_4cfef cJ2_indexOf_4cfef 4 (some .int), Cond.methodLink RJ2 224 Lib.Math.max.name, Cond.methodLink RJ2 183 Lib.Math.min.name, Cond.constant RJ2 227 (65536), Cond.methodLink RJ2 228 yJ2_indexOfChar_4cfef, Cond.static yJ2_indexOfChar_4cfef, Cond.code yJ2_indexOfChar_4cfef cJ2_indexOfChar_4cfef 4 (some .int), Cond.methodLink RJ2 96 yJ2_checkBoundsBeginEnd_d044e, Cond.static yJ2_checkBoundsBeginEnd_d044e, Cond.code yJ2_checkBoundsBeginEnd_d044e cJ2_checkBoundsBeginEnd_d044e 3 none]
def wsX4_follow_r5 : List Cond := [Cond.methodLink RJ2 241 yJ0_checkBoundsBeginEnd_23922, Cond.static yJ0_checkBoundsBeginEnd_23922, Cond.code yJ0_checkBoundsBeginEnd_23922 cJ0_checkBoundsBeginEnd_23922 3 none, Cond.methodLink RJ0 1062 yJ3_checkFromToIndex_8c36e, Cond.static yJ3_checkFromToIndex_8c36e, Cond.code yJ3_checkFromToIndex_8c36e cJ3_checkFromToIndex_8c36e 4 (some .int), Cond.methodLink RJ2 244 yJ2_indexOfCharUnsafe_4cfef, Cond.static yJ2_indexOfCharUnsafe_4cfef, Cond.code yJ2_indexOfCharUnsafe_4cfef cJ2_indexOfCharUnsafe_4cfef 5 (some .int), Cond.methodLink RJ2 232 yJ2_indexOfSupplementary_4cfef, Cond.static yJ2_indexOfSupplementary_4cfef, Cond.code yJ2_indexOfSupplementary_4cfef cJ2_indexOfSupplementary_4cfef 7 (some .int), Cond.methodLink RJ2 164 yJ11_isValidCodePoint_9a6ad, Cond.static yJ11_isValidCodePoint_9a6ad, Cond.initialized RJ11, Cond.code yJ11_isValidCodePoint_9a6ad cJ11_isValidCodePoint_9a6ad 2 (some .boolean), Cond.methodLink RJ2 157 yJ11_highSurrogate_5068e, Cond.static yJ11_highSurrogate_5068e, Cond.code yJ11_highSurrogate_5068e cJ11_highSurrogate_5068e 1 (some .char), Cond.constant RJ11 110 (55232), Cond.methodLink RJ2 161 yJ11_lowSurrogate_5068e, Cond.static yJ11_lowSurrogate_5068e, Cond.code yJ11_lowSurrogate_5068e cJ11_lowSurrogate_5068e 1 (some .char), Cond.constant RJ11 76 (56320)]
def wsX4_follow_r6 : List Cond := [Cond.methodLink RX4 56 yX4_number, Cond.static yX4_number, Cond.code yX4_number cX4_number 2 (some .int), Cond.methodLink RX4 60 yX4_pairMarked, Cond.static yX4_pairMarked, Cond.code yX4_pairMarked cX4_pairMarked 3 (some .int), Cond.static yX6_pairOf, Cond.initialized RX6, Cond.code yX6_pairOf cX6_pairOf 2 (some .int), Cond.methodLink RX4 64 yX4_append, Cond.instanceMethod yX4_append, Cond.selects RX4 yX4_append yX4_append, Cond.code yX4_append cX4_append 3 none, Cond.fieldLink RX4 15 "TagTower$Productions" "letters" "[I"]
def wsX4_follow : List Cond := .code yX4_follow cX4_follow 6 none :: ((wsX4_follow_r1 ++ (wsX4_follow_r2 ++ (wsX4_follow_r3 ++ (wsX4_follow_r4 ++ (wsX4_follow_r5 ++ wsX4_follow_r6))))) ++ wsX40)
def wsX4_letterAt : List Cond := .code yX4_letterAt cX4_letterAt 3 (some .int) :: ([.fieldLink RX4 15 "TagTower$Productions" "letters" "[I", .methodLink RX4 75 yX4_sizeOf, .instanceMethod yX4_sizeOf, .selects RX4 yX4_sizeOf yX4_sizeOf, .initialized RX4, .code yX4_sizeOf cX4_sizeOf 2 (some .int), .fieldLink RX4 9 "TagTower$Productions" "sizes" "[I", .static yX6_outside, .initialized RX6, .code yX6_outside cX6_outside 3 (some .boolean)] ++ wsX40)
def wsX4_bitAt : List Cond := .code yX4_bitAt cX4_bitAt 3 (some .int) :: ([.methodLink RX4 75 yX4_sizeOf, .instanceMethod yX4_sizeOf, .selects RX4 yX4_sizeOf yX4_sizeOf, .initialized RX4, .code yX4_sizeOf cX4_sizeOf 2 (some .int), .fieldLink RX4 9 "TagTower$Productions" "sizes" "[I", .static yX6_outside, .initialized RX6, .code yX6_outside cX6_outside 3 (some .boolean), .methodLink RX4 78 yX4_letterAt, .instanceMethod yX4_letterAt, .selects RX4 yX4_letterAt yX4_letterAt, .code yX4_letterAt cX4_letterAt 3 (some .int), .fieldLink RX4 15 "TagTower$Productions" "letters" "[I", .static yX6_oneIf, .code yX6_oneIf cX6_oneIf 1 (some .int)] ++ wsX40)
def wsX5_init : List Cond := .code yX5_init cX5_init 1 none :: ([.methodLink RX5 3 objectInit, .instanceMethod objectInit, .code objectInit ⟨#[0xb1]⟩ 1 none, .classLink RX5 9 RX2, .instantiable RX2 3, .initialized RX2, .fieldLink RX5 14 "TagTower$Word" "row" "LTagTower$LetterRow;", .fieldLink RX5 20 "TagTower$Word" "kept" "LTagTower$LetterRow;", .methodLink RX5 11 yX2_init, .instanceMethod yX2_init, .code yX2_init cX2_init 2 none, .methodLink RX2 3 objectInit, .methodLink RX2 9 Lib.Math.max.name, .static Lib.Math.max.name, .initialized "java/lang/Math", .code Lib.Math.max.name Lib.Math.max.code 2 (some .int), .arrayClass .int, .fieldLink RX2 15 "TagTower$LetterRow" "cells" "[I"] ++ wsX20 ++ wsX50)
def wsX5_appendTwos : List Cond := .code yX5_appendTwos cX5_appendTwos 4 none :: ([.fieldLink RX5 14 "TagTower$Word" "row" "LTagTower$LetterRow;", .methodLink RX5 34 yX2_append, .instanceMethod yX2_append, .selects RX2 yX2_append yX2_append, .initialized RX2, .code yX2_append cX2_append 2 none, .fieldLink RX2 25 "TagTower$LetterRow" "size" "I", .fieldLink RX2 15 "TagTower$LetterRow" "cells" "[I", .fieldLink RX2 21 "TagTower$LetterRow" "head" "I", .methodLink RX2 32 yX2_wrapped, .instanceMethod yX2_wrapped, .selects RX2 yX2_wrapped yX2_wrapped, .code yX2_wrapped cX2_wrapped 2 (some .int)] ++ wsX50 ++ wsX20)
def wsX5_layPlace : List Cond := .code yX5_layPlace cX5_layPlace 5 (some .int) :: ([.fieldLink RX5 14 "TagTower$Word" "row" "LTagTower$LetterRow;", .methodLink RX5 23 yX2_empty, .instanceMethod yX2_empty, .selects RX2 yX2_empty yX2_empty, .initialized RX2, .code yX2_empty cX2_empty 1 none, .fieldLink RX2 21 "TagTower$LetterRow" "head" "I", .fieldLink RX2 25 "TagTower$LetterRow" "size" "I", .methodLink RX5 26 yX5_appendTwos, .instanceMethod yX5_appendTwos, .selects RX5 yX5_appendTwos yX5_appendTwos, .initialized RX5, .code yX5_appendTwos cX5_appendTwos 4 none, .methodLink RX5 34 yX2_append, .instanceMethod yX2_append, .selects RX2 yX2_append yX2_append, .code yX2_append cX2_append 2 none, .fieldLink RX2 15 "TagTower$LetterRow" "cells" "[I", .methodLink RX2 32 yX2_wrapped, .instanceMethod yX2_wrapped, .selects RX2 yX2_wrapped yX2_wrapped, .code yX2_wrapped cX2_wrapped 2 (some .int)] ++ wsX50 ++ wsX20)
def wsX5_addLetter : List Cond := .code yX5_addLetter cX5_addLetter 2 (some .int) :: ([.fieldLink RX5 14 "TagTower$Word" "row" "LTagTower$LetterRow;", .methodLink RX5 34 yX2_append, .instanceMethod yX2_append, .selects RX2 yX2_append yX2_append, .initialized RX2, .code yX2_append cX2_append 2 none, .fieldLink RX2 25 "TagTower$LetterRow" "size" "I", .fieldLink RX2 15 "TagTower$LetterRow" "cells" "[I", .fieldLink RX2 21 "TagTower$LetterRow" "head" "I", .methodLink RX2 32 yX2_wrapped, .instanceMethod yX2_wrapped, .selects RX2 yX2_wrapped yX2_wrapped, .code yX2_wrapped cX2_wrapped 2 (some .int)] ++ wsX50 ++ wsX20)
def wsX5_doStep_r1 : List Cond := [Cond.fieldLink RX5 14 "TagTower$Word" "row" "LTagTower$LetterRow;", Cond.methodLink RX5 49 yX2_get, Cond.instanceMethod yX2_get, Cond.selects RX2 yX2_get yX2_get, Cond.initialized RX2, Cond.code yX2_get cX2_get 2 (some .int), Cond.fieldLink RX2 25 "TagTower$LetterRow" "size" "I", Cond.fieldLink RX2 15 "TagTower$LetterRow" "cells" "[I", Cond.fieldLink RX2 21 "TagTower$LetterRow" "head" "I", Cond.static yX6_outside, Cond.initialized RX6, Cond.code yX6_outside cX6_outside 3 (some .boolean), Cond.methodLink RX2 32 yX2_wrapped, Cond.instanceMethod yX2_wrapped, Cond.selects RX2 yX2_wrapped yX2_wrapped, Cond.code yX2_wrapped cX2_wrapped 2 (some .int), Cond.methodLink RX5 53 yX4_sizeOf, Cond.instanceMethod yX4_sizeOf, Cond.selects RX4 yX4_sizeOf yX4_sizeOf, Cond.initialized RX4, Cond.code yX4_sizeOf cX4_sizeOf 2 (some .int), Cond.fieldLink RX4 9 "TagTower$Productions" "sizes" "[I", Cond.methodLink RX5 58 yX2_drop, Cond.instanceMethod yX2_drop]
def wsX5_doStep_r2 : List Cond := [Cond.selects RX2 yX2_drop yX2_drop, Cond.code yX2_drop cX2_drop 3 none, Cond.methodLink RX2 36 Lib.Math.min.name, Cond.static Lib.Math.min.name, Cond.initialized "java/lang/Math", Cond.code Lib.Math.min.name Lib.Math.min.code 2 (some .int), Cond.methodLink RX5 61 yX4_appendTo, Cond.instanceMethod yX4_appendTo, Cond.selects RX4 yX4_appendTo yX4_appendTo, Cond.code yX4_appendTo cX4_appendTo 6 none, Cond.fieldLink RX4 15 "TagTower$Productions" "letters" "[I", Cond.methodLink RX4 75 yX4_sizeOf, Cond.methodLink RX4 85 yX2_append, Cond.instanceMethod yX2_append, Cond.selects RX2 yX2_append yX2_append, Cond.code yX2_append cX2_append 2 none]
def wsX5_doStep : List Cond := .code yX5_doStep cX5_doStep 4 (some .boolean) :: ((wsX5_doStep_r1 ++ wsX5_doStep_r2) ++ wsX50 ++ wsX20 ++ wsX40)
def wsX5_doSteps_r1 : List Cond := [Cond.methodLink RX5 37 yX5_doStep, Cond.instanceMethod yX5_doStep, Cond.selects RX5 yX5_doStep yX5_doStep, Cond.initialized RX5, Cond.code yX5_doStep cX5_doStep 4 (some .boolean), Cond.fieldLink RX5 14 "TagTower$Word" "row" "LTagTower$LetterRow;", Cond.methodLink RX5 49 yX2_get, Cond.instanceMethod yX2_get, Cond.selects RX2 yX2_get yX2_get, Cond.initialized RX2, Cond.code yX2_get cX2_get 2 (some .int), Cond.fieldLink RX2 25 "TagTower$LetterRow" "size" "I", Cond.fieldLink RX2 15 "TagTower$LetterRow" "cells" "[I", Cond.fieldLink RX2 21 "TagTower$LetterRow" "head" "I", Cond.static yX6_outside, Cond.initialized RX6, Cond.code yX6_outside cX6_outside 3 (some .boolean), Cond.methodLink RX2 32 yX2_wrapped, Cond.instanceMethod yX2_wrapped, Cond.selects RX2 yX2_wrapped yX2_wrapped, Cond.code yX2_wrapped cX2_wrapped 2 (some .int), Cond.methodLink RX5 53 yX4_sizeOf, Cond.instanceMethod yX4_sizeOf, Cond.selects RX4 yX4_sizeOf yX4_sizeOf]
def wsX5_doSteps_r2 : List Cond := [Cond.initialized RX4, Cond.code yX4_sizeOf cX4_sizeOf 2 (some .int), Cond.fieldLink RX4 9 "TagTower$Productions" "sizes" "[I", Cond.methodLink RX5 58 yX2_drop, Cond.instanceMethod yX2_drop, Cond.selects RX2 yX2_drop yX2_drop, Cond.code yX2_drop cX2_drop 3 none, Cond.methodLink RX2 36 Lib.Math.min.name, Cond.static Lib.Math.min.name, Cond.initialized "java/lang/Math", Cond.code Lib.Math.min.name Lib.Math.min.code 2 (some .int), Cond.methodLink RX5 61 yX4_appendTo, Cond.instanceMethod yX4_appendTo, Cond.selects RX4 yX4_appendTo yX4_appendTo, Cond.code yX4_appendTo cX4_appendTo 6 none, Cond.fieldLink RX4 15 "TagTower$Productions" "letters" "[I", Cond.methodLink RX4 75 yX4_sizeOf, Cond.methodLink RX4 85 yX2_append, Cond.instanceMethod yX2_append, Cond.selects RX2 yX2_append yX2_append, Cond.code yX2_append cX2_append 2 none]
def wsX5_doSteps : List Cond := .code yX5_doSteps cX5_doSteps 4 (some .int) :: ((wsX5_doSteps_r1 ++ wsX5_doSteps_r2) ++ wsX50 ++ wsX20 ++ wsX40)
def wsX5_behindTwos : List Cond := .code yX5_behindTwos cX5_behindTwos 4 (some .int) :: ([.fieldLink RX5 14 "TagTower$Word" "row" "LTagTower$LetterRow;", .methodLink RX5 49 yX2_get, .instanceMethod yX2_get, .selects RX2 yX2_get yX2_get, .initialized RX2, .code yX2_get cX2_get 2 (some .int), .fieldLink RX2 25 "TagTower$LetterRow" "size" "I", .fieldLink RX2 15 "TagTower$LetterRow" "cells" "[I", .fieldLink RX2 21 "TagTower$LetterRow" "head" "I", .static yX6_outside, .initialized RX6, .code yX6_outside cX6_outside 3 (some .boolean), .methodLink RX2 32 yX2_wrapped, .instanceMethod yX2_wrapped, .selects RX2 yX2_wrapped yX2_wrapped, .code yX2_wrapped cX2_wrapped 2 (some .int)] ++ wsX50 ++ wsX20)
def wsX5_middle : List Cond := .code yX5_middle cX5_middle 4 (some .int) :: ([.fieldLink RX5 14 "TagTower$Word" "row" "LTagTower$LetterRow;", .methodLink RX5 49 yX2_get, .instanceMethod yX2_get, .selects RX2 yX2_get yX2_get, .initialized RX2, .code yX2_get cX2_get 2 (some .int), .fieldLink RX2 25 "TagTower$LetterRow" "size" "I", .fieldLink RX2 15 "TagTower$LetterRow" "cells" "[I", .fieldLink RX2 21 "TagTower$LetterRow" "head" "I", .static yX6_outside, .initialized RX6, .code yX6_outside cX6_outside 3 (some .boolean), .methodLink RX2 32 yX2_wrapped, .instanceMethod yX2_wrapped, .selects RX2 yX2_wrapped yX2_wrapped, .code yX2_wrapped cX2_wrapped 2 (some .int), .methodLink RX5 65 yX5_behindTwos, .instanceMethod yX5_behindTwos, .selects RX5 yX5_behindTwos yX5_behindTwos, .initialized RX5, .code yX5_behindTwos cX5_behindTwos 4 (some .int)] ++ wsX50 ++ wsX20)
def wsX5_stepsToPlace_r1 : List Cond := [Cond.fieldLink RX5 20 "TagTower$Word" "kept" "LTagTower$LetterRow;", Cond.fieldLink RX5 14 "TagTower$Word" "row" "LTagTower$LetterRow;", Cond.methodLink RX5 41 yX2_become, Cond.instanceMethod yX2_become, Cond.selects RX2 yX2_become yX2_become, Cond.initialized RX2, Cond.code yX2_become cX2_become 3 none, Cond.fieldLink RX2 25 "TagTower$LetterRow" "size" "I", Cond.methodLink RX2 39 yX2_empty, Cond.instanceMethod yX2_empty, Cond.selects RX2 yX2_empty yX2_empty, Cond.code yX2_empty cX2_empty 1 none, Cond.fieldLink RX2 21 "TagTower$LetterRow" "head" "I", Cond.methodLink RX2 42 yX2_get, Cond.instanceMethod yX2_get, Cond.selects RX2 yX2_get yX2_get, Cond.code yX2_get cX2_get 2 (some .int), Cond.fieldLink RX2 15 "TagTower$LetterRow" "cells" "[I", Cond.static yX6_outside, Cond.initialized RX6, Cond.code yX6_outside cX6_outside 3 (some .boolean), Cond.methodLink RX2 32 yX2_wrapped, Cond.instanceMethod yX2_wrapped, Cond.selects RX2 yX2_wrapped yX2_wrapped]
def wsX5_stepsToPlace_r2 : List Cond := [Cond.code yX2_wrapped cX2_wrapped 2 (some .int), Cond.methodLink RX2 45 yX2_append, Cond.instanceMethod yX2_append, Cond.selects RX2 yX2_append yX2_append, Cond.code yX2_append cX2_append 2 none, Cond.methodLink RX5 37 yX5_doStep, Cond.instanceMethod yX5_doStep, Cond.selects RX5 yX5_doStep yX5_doStep, Cond.initialized RX5, Cond.code yX5_doStep cX5_doStep 4 (some .boolean), Cond.methodLink RX5 49 yX2_get, Cond.methodLink RX5 53 yX4_sizeOf, Cond.instanceMethod yX4_sizeOf, Cond.selects RX4 yX4_sizeOf yX4_sizeOf, Cond.initialized RX4, Cond.code yX4_sizeOf cX4_sizeOf 2 (some .int), Cond.fieldLink RX4 9 "TagTower$Productions" "sizes" "[I", Cond.methodLink RX5 58 yX2_drop, Cond.instanceMethod yX2_drop, Cond.selects RX2 yX2_drop yX2_drop, Cond.code yX2_drop cX2_drop 3 none, Cond.methodLink RX2 36 Lib.Math.min.name, Cond.static Lib.Math.min.name, Cond.initialized "java/lang/Math"]
def wsX5_stepsToPlace_r3 : List Cond := [Cond.code Lib.Math.min.name Lib.Math.min.code 2 (some .int), Cond.methodLink RX5 61 yX4_appendTo, Cond.instanceMethod yX4_appendTo, Cond.selects RX4 yX4_appendTo yX4_appendTo, Cond.code yX4_appendTo cX4_appendTo 6 none, Cond.fieldLink RX4 15 "TagTower$Productions" "letters" "[I", Cond.methodLink RX4 75 yX4_sizeOf, Cond.methodLink RX4 85 yX2_append, Cond.methodLink RX5 45 yX5_middle, Cond.instanceMethod yX5_middle, Cond.selects RX5 yX5_middle yX5_middle, Cond.code yX5_middle cX5_middle 4 (some .int), Cond.methodLink RX5 65 yX5_behindTwos, Cond.instanceMethod yX5_behindTwos, Cond.selects RX5 yX5_behindTwos yX5_behindTwos, Cond.code yX5_behindTwos cX5_behindTwos 4 (some .int)]
def wsX5_stepsToPlace : List Cond := .code yX5_stepsToPlace cX5_stepsToPlace 3 (some .int) :: ((wsX5_stepsToPlace_r1 ++ (wsX5_stepsToPlace_r2 ++ wsX5_stepsToPlace_r3)) ++ wsX50 ++ wsX20 ++ wsX40)
def wsX5_tellPlace_r1 : List Cond := [Cond.fieldLink RX5 14 "TagTower$Word" "row" "LTagTower$LetterRow;", Cond.methodLink RX5 45 yX5_middle, Cond.instanceMethod yX5_middle, Cond.selects RX5 yX5_middle yX5_middle, Cond.initialized RX5, Cond.code yX5_middle cX5_middle 4 (some .int), Cond.methodLink RX5 49 yX2_get, Cond.instanceMethod yX2_get, Cond.selects RX2 yX2_get yX2_get, Cond.initialized RX2, Cond.code yX2_get cX2_get 2 (some .int), Cond.fieldLink RX2 25 "TagTower$LetterRow" "size" "I", Cond.fieldLink RX2 15 "TagTower$LetterRow" "cells" "[I", Cond.fieldLink RX2 21 "TagTower$LetterRow" "head" "I", Cond.static yX6_outside, Cond.initialized RX6, Cond.code yX6_outside cX6_outside 3 (some .boolean), Cond.methodLink RX2 32 yX2_wrapped, Cond.instanceMethod yX2_wrapped, Cond.selects RX2 yX2_wrapped yX2_wrapped, Cond.code yX2_wrapped cX2_wrapped 2 (some .int), Cond.methodLink RX5 65 yX5_behindTwos, Cond.instanceMethod yX5_behindTwos, Cond.selects RX5 yX5_behindTwos yX5_behindTwos]
def wsX5_tellPlace_r2 : List Cond := [Cond.code yX5_behindTwos cX5_behindTwos 4 (some .int)]
def wsX5_tellPlace : List Cond := .code yX5_tellPlace cX5_tellPlace 4 (some .int) :: ((wsX5_tellPlace_r1 ++ wsX5_tellPlace_r2) ++ wsX50 ++ wsX20)
def wsX6_init_r1 : List Cond := [Cond.methodLink RX6 3 objectInit, Cond.instanceMethod objectInit, Cond.code objectInit ⟨#[0xb1]⟩ 1 none, Cond.classLink RX6 9 RX1, Cond.instantiable RX1 7, Cond.initialized RX1, Cond.fieldLink RX6 12 "TagTower" "counters" "LTagTower$Counters;", Cond.classLink RX6 16 RX3, Cond.instantiable RX3 9, Cond.initialized RX3, Cond.fieldLink RX6 19 "TagTower" "machine" "LTagTower$Machine;", Cond.classLink RX6 23 RX4, Cond.instantiable RX4 2, Cond.initialized RX4, Cond.fieldLink RX6 26 "TagTower" "productions" "LTagTower$Productions;", Cond.classLink RX6 30 RX5, Cond.instantiable RX5 2, Cond.initialized RX5, Cond.fieldLink RX6 33 "TagTower" "word" "LTagTower$Word;", Cond.classLink RX6 37 RX0, Cond.instantiable RX0 2, Cond.initialized RX0, Cond.fieldLink RX6 40 "TagTower" "bitRow" "LTagTower$Bits;", Cond.instanceMethod yX1_init]
def wsX6_init_r2 : List Cond := [Cond.code yX1_init cX1_init 1 none, Cond.methodLink RX1 3 objectInit, Cond.arrayClass .int, Cond.fieldLink RX1 9 "TagTower$Counters" "values" "[I", Cond.fieldLink RX1 15 "TagTower$Counters" "ops" "[I", Cond.fieldLink RX1 18 "TagTower$Counters" "worked" "[I", Cond.fieldLink RX1 21 "TagTower$Counters" "onward" "[I", Cond.fieldLink RX1 24 "TagTower$Counters" "ifZero" "[I", Cond.instanceMethod yX3_init, Cond.code yX3_init cX3_init 1 none, Cond.methodLink RX3 3 objectInit, Cond.arrayClass .boolean, Cond.fieldLink RX3 9 "TagTower$Machine" "ruled" "[Z", Cond.fieldLink RX3 15 "TagTower$Machine" "signs" "[I", Cond.fieldLink RX3 19 "TagTower$Machine" "ways" "[I", Cond.fieldLink RX3 22 "TagTower$Machine" "states" "[I", Cond.methodLink RX6 25 yX4_init, Cond.instanceMethod yX4_init, Cond.code yX4_init cX4_init 2 none, Cond.methodLink RX4 3 objectInit, Cond.fieldLink RX4 9 "TagTower$Productions" "sizes" "[I", Cond.fieldLink RX4 15 "TagTower$Productions" "letters" "[I", Cond.methodLink RX4 18 yX4_followNone, Cond.instanceMethod yX4_followNone]
def wsX6_init_r3 : List Cond := [Cond.selects RX4 yX4_followNone yX4_followNone, Cond.code yX4_followNone cX4_followNone 3 none, Cond.methodLink RX4 24 yX4_write, Cond.instanceMethod yX4_write, Cond.selects RX4 yX4_write yX4_write, Cond.code yX4_write cX4_write 8 none, Cond.methodLink RX4 40 yJ0_length_8abf5, Cond.instanceMethod yJ0_length_8abf5, Cond.selects RJ0 yJ0_length_8abf5 yJ0_length_8abf5, Cond.initialized RJ0, Cond.code yJ0_length_8abf5 cJ0_length_8abf5 1 (some .int), Cond.fieldLink RJ0 9 "java/lang/String" "value" "[B", Cond.methodLink RJ0 335 yJ0_coder_7d493, Cond.instanceMethod yJ0_coder_7d493, Cond.selects RJ0 yJ0_coder_7d493 yJ0_coder_7d493, Cond.code yJ0_coder_7d493 cJ0_coder_7d493 1 (some .byte), Cond.fieldLink RJ0 38 "java/lang/String" "COMPACT_STRINGS" "Z", Cond.fieldLink RJ0 15 "java/lang/String" "coder" "B", Cond.methodLink RX4 46 yJ0_charAt_5068e, Cond.instanceMethod yJ0_charAt_5068e, Cond.selects RJ0 yJ0_charAt_5068e yJ0_charAt_5068e, Cond.code yJ0_charAt_5068e cJ0_charAt_5068e 2 (some .char), Cond.methodLink RJ0 492 yJ0_isLatin1_aae02, Cond.instanceMethod yJ0_isLatin1_aae02]
def wsX6_init_r4 : List Cond := [Cond.selects RJ0 yJ0_isLatin1_aae02 yJ0_isLatin1_aae02, Cond.code yJ0_isLatin1_aae02 cJ0_isLatin1_aae02 1 (some .boolean), Cond.methodLink RJ0 495 yJ1_charAt_3b067, Cond.static yJ1_charAt_3b067, Cond.initialized RJ1, Cond.code yJ1_charAt_3b067 cJ1_charAt_3b067 2 (some .char), Cond.methodLink RJ1 9 yJ0_checkIndex_df160, Cond.static yJ0_checkIndex_df160, Cond.code yJ0_checkIndex_df160 cJ0_checkIndex_df160 2 none, Cond.fieldLink RJ0 1053 "jdk/internal/util/Preconditions" "SIOOBE_FORMATTER" "Ljava/util/function/BiFunction;", Cond.methodLink RJ0 1059 yJ3_checkIndex_8e157, Cond.static yJ3_checkIndex_8e157, Cond.initialized RJ3, Cond.code yJ3_checkIndex_8e157 cJ3_checkIndex_8e157 3 (some .int), Cond.methodLink RJ0 498 yJ2_charAt_3b067, Cond.static yJ2_charAt_3b067, Cond.initialized RJ2, Cond.code yJ2_charAt_3b067 cJ2_charAt_3b067 2 (some .char), Cond.methodLink RJ2 67 yJ2_checkIndex_2214a, Cond.static yJ2_checkIndex_2214a, Cond.code yJ2_checkIndex_2214a cJ2_checkIndex_2214a 2 none, Cond.methodLink RJ2 48 yJ2_length_9d52b, Cond.static yJ2_length_9d52b, Cond.code yJ2_length_9d52b cJ2_length_9d52b 1 (some .int)]
def wsX6_init_r5 : List Cond := [Cond.methodLink RJ2 414 yJ0_checkIndex_df160, Cond.methodLink RJ2 71 yJ2_getChar_3b067, Cond.static yJ2_getChar_3b067, Cond.code yJ2_getChar_3b067 cJ2_getChar_3b067 2 (some .char), Cond.fieldLink RJ2 44 "java/lang/StringUTF16" "$assertionsDisabled" "Z", Cond.fieldLink RJ2 59 "java/lang/StringUTF16" "HI_BYTE_SHIFT" "I", Cond.fieldLink RJ2 63 "java/lang/StringUTF16" "LO_BYTE_SHIFT" "I", Cond.methodLink RX4 52 yJ0_indexOf_0f7a4, Cond.instanceMethod yJ0_indexOf_0f7a4, Cond.selects RJ0 yJ0_indexOf_0f7a4 yJ0_indexOf_0f7a4, Cond.code yJ0_indexOf_0f7a4 cJ0_indexOf_0f7a4 2 (some .int), Cond.methodLink RJ0 633 yJ0_indexOf_7cf53, Cond.instanceMethod yJ0_indexOf_7cf53, Cond.selects RJ0 yJ0_indexOf_7cf53 yJ0_indexOf_7cf53, Cond.code yJ0_indexOf_7cf53 cJ0_indexOf_7cf53 3 (some .int), Cond.methodLink RJ0 505 yJ0_length_8abf5, Cond.methodLink RJ0 637 yJ1_indexOf_4cfef, Cond.static yJ1_indexOf_4cfef, Cond.code yJ1_indexOf_4cfef cJ1_indexOf_4cfef 4 (some .int), Cond.methodLink RJ1 92 Lib.Math.max.name, Cond.static Lib.Math.max.name, Cond.initialized "java/lang/Math", Cond.code Lib.Math.max.name Lib.Math.max.code 2 (some .int), Cond.methodLink RJ1 38 Lib.Math.min.name]
def wsX6_init_r6 : List Cond := [Cond.static Lib.Math.min.name, Cond.code Lib.Math.min.name Lib.Math.min.code 2 (some .int), Cond.methodLink RJ1 88 yJ1_canEncode_9a6ad, Cond.static yJ1_canEncode_9a6ad, Cond.code yJ1_canEncode_9a6ad cJ1_canEncode_9a6ad 1 (some .boolean), Cond.methodLink RJ1 95 yJ1_indexOfChar_4cfef, Cond.static yJ1_indexOfChar_4cfef, Cond.code yJ1_indexOfChar_4cfef cJ1_indexOfChar_4cfef 6 (some .int), Cond.methodLink RJ0 640 yJ2_indexOf_4cfef, Cond.static yJ2_indexOf_4cfef, Cond.code yJ2_indexOf_4cfef cJ2_indexOf_4cfef 4 (some .int), Cond.methodLink RJ2 224 Lib.Math.max.name, Cond.methodLink RJ2 183 Lib.Math.min.name, Cond.constant RJ2 227 (65536), Cond.methodLink RJ2 228 yJ2_indexOfChar_4cfef, Cond.static yJ2_indexOfChar_4cfef, Cond.code yJ2_indexOfChar_4cfef cJ2_indexOfChar_4cfef 4 (some .int), Cond.methodLink RJ2 96 yJ2_checkBoundsBeginEnd_d044e, Cond.static yJ2_checkBoundsBeginEnd_d044e, Cond.code yJ2_checkBoundsBeginEnd_d044e cJ2_checkBoundsBeginEnd_d044e 3 none, Cond.methodLink RJ2 241 yJ0_checkBoundsBeginEnd_23922, Cond.static yJ0_checkBoundsBeginEnd_23922, Cond.code yJ0_checkBoundsBeginEnd_23922 cJ0_checkBoundsBeginEnd_23922 3 none, Cond.methodLink RJ0 1062 yJ3_checkFromToIndex_8c36e]
def wsX6_init_r7 : List Cond := [Cond.static yJ3_checkFromToIndex_8c36e, Cond.code yJ3_checkFromToIndex_8c36e cJ3_checkFromToIndex_8c36e 4 (some .int), Cond.methodLink RJ2 244 yJ2_indexOfCharUnsafe_4cfef, Cond.static yJ2_indexOfCharUnsafe_4cfef, Cond.code yJ2_indexOfCharUnsafe_4cfef cJ2_indexOfCharUnsafe_4cfef 5 (some .int), Cond.methodLink RJ2 232 yJ2_indexOfSupplementary_4cfef, Cond.static yJ2_indexOfSupplementary_4cfef, Cond.code yJ2_indexOfSupplementary_4cfef cJ2_indexOfSupplementary_4cfef 7 (some .int), Cond.methodLink RJ2 164 yJ11_isValidCodePoint_9a6ad, Cond.static yJ11_isValidCodePoint_9a6ad, Cond.initialized RJ11, Cond.code yJ11_isValidCodePoint_9a6ad cJ11_isValidCodePoint_9a6ad 2 (some .boolean), Cond.methodLink RJ2 157 yJ11_highSurrogate_5068e, Cond.static yJ11_highSurrogate_5068e, Cond.code yJ11_highSurrogate_5068e cJ11_highSurrogate_5068e 1 (some .char), Cond.constant RJ11 110 (55232), Cond.methodLink RJ2 161 yJ11_lowSurrogate_5068e, Cond.static yJ11_lowSurrogate_5068e, Cond.code yJ11_lowSurrogate_5068e cJ11_lowSurrogate_5068e 1 (some .char), Cond.constant RJ11 76 (56320), Cond.methodLink RX4 56 yX4_number, Cond.static yX4_number, Cond.code yX4_number cX4_number 2 (some .int), Cond.methodLink RX4 60 yX4_pairMarked]
def wsX6_init_r8 : List Cond := [Cond.static yX4_pairMarked, Cond.code yX4_pairMarked cX4_pairMarked 3 (some .int), Cond.static yX6_pairOf, Cond.initialized RX6, Cond.code yX6_pairOf cX6_pairOf 2 (some .int), Cond.methodLink RX4 64 yX4_append, Cond.instanceMethod yX4_append, Cond.selects RX4 yX4_append yX4_append, Cond.code yX4_append cX4_append 3 none, Cond.instanceMethod yX5_init, Cond.code yX5_init cX5_init 1 none, Cond.methodLink RX5 3 objectInit, Cond.classLink RX5 9 RX2, Cond.instantiable RX2 3, Cond.initialized RX2, Cond.fieldLink RX5 14 "TagTower$Word" "row" "LTagTower$LetterRow;", Cond.fieldLink RX5 20 "TagTower$Word" "kept" "LTagTower$LetterRow;", Cond.methodLink RX5 11 yX2_init, Cond.instanceMethod yX2_init, Cond.code yX2_init cX2_init 2 none, Cond.methodLink RX2 3 objectInit, Cond.methodLink RX2 9 Lib.Math.max.name, Cond.fieldLink RX2 15 "TagTower$LetterRow" "cells" "[I", Cond.instanceMethod yX0_init]
def wsX6_init_r9 : List Cond := [Cond.code yX0_init cX0_init 1 none, Cond.methodLink RX0 3 objectInit, Cond.classLink RX0 9 RX2, Cond.fieldLink RX0 14 "TagTower$Bits" "row" "LTagTower$LetterRow;", Cond.methodLink RX0 11 yX2_init]
def wsX6_init : List Cond := .code yX6_init cX6_init 1 none :: ((wsX6_init_r1 ++ (wsX6_init_r2 ++ (wsX6_init_r3 ++ (wsX6_init_r4 ++ (wsX6_init_r5 ++ (wsX6_init_r6 ++ (wsX6_init_r7 ++ (wsX6_init_r8 ++ wsX6_init_r9)))))))) ++ wsX10 ++ wsX60 ++ wsX30 ++ wsX40 ++ wsX50 ++ wsX00 ++ wsX20)
def wsX6_line : List Cond := .code yX6_line cX6_line 5 (some .int) :: ([.fieldLink RX6 12 "TagTower" "counters" "LTagTower$Counters;", .methodLink RX6 44 yX6_outside, .static yX6_outside, .initialized RX6, .code yX6_outside cX6_outside 3 (some .boolean), .methodLink RX6 48 yX1_addLine, .instanceMethod yX1_addLine, .selects RX1 yX1_addLine yX1_addLine, .initialized RX1, .code yX1_addLine cX1_addLine 5 (some .int), .fieldLink RX1 27 "TagTower$Counters" "lines" "I", .fieldLink RX1 15 "TagTower$Counters" "ops" "[I", .fieldLink RX1 18 "TagTower$Counters" "worked" "[I", .fieldLink RX1 21 "TagTower$Counters" "onward" "[I", .fieldLink RX1 24 "TagTower$Counters" "ifZero" "[I"] ++ wsX60 ++ wsX10)
def wsX6_wipe : List Cond := .code yX6_wipe cX6_wipe 1 (some .int) :: ([.fieldLink RX6 12 "TagTower" "counters" "LTagTower$Counters;", .methodLink RX6 52 yX1_forgetLines, .instanceMethod yX1_forgetLines, .selects RX1 yX1_forgetLines yX1_forgetLines, .initialized RX1, .code yX1_forgetLines cX1_forgetLines 2 (some .int), .fieldLink RX1 27 "TagTower$Counters" "lines" "I", .fieldLink RX1 31 "TagTower$Counters" "now" "I"] ++ wsX60 ++ wsX10)
def wsX6_set : List Cond := .code yX6_set cX6_set 3 (some .int) :: ([.fieldLink RX6 12 "TagTower" "counters" "LTagTower$Counters;", .methodLink RX6 44 yX6_outside, .static yX6_outside, .initialized RX6, .code yX6_outside cX6_outside 3 (some .boolean), .methodLink RX6 56 yX1_putValue, .instanceMethod yX1_putValue, .selects RX1 yX1_putValue yX1_putValue, .initialized RX1, .code yX1_putValue cX1_putValue 4 (some .int), .fieldLink RX1 9 "TagTower$Counters" "values" "[I"] ++ wsX60 ++ wsX10)
def wsX6_counter : List Cond := .code yX6_counter cX6_counter 2 (some .int) :: ([.fieldLink RX6 12 "TagTower" "counters" "LTagTower$Counters;", .methodLink RX6 44 yX6_outside, .static yX6_outside, .initialized RX6, .code yX6_outside cX6_outside 3 (some .boolean), .methodLink RX6 60 yX1_value, .instanceMethod yX1_value, .selects RX1 yX1_value yX1_value, .initialized RX1, .code yX1_value cX1_value 2 (some .int), .fieldLink RX1 9 "TagTower$Counters" "values" "[I"] ++ wsX60 ++ wsX10)
def wsX6_count_r1 : List Cond := [Cond.fieldLink RX6 12 "TagTower" "counters" "LTagTower$Counters;", Cond.methodLink RX6 44 yX6_outside, Cond.static yX6_outside, Cond.initialized RX6, Cond.code yX6_outside cX6_outside 3 (some .boolean), Cond.methodLink RX6 64 yX1_doLines, Cond.instanceMethod yX1_doLines, Cond.selects RX1 yX1_doLines yX1_doLines, Cond.initialized RX1, Cond.code yX1_doLines cX1_doLines 3 (some .int), Cond.methodLink RX1 34 yX1_doLine, Cond.instanceMethod yX1_doLine, Cond.selects RX1 yX1_doLine yX1_doLine, Cond.code yX1_doLine cX1_doLine 1 (some .boolean), Cond.fieldLink RX1 31 "TagTower$Counters" "now" "I", Cond.fieldLink RX1 27 "TagTower$Counters" "lines" "I", Cond.fieldLink RX1 15 "TagTower$Counters" "ops" "[I", Cond.fieldLink RX1 18 "TagTower$Counters" "worked" "[I", Cond.methodLink RX1 42 yX1_countUp, Cond.instanceMethod yX1_countUp, Cond.selects RX1 yX1_countUp yX1_countUp, Cond.code yX1_countUp cX1_countUp 2 (some .boolean), Cond.fieldLink RX1 9 "TagTower$Counters" "values" "[I", Cond.fieldLink RX1 21 "TagTower$Counters" "onward" "[I"]
def wsX6_count_r2 : List Cond := [Cond.methodLink RX1 46 yX1_countDown, Cond.instanceMethod yX1_countDown, Cond.selects RX1 yX1_countDown yX1_countDown, Cond.code yX1_countDown cX1_countDown 2 (some .boolean), Cond.fieldLink RX1 24 "TagTower$Counters" "ifZero" "[I"]
def wsX6_count : List Cond := .code yX6_count cX6_count 2 (some .int) :: ((wsX6_count_r1 ++ wsX6_count_r2) ++ wsX60 ++ wsX10)
def wsX6_at : List Cond := .code yX6_at cX6_at 1 (some .int) :: ([.fieldLink RX6 12 "TagTower" "counters" "LTagTower$Counters;", .methodLink RX6 67 yX1_lineNow, .instanceMethod yX1_lineNow, .selects RX1 yX1_lineNow yX1_lineNow, .initialized RX1, .code yX1_lineNow cX1_lineNow 1 (some .int), .fieldLink RX1 31 "TagTower$Counters" "now" "I"] ++ wsX60 ++ wsX10)
def wsX6_go : List Cond := .code yX6_go cX6_go 2 (some .int) :: ([.fieldLink RX6 12 "TagTower" "counters" "LTagTower$Counters;", .methodLink RX6 44 yX6_outside, .static yX6_outside, .initialized RX6, .code yX6_outside cX6_outside 3 (some .boolean), .methodLink RX6 70 yX1_jump, .instanceMethod yX1_jump, .selects RX1 yX1_jump yX1_jump, .initialized RX1, .code yX1_jump cX1_jump 3 (some .int), .fieldLink RX1 31 "TagTower$Counters" "now" "I"] ++ wsX60 ++ wsX10)
def wsX6_rule_r1 : List Cond := [Cond.fieldLink RX6 26 "TagTower" "productions" "LTagTower$Productions;", Cond.fieldLink RX6 19 "TagTower" "machine" "LTagTower$Machine;", Cond.methodLink RX6 44 yX6_outside, Cond.static yX6_outside, Cond.initialized RX6, Cond.code yX6_outside cX6_outside 3 (some .boolean), Cond.methodLink RX6 73 yX6_pairOf, Cond.static yX6_pairOf, Cond.code yX6_pairOf cX6_pairOf 2 (some .int), Cond.methodLink RX6 76 yX4_follow, Cond.instanceMethod yX4_follow, Cond.selects RX4 yX4_follow yX4_follow, Cond.initialized RX4, Cond.code yX4_follow cX4_follow 6 none, Cond.methodLink RX4 18 yX4_followNone, Cond.instanceMethod yX4_followNone, Cond.selects RX4 yX4_followNone yX4_followNone, Cond.code yX4_followNone cX4_followNone 3 none, Cond.fieldLink RX4 9 "TagTower$Productions" "sizes" "[I", Cond.methodLink RX4 24 yX4_write, Cond.instanceMethod yX4_write, Cond.selects RX4 yX4_write yX4_write, Cond.code yX4_write cX4_write 8 none, Cond.methodLink RX4 40 yJ0_length_8abf5]
def wsX6_rule_r2 : List Cond := [Cond.instanceMethod yJ0_length_8abf5, Cond.selects RJ0 yJ0_length_8abf5 yJ0_length_8abf5, Cond.initialized RJ0, Cond.code yJ0_length_8abf5 cJ0_length_8abf5 1 (some .int), Cond.fieldLink RJ0 9 "java/lang/String" "value" "[B", Cond.methodLink RJ0 335 yJ0_coder_7d493, Cond.instanceMethod yJ0_coder_7d493, Cond.selects RJ0 yJ0_coder_7d493 yJ0_coder_7d493, Cond.code yJ0_coder_7d493 cJ0_coder_7d493 1 (some .byte), Cond.fieldLink RJ0 38 "java/lang/String" "COMPACT_STRINGS" "Z", Cond.fieldLink RJ0 15 "java/lang/String" "coder" "B", Cond.methodLink RX4 46 yJ0_charAt_5068e, Cond.instanceMethod yJ0_charAt_5068e, Cond.selects RJ0 yJ0_charAt_5068e yJ0_charAt_5068e, Cond.code yJ0_charAt_5068e cJ0_charAt_5068e 2 (some .char), Cond.methodLink RJ0 492 yJ0_isLatin1_aae02, Cond.instanceMethod yJ0_isLatin1_aae02, Cond.selects RJ0 yJ0_isLatin1_aae02 yJ0_isLatin1_aae02, Cond.code yJ0_isLatin1_aae02 cJ0_isLatin1_aae02 1 (some .boolean), Cond.methodLink RJ0 495 yJ1_charAt_3b067, Cond.static yJ1_charAt_3b067, Cond.initialized RJ1, Cond.code yJ1_charAt_3b067 cJ1_charAt_3b067 2 (some .char), Cond.methodLink RJ1 9 yJ0_checkIndex_df160]
def wsX6_rule_r3 : List Cond := [Cond.static yJ0_checkIndex_df160, Cond.code yJ0_checkIndex_df160 cJ0_checkIndex_df160 2 none, Cond.fieldLink RJ0 1053 "jdk/internal/util/Preconditions" "SIOOBE_FORMATTER" "Ljava/util/function/BiFunction;", Cond.methodLink RJ0 1059 yJ3_checkIndex_8e157, Cond.static yJ3_checkIndex_8e157, Cond.initialized RJ3, Cond.code yJ3_checkIndex_8e157 cJ3_checkIndex_8e157 3 (some .int), Cond.methodLink RJ0 498 yJ2_charAt_3b067, Cond.static yJ2_charAt_3b067, Cond.initialized RJ2, Cond.code yJ2_charAt_3b067 cJ2_charAt_3b067 2 (some .char), Cond.methodLink RJ2 67 yJ2_checkIndex_2214a, Cond.static yJ2_checkIndex_2214a, Cond.code yJ2_checkIndex_2214a cJ2_checkIndex_2214a 2 none, Cond.methodLink RJ2 48 yJ2_length_9d52b, Cond.static yJ2_length_9d52b, Cond.code yJ2_length_9d52b cJ2_length_9d52b 1 (some .int), Cond.methodLink RJ2 414 yJ0_checkIndex_df160, Cond.methodLink RJ2 71 yJ2_getChar_3b067, Cond.static yJ2_getChar_3b067, Cond.code yJ2_getChar_3b067 cJ2_getChar_3b067 2 (some .char), Cond.fieldLink RJ2 44 "java/lang/StringUTF16" "$assertionsDisabled" "Z", Cond.fieldLink RJ2 59 "java/lang/StringUTF16" "HI_BYTE_SHIFT" "I", Cond.fieldLink RJ2 63 "java/lang/StringUTF16" "LO_BYTE_SHIFT" "I"]
def wsX6_rule_r4 : List Cond := [Cond.methodLink RX4 52 yJ0_indexOf_0f7a4, Cond.instanceMethod yJ0_indexOf_0f7a4, Cond.selects RJ0 yJ0_indexOf_0f7a4 yJ0_indexOf_0f7a4, Cond.code yJ0_indexOf_0f7a4 cJ0_indexOf_0f7a4 2 (some .int), Cond.methodLink RJ0 633 yJ0_indexOf_7cf53, Cond.instanceMethod yJ0_indexOf_7cf53, Cond.selects RJ0 yJ0_indexOf_7cf53 yJ0_indexOf_7cf53, Cond.code yJ0_indexOf_7cf53 cJ0_indexOf_7cf53 3 (some .int), Cond.methodLink RJ0 505 yJ0_length_8abf5, Cond.methodLink RJ0 637 yJ1_indexOf_4cfef, Cond.static yJ1_indexOf_4cfef, Cond.code yJ1_indexOf_4cfef cJ1_indexOf_4cfef 4 (some .int), Cond.methodLink RJ1 92 Lib.Math.max.name, Cond.static Lib.Math.max.name, Cond.initialized "java/lang/Math", Cond.code Lib.Math.max.name Lib.Math.max.code 2 (some .int), Cond.methodLink RJ1 38 Lib.Math.min.name, Cond.static Lib.Math.min.name, Cond.code Lib.Math.min.name Lib.Math.min.code 2 (some .int), Cond.methodLink RJ1 88 yJ1_canEncode_9a6ad, Cond.static yJ1_canEncode_9a6ad, Cond.code yJ1_canEncode_9a6ad cJ1_canEncode_9a6ad 1 (some .boolean), Cond.methodLink RJ1 95 yJ1_indexOfChar_4cfef, Cond.static yJ1_indexOfChar_4cfef]
def wsX6_rule_r5 : List Cond := [Cond.code yJ1_indexOfChar_4cfef cJ1_indexOfChar_4cfef 6 (some .int), Cond.methodLink RJ0 640 yJ2_indexOf_4cfef, Cond.static yJ2_indexOf_4cfef, Cond.code yJ2_indexOf_4cfef cJ2_indexOf_4cfef 4 (some .int), Cond.methodLink RJ2 224 Lib.Math.max.name, Cond.methodLink RJ2 183 Lib.Math.min.name, Cond.constant RJ2 227 (65536), Cond.methodLink RJ2 228 yJ2_indexOfChar_4cfef, Cond.static yJ2_indexOfChar_4cfef, Cond.code yJ2_indexOfChar_4cfef cJ2_indexOfChar_4cfef 4 (some .int), Cond.methodLink RJ2 96 yJ2_checkBoundsBeginEnd_d044e, Cond.static yJ2_checkBoundsBeginEnd_d044e, Cond.code yJ2_checkBoundsBeginEnd_d044e cJ2_checkBoundsBeginEnd_d044e 3 none, Cond.methodLink RJ2 241 yJ0_checkBoundsBeginEnd_23922, Cond.static yJ0_checkBoundsBeginEnd_23922, Cond.code yJ0_checkBoundsBeginEnd_23922 cJ0_checkBoundsBeginEnd_23922 3 none, Cond.methodLink RJ0 1062 yJ3_checkFromToIndex_8c36e, Cond.static yJ3_checkFromToIndex_8c36e, Cond.code yJ3_checkFromToIndex_8c36e cJ3_checkFromToIndex_8c36e 4 (some .int), Cond.methodLink RJ2 244 yJ2_indexOfCharUnsafe_4cfef, Cond.static yJ2_indexOfCharUnsafe_4cfef, Cond.code yJ2_indexOfCharUnsafe_4cfef cJ2_indexOfCharUnsafe_4cfef 5 (some .int), Cond.methodLink RJ2 232 yJ2_indexOfSupplementary_4cfef, Cond.static yJ2_indexOfSupplementary_4cfef]
def wsX6_rule_r6 : List Cond := [Cond.code yJ2_indexOfSupplementary_4cfef cJ2_indexOfSupplementary_4cfef 7 (some .int), Cond.methodLink RJ2 164 yJ11_isValidCodePoint_9a6ad, Cond.static yJ11_isValidCodePoint_9a6ad, Cond.initialized RJ11, Cond.code yJ11_isValidCodePoint_9a6ad cJ11_isValidCodePoint_9a6ad 2 (some .boolean), Cond.methodLink RJ2 157 yJ11_highSurrogate_5068e, Cond.static yJ11_highSurrogate_5068e, Cond.code yJ11_highSurrogate_5068e cJ11_highSurrogate_5068e 1 (some .char), Cond.constant RJ11 110 (55232), Cond.methodLink RJ2 161 yJ11_lowSurrogate_5068e, Cond.static yJ11_lowSurrogate_5068e, Cond.code yJ11_lowSurrogate_5068e cJ11_lowSurrogate_5068e 1 (some .char), Cond.constant RJ11 76 (56320), Cond.methodLink RX4 56 yX4_number, Cond.static yX4_number, Cond.code yX4_number cX4_number 2 (some .int), Cond.methodLink RX4 60 yX4_pairMarked, Cond.static yX4_pairMarked, Cond.code yX4_pairMarked cX4_pairMarked 3 (some .int), Cond.methodLink RX4 64 yX4_append, Cond.instanceMethod yX4_append, Cond.selects RX4 yX4_append yX4_append, Cond.code yX4_append cX4_append 3 none, Cond.fieldLink RX4 15 "TagTower$Productions" "letters" "[I"]
def wsX6_rule_r7 : List Cond := [Cond.methodLink RX6 80 yX3_putRule, Cond.instanceMethod yX3_putRule, Cond.selects RX3 yX3_putRule yX3_putRule, Cond.initialized RX3, Cond.code yX3_putRule cX3_putRule 5 (some .int), Cond.fieldLink RX3 9 "TagTower$Machine" "ruled" "[Z", Cond.fieldLink RX3 25 "TagTower$Machine" "rules" "I", Cond.fieldLink RX3 15 "TagTower$Machine" "signs" "[I", Cond.fieldLink RX3 19 "TagTower$Machine" "ways" "[I", Cond.fieldLink RX3 22 "TagTower$Machine" "states" "[I"]
def wsX6_rule : List Cond := .code yX6_rule cX6_rule 7 (some .int) :: ((wsX6_rule_r1 ++ (wsX6_rule_r2 ++ (wsX6_rule_r3 ++ (wsX6_rule_r4 ++ (wsX6_rule_r5 ++ (wsX6_rule_r6 ++ wsX6_rule_r7)))))) ++ wsX60 ++ wsX40 ++ wsX30)
def wsX6_unrule_r1 : List Cond := [Cond.fieldLink RX6 26 "TagTower" "productions" "LTagTower$Productions;", Cond.fieldLink RX6 19 "TagTower" "machine" "LTagTower$Machine;", Cond.methodLink RX6 44 yX6_outside, Cond.static yX6_outside, Cond.initialized RX6, Cond.code yX6_outside cX6_outside 3 (some .boolean), Cond.methodLink RX6 73 yX6_pairOf, Cond.static yX6_pairOf, Cond.code yX6_pairOf cX6_pairOf 2 (some .int), Cond.methodLink RX6 83 yX4_followNone, Cond.instanceMethod yX4_followNone, Cond.selects RX4 yX4_followNone yX4_followNone, Cond.initialized RX4, Cond.code yX4_followNone cX4_followNone 3 none, Cond.fieldLink RX4 9 "TagTower$Productions" "sizes" "[I", Cond.methodLink RX4 24 yX4_write, Cond.instanceMethod yX4_write, Cond.selects RX4 yX4_write yX4_write, Cond.code yX4_write cX4_write 8 none, Cond.methodLink RX4 40 yJ0_length_8abf5, Cond.instanceMethod yJ0_length_8abf5, Cond.selects RJ0 yJ0_length_8abf5 yJ0_length_8abf5, Cond.initialized RJ0, Cond.code yJ0_length_8abf5 cJ0_length_8abf5 1 (some .int)]
def wsX6_unrule_r2 : List Cond := [Cond.fieldLink RJ0 9 "java/lang/String" "value" "[B", Cond.methodLink RJ0 335 yJ0_coder_7d493, Cond.instanceMethod yJ0_coder_7d493, Cond.selects RJ0 yJ0_coder_7d493 yJ0_coder_7d493, Cond.code yJ0_coder_7d493 cJ0_coder_7d493 1 (some .byte), Cond.fieldLink RJ0 38 "java/lang/String" "COMPACT_STRINGS" "Z", Cond.fieldLink RJ0 15 "java/lang/String" "coder" "B", Cond.methodLink RX4 46 yJ0_charAt_5068e, Cond.instanceMethod yJ0_charAt_5068e, Cond.selects RJ0 yJ0_charAt_5068e yJ0_charAt_5068e, Cond.code yJ0_charAt_5068e cJ0_charAt_5068e 2 (some .char), Cond.methodLink RJ0 492 yJ0_isLatin1_aae02, Cond.instanceMethod yJ0_isLatin1_aae02, Cond.selects RJ0 yJ0_isLatin1_aae02 yJ0_isLatin1_aae02, Cond.code yJ0_isLatin1_aae02 cJ0_isLatin1_aae02 1 (some .boolean), Cond.methodLink RJ0 495 yJ1_charAt_3b067, Cond.static yJ1_charAt_3b067, Cond.initialized RJ1, Cond.code yJ1_charAt_3b067 cJ1_charAt_3b067 2 (some .char), Cond.methodLink RJ1 9 yJ0_checkIndex_df160, Cond.static yJ0_checkIndex_df160, Cond.code yJ0_checkIndex_df160 cJ0_checkIndex_df160 2 none, Cond.fieldLink RJ0 1053 "jdk/internal/util/Preconditions" "SIOOBE_FORMATTER" "Ljava/util/function/BiFunction;", Cond.methodLink RJ0 1059 yJ3_checkIndex_8e157]
def wsX6_unrule_r3 : List Cond := [Cond.static yJ3_checkIndex_8e157, Cond.initialized RJ3, Cond.code yJ3_checkIndex_8e157 cJ3_checkIndex_8e157 3 (some .int), Cond.methodLink RJ0 498 yJ2_charAt_3b067, Cond.static yJ2_charAt_3b067, Cond.initialized RJ2, Cond.code yJ2_charAt_3b067 cJ2_charAt_3b067 2 (some .char), Cond.methodLink RJ2 67 yJ2_checkIndex_2214a, Cond.static yJ2_checkIndex_2214a, Cond.code yJ2_checkIndex_2214a cJ2_checkIndex_2214a 2 none, Cond.methodLink RJ2 48 yJ2_length_9d52b, Cond.static yJ2_length_9d52b, Cond.code yJ2_length_9d52b cJ2_length_9d52b 1 (some .int), Cond.methodLink RJ2 414 yJ0_checkIndex_df160, Cond.methodLink RJ2 71 yJ2_getChar_3b067, Cond.static yJ2_getChar_3b067, Cond.code yJ2_getChar_3b067 cJ2_getChar_3b067 2 (some .char), Cond.fieldLink RJ2 44 "java/lang/StringUTF16" "$assertionsDisabled" "Z", Cond.fieldLink RJ2 59 "java/lang/StringUTF16" "HI_BYTE_SHIFT" "I", Cond.fieldLink RJ2 63 "java/lang/StringUTF16" "LO_BYTE_SHIFT" "I", Cond.methodLink RX4 52 yJ0_indexOf_0f7a4, Cond.instanceMethod yJ0_indexOf_0f7a4, Cond.selects RJ0 yJ0_indexOf_0f7a4 yJ0_indexOf_0f7a4, Cond.code yJ0_indexOf_0f7a4 cJ0_indexOf_0f7a4 2 (some .int)]
def wsX6_unrule_r4 : List Cond := [Cond.methodLink RJ0 633 yJ0_indexOf_7cf53, Cond.instanceMethod yJ0_indexOf_7cf53, Cond.selects RJ0 yJ0_indexOf_7cf53 yJ0_indexOf_7cf53, Cond.code yJ0_indexOf_7cf53 cJ0_indexOf_7cf53 3 (some .int), Cond.methodLink RJ0 505 yJ0_length_8abf5, Cond.methodLink RJ0 637 yJ1_indexOf_4cfef, Cond.static yJ1_indexOf_4cfef, Cond.code yJ1_indexOf_4cfef cJ1_indexOf_4cfef 4 (some .int), Cond.methodLink RJ1 92 Lib.Math.max.name, Cond.static Lib.Math.max.name, Cond.initialized "java/lang/Math", Cond.code Lib.Math.max.name Lib.Math.max.code 2 (some .int), Cond.methodLink RJ1 38 Lib.Math.min.name, Cond.static Lib.Math.min.name, Cond.code Lib.Math.min.name Lib.Math.min.code 2 (some .int), Cond.methodLink RJ1 88 yJ1_canEncode_9a6ad, Cond.static yJ1_canEncode_9a6ad, Cond.code yJ1_canEncode_9a6ad cJ1_canEncode_9a6ad 1 (some .boolean), Cond.methodLink RJ1 95 yJ1_indexOfChar_4cfef, Cond.static yJ1_indexOfChar_4cfef, Cond.code yJ1_indexOfChar_4cfef cJ1_indexOfChar_4cfef 6 (some .int), Cond.methodLink RJ0 640 yJ2_indexOf_4cfef, Cond.static yJ2_indexOf_4cfef, Cond.code yJ2_indexOf_4cfef cJ2_indexOf_4cfef 4 (some .int)]
def wsX6_unrule_r5 : List Cond := [Cond.methodLink RJ2 224 Lib.Math.max.name, Cond.methodLink RJ2 183 Lib.Math.min.name, Cond.constant RJ2 227 (65536), Cond.methodLink RJ2 228 yJ2_indexOfChar_4cfef, Cond.static yJ2_indexOfChar_4cfef, Cond.code yJ2_indexOfChar_4cfef cJ2_indexOfChar_4cfef 4 (some .int), Cond.methodLink RJ2 96 yJ2_checkBoundsBeginEnd_d044e, Cond.static yJ2_checkBoundsBeginEnd_d044e, Cond.code yJ2_checkBoundsBeginEnd_d044e cJ2_checkBoundsBeginEnd_d044e 3 none, Cond.methodLink RJ2 241 yJ0_checkBoundsBeginEnd_23922, Cond.static yJ0_checkBoundsBeginEnd_23922, Cond.code yJ0_checkBoundsBeginEnd_23922 cJ0_checkBoundsBeginEnd_23922 3 none, Cond.methodLink RJ0 1062 yJ3_checkFromToIndex_8c36e, Cond.static yJ3_checkFromToIndex_8c36e, Cond.code yJ3_checkFromToIndex_8c36e cJ3_checkFromToIndex_8c36e 4 (some .int), Cond.methodLink RJ2 244 yJ2_indexOfCharUnsafe_4cfef, Cond.static yJ2_indexOfCharUnsafe_4cfef, Cond.code yJ2_indexOfCharUnsafe_4cfef cJ2_indexOfCharUnsafe_4cfef 5 (some .int), Cond.methodLink RJ2 232 yJ2_indexOfSupplementary_4cfef, Cond.static yJ2_indexOfSupplementary_4cfef, Cond.code yJ2_indexOfSupplementary_4cfef cJ2_indexOfSupplementary_4cfef 7 (some .int), Cond.methodLink RJ2 164 yJ11_isValidCodePoint_9a6ad, Cond.static yJ11_isValidCodePoint_9a6ad, Cond.initialized RJ11]
def wsX6_unrule_r6 : List Cond := [Cond.code yJ11_isValidCodePoint_9a6ad cJ11_isValidCodePoint_9a6ad 2 (some .boolean), Cond.methodLink RJ2 157 yJ11_highSurrogate_5068e, Cond.static yJ11_highSurrogate_5068e, Cond.code yJ11_highSurrogate_5068e cJ11_highSurrogate_5068e 1 (some .char), Cond.constant RJ11 110 (55232), Cond.methodLink RJ2 161 yJ11_lowSurrogate_5068e, Cond.static yJ11_lowSurrogate_5068e, Cond.code yJ11_lowSurrogate_5068e cJ11_lowSurrogate_5068e 1 (some .char), Cond.constant RJ11 76 (56320), Cond.methodLink RX4 56 yX4_number, Cond.static yX4_number, Cond.code yX4_number cX4_number 2 (some .int), Cond.methodLink RX4 60 yX4_pairMarked, Cond.static yX4_pairMarked, Cond.code yX4_pairMarked cX4_pairMarked 3 (some .int), Cond.methodLink RX4 64 yX4_append, Cond.instanceMethod yX4_append, Cond.selects RX4 yX4_append yX4_append, Cond.code yX4_append cX4_append 3 none, Cond.fieldLink RX4 15 "TagTower$Productions" "letters" "[I", Cond.methodLink RX6 87 yX3_dropRule, Cond.instanceMethod yX3_dropRule, Cond.selects RX3 yX3_dropRule yX3_dropRule, Cond.initialized RX3]
def wsX6_unrule_r7 : List Cond := [Cond.code yX3_dropRule cX3_dropRule 2 (some .int), Cond.fieldLink RX3 9 "TagTower$Machine" "ruled" "[Z", Cond.fieldLink RX3 25 "TagTower$Machine" "rules" "I"]
def wsX6_unrule : List Cond := .code yX6_unrule cX6_unrule 4 (some .int) :: ((wsX6_unrule_r1 ++ (wsX6_unrule_r2 ++ (wsX6_unrule_r3 ++ (wsX6_unrule_r4 ++ (wsX6_unrule_r5 ++ (wsX6_unrule_r6 ++ wsX6_unrule_r7)))))) ++ wsX60 ++ wsX40 ++ wsX30)
def wsX6_place : List Cond := .code yX6_place cX6_place 5 (some .int) :: ([.constant RX6 90 (100000), .fieldLink RX6 19 "TagTower" "machine" "LTagTower$Machine;", .methodLink RX6 44 yX6_outside, .static yX6_outside, .initialized RX6, .code yX6_outside cX6_outside 3 (some .boolean), .methodLink RX6 91 yX3_putPlace, .instanceMethod yX3_putPlace, .selects RX3 yX3_putPlace yX3_putPlace, .initialized RX3, .code yX3_putPlace cX3_putPlace 5 none, .fieldLink RX3 29 "TagTower$Machine" "state" "I", .fieldLink RX3 32 "TagTower$Machine" "sign" "I", .fieldLink RX3 35 "TagTower$Machine" "left" "I", .fieldLink RX3 38 "TagTower$Machine" "right" "I"] ++ wsX60 ++ wsX30)
def wsX6_move_r1 : List Cond := [Cond.fieldLink RX6 19 "TagTower" "machine" "LTagTower$Machine;", Cond.methodLink RX6 44 yX6_outside, Cond.static yX6_outside, Cond.initialized RX6, Cond.code yX6_outside cX6_outside 3 (some .boolean), Cond.methodLink RX6 94 yX3_doSteps, Cond.instanceMethod yX3_doSteps, Cond.selects RX3 yX3_doSteps yX3_doSteps, Cond.initialized RX3, Cond.code yX3_doSteps cX3_doSteps 3 (some .int), Cond.methodLink RX3 45 yX3_doStep, Cond.instanceMethod yX3_doStep, Cond.selects RX3 yX3_doStep yX3_doStep, Cond.code yX3_doStep cX3_doStep 5 (some .boolean), Cond.fieldLink RX3 29 "TagTower$Machine" "state" "I", Cond.fieldLink RX3 32 "TagTower$Machine" "sign" "I", Cond.fieldLink RX3 19 "TagTower$Machine" "ways" "[I", Cond.fieldLink RX3 35 "TagTower$Machine" "left" "I", Cond.fieldLink RX3 38 "TagTower$Machine" "right" "I", Cond.fieldLink RX3 15 "TagTower$Machine" "signs" "[I", Cond.constant RX3 52 (100000), Cond.fieldLink RX3 22 "TagTower$Machine" "states" "[I", Cond.methodLink RX3 49 yX3_isStill, Cond.instanceMethod yX3_isStill]
def wsX6_move_r2 : List Cond := [Cond.selects RX3 yX3_isStill yX3_isStill, Cond.code yX3_isStill cX3_isStill 1 (some .boolean), Cond.fieldLink RX3 9 "TagTower$Machine" "ruled" "[Z", Cond.static yX6_pairOf, Cond.code yX6_pairOf cX6_pairOf 2 (some .int)]
def wsX6_move : List Cond := .code yX6_move cX6_move 2 (some .int) :: ((wsX6_move_r1 ++ wsX6_move_r2) ++ wsX60 ++ wsX30)
def wsX6_where : List Cond := .code yX6_where cX6_where 2 (some .int) :: ([.fieldLink RX6 19 "TagTower" "machine" "LTagTower$Machine;", .methodLink RX6 110 yX3_isStill, .instanceMethod yX3_isStill, .selects RX3 yX3_isStill yX3_isStill, .initialized RX3, .code yX3_isStill cX3_isStill 1 (some .boolean), .fieldLink RX3 9 "TagTower$Machine" "ruled" "[Z", .fieldLink RX3 29 "TagTower$Machine" "state" "I", .fieldLink RX3 32 "TagTower$Machine" "sign" "I", .static yX6_pairOf, .initialized RX6, .code yX6_pairOf cX6_pairOf 2 (some .int), .methodLink RX6 114 yX6_oneIf, .static yX6_oneIf, .code yX6_oneIf cX6_oneIf 1 (some .int)] ++ wsX60 ++ wsX30)
def wsX6_production : List Cond := .code yX6_production cX6_production 3 (some .int) :: ([.fieldLink RX6 26 "TagTower" "productions" "LTagTower$Productions;", .methodLink RX6 44 yX6_outside, .static yX6_outside, .initialized RX6, .code yX6_outside cX6_outside 3 (some .boolean), .methodLink RX6 118 yX4_letterAt, .instanceMethod yX4_letterAt, .selects RX4 yX4_letterAt yX4_letterAt, .initialized RX4, .code yX4_letterAt cX4_letterAt 3 (some .int), .fieldLink RX4 15 "TagTower$Productions" "letters" "[I", .methodLink RX4 75 yX4_sizeOf, .instanceMethod yX4_sizeOf, .selects RX4 yX4_sizeOf yX4_sizeOf, .code yX4_sizeOf cX4_sizeOf 2 (some .int), .fieldLink RX4 9 "TagTower$Productions" "sizes" "[I"] ++ wsX60 ++ wsX40)
def wsX6_lay_r1 : List Cond := [Cond.fieldLink RX6 33 "TagTower" "word" "LTagTower$Word;", Cond.fieldLink RX6 19 "TagTower" "machine" "LTagTower$Machine;", Cond.methodLink RX6 73 yX6_pairOf, Cond.static yX6_pairOf, Cond.initialized RX6, Cond.code yX6_pairOf cX6_pairOf 2 (some .int), Cond.methodLink RX6 121 yX5_layPlace, Cond.instanceMethod yX5_layPlace, Cond.selects RX5 yX5_layPlace yX5_layPlace, Cond.initialized RX5, Cond.code yX5_layPlace cX5_layPlace 5 (some .int), Cond.fieldLink RX5 14 "TagTower$Word" "row" "LTagTower$LetterRow;", Cond.methodLink RX5 23 yX2_empty, Cond.instanceMethod yX2_empty, Cond.selects RX2 yX2_empty yX2_empty, Cond.initialized RX2, Cond.code yX2_empty cX2_empty 1 none, Cond.fieldLink RX2 21 "TagTower$LetterRow" "head" "I", Cond.fieldLink RX2 25 "TagTower$LetterRow" "size" "I", Cond.methodLink RX5 26 yX5_appendTwos, Cond.instanceMethod yX5_appendTwos, Cond.selects RX5 yX5_appendTwos yX5_appendTwos, Cond.code yX5_appendTwos cX5_appendTwos 4 none, Cond.methodLink RX5 34 yX2_append]
def wsX6_lay_r2 : List Cond := [Cond.instanceMethod yX2_append, Cond.selects RX2 yX2_append yX2_append, Cond.code yX2_append cX2_append 2 none, Cond.fieldLink RX2 15 "TagTower$LetterRow" "cells" "[I", Cond.methodLink RX2 32 yX2_wrapped, Cond.instanceMethod yX2_wrapped, Cond.selects RX2 yX2_wrapped yX2_wrapped, Cond.code yX2_wrapped cX2_wrapped 2 (some .int)]
def wsX6_lay : List Cond := .code yX6_lay cX6_lay 1 (some .int) :: ((wsX6_lay_r1 ++ wsX6_lay_r2) ++ wsX60 ++ wsX30 ++ wsX50 ++ wsX20)
def wsX6_add : List Cond := .code yX6_add cX6_add 2 (some .int) :: ([.fieldLink RX6 33 "TagTower" "word" "LTagTower$Word;", .methodLink RX6 44 yX6_outside, .static yX6_outside, .initialized RX6, .code yX6_outside cX6_outside 3 (some .boolean), .methodLink RX6 125 yX5_addLetter, .instanceMethod yX5_addLetter, .selects RX5 yX5_addLetter yX5_addLetter, .initialized RX5, .code yX5_addLetter cX5_addLetter 2 (some .int), .fieldLink RX5 14 "TagTower$Word" "row" "LTagTower$LetterRow;", .methodLink RX5 34 yX2_append, .instanceMethod yX2_append, .selects RX2 yX2_append yX2_append, .initialized RX2, .code yX2_append cX2_append 2 none, .fieldLink RX2 25 "TagTower$LetterRow" "size" "I", .fieldLink RX2 15 "TagTower$LetterRow" "cells" "[I", .fieldLink RX2 21 "TagTower$LetterRow" "head" "I", .methodLink RX2 32 yX2_wrapped, .instanceMethod yX2_wrapped, .selects RX2 yX2_wrapped yX2_wrapped, .code yX2_wrapped cX2_wrapped 2 (some .int)] ++ wsX60 ++ wsX50 ++ wsX20)
def wsX6_clear : List Cond := .code yX6_clear cX6_clear 2 (some .int) :: ([.fieldLink RX6 33 "TagTower" "word" "LTagTower$Word;", .methodLink RX6 137 yX2_empty, .instanceMethod yX2_empty, .selects RX2 yX2_empty yX2_empty, .initialized RX2, .code yX2_empty cX2_empty 1 none, .fieldLink RX2 21 "TagTower$LetterRow" "head" "I", .fieldLink RX2 25 "TagTower$LetterRow" "size" "I"] ++ wsX60 ++ wsX50 ++ wsX20)
def wsX6_letter : List Cond := .code yX6_letter cX6_letter 2 (some .int) :: ([.fieldLink RX6 33 "TagTower" "word" "LTagTower$Word;", .methodLink RX6 140 yX2_get, .instanceMethod yX2_get, .selects RX2 yX2_get yX2_get, .initialized RX2, .code yX2_get cX2_get 2 (some .int), .fieldLink RX2 25 "TagTower$LetterRow" "size" "I", .fieldLink RX2 15 "TagTower$LetterRow" "cells" "[I", .fieldLink RX2 21 "TagTower$LetterRow" "head" "I", .static yX6_outside, .initialized RX6, .code yX6_outside cX6_outside 3 (some .boolean), .methodLink RX2 32 yX2_wrapped, .instanceMethod yX2_wrapped, .selects RX2 yX2_wrapped yX2_wrapped, .code yX2_wrapped cX2_wrapped 2 (some .int)] ++ wsX60 ++ wsX50 ++ wsX20)
def wsX6_length : List Cond := .code yX6_length cX6_length 1 (some .int) :: ([.fieldLink RX6 33 "TagTower" "word" "LTagTower$Word;"] ++ wsX60 ++ wsX50 ++ wsX20)
def wsX6_tag_r1 : List Cond := [Cond.fieldLink RX6 33 "TagTower" "word" "LTagTower$Word;", Cond.fieldLink RX6 26 "TagTower" "productions" "LTagTower$Productions;", Cond.methodLink RX6 44 yX6_outside, Cond.static yX6_outside, Cond.initialized RX6, Cond.code yX6_outside cX6_outside 3 (some .boolean), Cond.methodLink RX6 143 yX5_doSteps, Cond.instanceMethod yX5_doSteps, Cond.selects RX5 yX5_doSteps yX5_doSteps, Cond.initialized RX5, Cond.code yX5_doSteps cX5_doSteps 4 (some .int), Cond.methodLink RX5 37 yX5_doStep, Cond.instanceMethod yX5_doStep, Cond.selects RX5 yX5_doStep yX5_doStep, Cond.code yX5_doStep cX5_doStep 4 (some .boolean), Cond.fieldLink RX5 14 "TagTower$Word" "row" "LTagTower$LetterRow;", Cond.methodLink RX5 49 yX2_get, Cond.instanceMethod yX2_get, Cond.selects RX2 yX2_get yX2_get, Cond.initialized RX2, Cond.code yX2_get cX2_get 2 (some .int), Cond.fieldLink RX2 25 "TagTower$LetterRow" "size" "I", Cond.fieldLink RX2 15 "TagTower$LetterRow" "cells" "[I", Cond.fieldLink RX2 21 "TagTower$LetterRow" "head" "I"]
def wsX6_tag_r2 : List Cond := [Cond.methodLink RX2 32 yX2_wrapped, Cond.instanceMethod yX2_wrapped, Cond.selects RX2 yX2_wrapped yX2_wrapped, Cond.code yX2_wrapped cX2_wrapped 2 (some .int), Cond.methodLink RX5 53 yX4_sizeOf, Cond.instanceMethod yX4_sizeOf, Cond.selects RX4 yX4_sizeOf yX4_sizeOf, Cond.initialized RX4, Cond.code yX4_sizeOf cX4_sizeOf 2 (some .int), Cond.fieldLink RX4 9 "TagTower$Productions" "sizes" "[I", Cond.methodLink RX5 58 yX2_drop, Cond.instanceMethod yX2_drop, Cond.selects RX2 yX2_drop yX2_drop, Cond.code yX2_drop cX2_drop 3 none, Cond.methodLink RX2 36 Lib.Math.min.name, Cond.static Lib.Math.min.name, Cond.initialized "java/lang/Math", Cond.code Lib.Math.min.name Lib.Math.min.code 2 (some .int), Cond.methodLink RX5 61 yX4_appendTo, Cond.instanceMethod yX4_appendTo, Cond.selects RX4 yX4_appendTo yX4_appendTo, Cond.code yX4_appendTo cX4_appendTo 6 none, Cond.fieldLink RX4 15 "TagTower$Productions" "letters" "[I", Cond.methodLink RX4 75 yX4_sizeOf]
def wsX6_tag_r3 : List Cond := [Cond.methodLink RX4 85 yX2_append, Cond.instanceMethod yX2_append, Cond.selects RX2 yX2_append yX2_append, Cond.code yX2_append cX2_append 2 none]
def wsX6_tag : List Cond := .code yX6_tag cX6_tag 2 (some .int) :: ((wsX6_tag_r1 ++ (wsX6_tag_r2 ++ wsX6_tag_r3)) ++ wsX60 ++ wsX50 ++ wsX20 ++ wsX40)
def wsX6_next_r1 : List Cond := [Cond.fieldLink RX6 33 "TagTower" "word" "LTagTower$Word;", Cond.fieldLink RX6 26 "TagTower" "productions" "LTagTower$Productions;", Cond.methodLink RX6 146 yX5_stepsToPlace, Cond.instanceMethod yX5_stepsToPlace, Cond.selects RX5 yX5_stepsToPlace yX5_stepsToPlace, Cond.initialized RX5, Cond.code yX5_stepsToPlace cX5_stepsToPlace 3 (some .int), Cond.fieldLink RX5 20 "TagTower$Word" "kept" "LTagTower$LetterRow;", Cond.fieldLink RX5 14 "TagTower$Word" "row" "LTagTower$LetterRow;", Cond.methodLink RX5 41 yX2_become, Cond.instanceMethod yX2_become, Cond.selects RX2 yX2_become yX2_become, Cond.initialized RX2, Cond.code yX2_become cX2_become 3 none, Cond.fieldLink RX2 25 "TagTower$LetterRow" "size" "I", Cond.methodLink RX2 39 yX2_empty, Cond.instanceMethod yX2_empty, Cond.selects RX2 yX2_empty yX2_empty, Cond.code yX2_empty cX2_empty 1 none, Cond.fieldLink RX2 21 "TagTower$LetterRow" "head" "I", Cond.methodLink RX2 42 yX2_get, Cond.instanceMethod yX2_get, Cond.selects RX2 yX2_get yX2_get, Cond.code yX2_get cX2_get 2 (some .int)]
def wsX6_next_r2 : List Cond := [Cond.fieldLink RX2 15 "TagTower$LetterRow" "cells" "[I", Cond.static yX6_outside, Cond.initialized RX6, Cond.code yX6_outside cX6_outside 3 (some .boolean), Cond.methodLink RX2 32 yX2_wrapped, Cond.instanceMethod yX2_wrapped, Cond.selects RX2 yX2_wrapped yX2_wrapped, Cond.code yX2_wrapped cX2_wrapped 2 (some .int), Cond.methodLink RX2 45 yX2_append, Cond.instanceMethod yX2_append, Cond.selects RX2 yX2_append yX2_append, Cond.code yX2_append cX2_append 2 none, Cond.methodLink RX5 37 yX5_doStep, Cond.instanceMethod yX5_doStep, Cond.selects RX5 yX5_doStep yX5_doStep, Cond.code yX5_doStep cX5_doStep 4 (some .boolean), Cond.methodLink RX5 49 yX2_get, Cond.methodLink RX5 53 yX4_sizeOf, Cond.instanceMethod yX4_sizeOf, Cond.selects RX4 yX4_sizeOf yX4_sizeOf, Cond.initialized RX4, Cond.code yX4_sizeOf cX4_sizeOf 2 (some .int), Cond.fieldLink RX4 9 "TagTower$Productions" "sizes" "[I", Cond.methodLink RX5 58 yX2_drop]
def wsX6_next_r3 : List Cond := [Cond.instanceMethod yX2_drop, Cond.selects RX2 yX2_drop yX2_drop, Cond.code yX2_drop cX2_drop 3 none, Cond.methodLink RX2 36 Lib.Math.min.name, Cond.static Lib.Math.min.name, Cond.initialized "java/lang/Math", Cond.code Lib.Math.min.name Lib.Math.min.code 2 (some .int), Cond.methodLink RX5 61 yX4_appendTo, Cond.instanceMethod yX4_appendTo, Cond.selects RX4 yX4_appendTo yX4_appendTo, Cond.code yX4_appendTo cX4_appendTo 6 none, Cond.fieldLink RX4 15 "TagTower$Productions" "letters" "[I", Cond.methodLink RX4 75 yX4_sizeOf, Cond.methodLink RX4 85 yX2_append, Cond.methodLink RX5 45 yX5_middle, Cond.instanceMethod yX5_middle, Cond.selects RX5 yX5_middle yX5_middle, Cond.code yX5_middle cX5_middle 4 (some .int), Cond.methodLink RX5 65 yX5_behindTwos, Cond.instanceMethod yX5_behindTwos, Cond.selects RX5 yX5_behindTwos yX5_behindTwos, Cond.code yX5_behindTwos cX5_behindTwos 4 (some .int)]
def wsX6_next : List Cond := .code yX6_next cX6_next 1 (some .int) :: ((wsX6_next_r1 ++ (wsX6_next_r2 ++ wsX6_next_r3)) ++ wsX60 ++ wsX50 ++ wsX20 ++ wsX40)
def wsX6_told_r1 : List Cond := [Cond.fieldLink RX6 33 "TagTower" "word" "LTagTower$Word;", Cond.methodLink RX6 44 yX6_outside, Cond.static yX6_outside, Cond.initialized RX6, Cond.code yX6_outside cX6_outside 3 (some .boolean), Cond.methodLink RX6 150 yX5_tellPlace, Cond.instanceMethod yX5_tellPlace, Cond.selects RX5 yX5_tellPlace yX5_tellPlace, Cond.initialized RX5, Cond.code yX5_tellPlace cX5_tellPlace 4 (some .int), Cond.fieldLink RX5 14 "TagTower$Word" "row" "LTagTower$LetterRow;", Cond.methodLink RX5 45 yX5_middle, Cond.instanceMethod yX5_middle, Cond.selects RX5 yX5_middle yX5_middle, Cond.code yX5_middle cX5_middle 4 (some .int), Cond.methodLink RX5 49 yX2_get, Cond.instanceMethod yX2_get, Cond.selects RX2 yX2_get yX2_get, Cond.initialized RX2, Cond.code yX2_get cX2_get 2 (some .int), Cond.fieldLink RX2 25 "TagTower$LetterRow" "size" "I", Cond.fieldLink RX2 15 "TagTower$LetterRow" "cells" "[I", Cond.fieldLink RX2 21 "TagTower$LetterRow" "head" "I", Cond.methodLink RX2 32 yX2_wrapped]
def wsX6_told_r2 : List Cond := [Cond.instanceMethod yX2_wrapped, Cond.selects RX2 yX2_wrapped yX2_wrapped, Cond.code yX2_wrapped cX2_wrapped 2 (some .int), Cond.methodLink RX5 65 yX5_behindTwos, Cond.instanceMethod yX5_behindTwos, Cond.selects RX5 yX5_behindTwos yX5_behindTwos, Cond.code yX5_behindTwos cX5_behindTwos 4 (some .int)]
def wsX6_told : List Cond := .code yX6_told cX6_told 2 (some .int) :: ((wsX6_told_r1 ++ wsX6_told_r2) ++ wsX60 ++ wsX50 ++ wsX20)
def wsX6_appendant : List Cond := .code yX6_appendant cX6_appendant 3 (some .int) :: ([.fieldLink RX6 26 "TagTower" "productions" "LTagTower$Productions;", .methodLink RX6 44 yX6_outside, .static yX6_outside, .initialized RX6, .code yX6_outside cX6_outside 3 (some .boolean), .methodLink RX6 153 yX4_bitAt, .instanceMethod yX4_bitAt, .selects RX4 yX4_bitAt yX4_bitAt, .initialized RX4, .code yX4_bitAt cX4_bitAt 3 (some .int), .methodLink RX4 75 yX4_sizeOf, .instanceMethod yX4_sizeOf, .selects RX4 yX4_sizeOf yX4_sizeOf, .code yX4_sizeOf cX4_sizeOf 2 (some .int), .fieldLink RX4 9 "TagTower$Productions" "sizes" "[I", .methodLink RX4 78 yX4_letterAt, .instanceMethod yX4_letterAt, .selects RX4 yX4_letterAt yX4_letterAt, .code yX4_letterAt cX4_letterAt 3 (some .int), .fieldLink RX4 15 "TagTower$Productions" "letters" "[I", .static yX6_oneIf, .code yX6_oneIf cX6_oneIf 1 (some .int)] ++ wsX60 ++ wsX40)
def wsX6_spread_r1 : List Cond := [Cond.fieldLink RX6 40 "TagTower" "bitRow" "LTagTower$Bits;", Cond.fieldLink RX6 33 "TagTower" "word" "LTagTower$Word;", Cond.methodLink RX6 156 yX0_layWord, Cond.instanceMethod yX0_layWord, Cond.selects RX0 yX0_layWord yX0_layWord, Cond.initialized RX0, Cond.code yX0_layWord cX0_layWord 3 (some .int), Cond.constant RX0 24 (80000), Cond.fieldLink RX0 14 "TagTower$Bits" "row" "LTagTower$LetterRow;", Cond.fieldLink RX0 29 "TagTower$Bits" "turn" "I", Cond.methodLink RX0 25 yX2_become, Cond.instanceMethod yX2_become, Cond.selects RX2 yX2_become yX2_become, Cond.initialized RX2, Cond.code yX2_become cX2_become 3 none, Cond.fieldLink RX2 25 "TagTower$LetterRow" "size" "I", Cond.methodLink RX2 39 yX2_empty, Cond.instanceMethod yX2_empty, Cond.selects RX2 yX2_empty yX2_empty, Cond.code yX2_empty cX2_empty 1 none, Cond.fieldLink RX2 21 "TagTower$LetterRow" "head" "I", Cond.methodLink RX2 42 yX2_get, Cond.instanceMethod yX2_get, Cond.selects RX2 yX2_get yX2_get]
def wsX6_spread_r2 : List Cond := [Cond.code yX2_get cX2_get 2 (some .int), Cond.fieldLink RX2 15 "TagTower$LetterRow" "cells" "[I", Cond.static yX6_outside, Cond.initialized RX6, Cond.code yX6_outside cX6_outside 3 (some .boolean), Cond.methodLink RX2 32 yX2_wrapped, Cond.instanceMethod yX2_wrapped, Cond.selects RX2 yX2_wrapped yX2_wrapped, Cond.code yX2_wrapped cX2_wrapped 2 (some .int), Cond.methodLink RX2 45 yX2_append, Cond.instanceMethod yX2_append, Cond.selects RX2 yX2_append yX2_append, Cond.code yX2_append cX2_append 2 none]
def wsX6_spread : List Cond := .code yX6_spread cX6_spread 1 (some .int) :: ((wsX6_spread_r1 ++ wsX6_spread_r2) ++ wsX60 ++ wsX50 ++ wsX20 ++ wsX00)
def wsX6_cycle_r1 : List Cond := [Cond.fieldLink RX6 40 "TagTower" "bitRow" "LTagTower$Bits;", Cond.fieldLink RX6 26 "TagTower" "productions" "LTagTower$Productions;", Cond.methodLink RX6 44 yX6_outside, Cond.static yX6_outside, Cond.initialized RX6, Cond.code yX6_outside cX6_outside 3 (some .boolean), Cond.methodLink RX6 160 yX0_doSteps, Cond.instanceMethod yX0_doSteps, Cond.selects RX0 yX0_doSteps yX0_doSteps, Cond.initialized RX0, Cond.code yX0_doSteps cX0_doSteps 5 (some .int), Cond.methodLink RX0 55 yX0_take, Cond.instanceMethod yX0_take, Cond.selects RX0 yX0_take yX0_take, Cond.code yX0_take cX0_take 7 (some .int), Cond.fieldLink RX0 14 "TagTower$Bits" "row" "LTagTower$LetterRow;", Cond.methodLink RX0 67 Lib.Math.min.name, Cond.static Lib.Math.min.name, Cond.initialized "java/lang/Math", Cond.code Lib.Math.min.name Lib.Math.min.code 2 (some .int), Cond.methodLink RX0 59 yX0_isStill, Cond.instanceMethod yX0_isStill, Cond.selects RX0 yX0_isStill yX0_isStill, Cond.code yX0_isStill cX0_isStill 2 (some .boolean)]
def wsX6_cycle_r2 : List Cond := [Cond.fieldLink RX0 29 "TagTower$Bits" "turn" "I", Cond.methodLink RX0 42 yX2_get, Cond.instanceMethod yX2_get, Cond.selects RX2 yX2_get yX2_get, Cond.initialized RX2, Cond.code yX2_get cX2_get 2 (some .int), Cond.fieldLink RX2 25 "TagTower$LetterRow" "size" "I", Cond.fieldLink RX2 15 "TagTower$LetterRow" "cells" "[I", Cond.fieldLink RX2 21 "TagTower$LetterRow" "head" "I", Cond.methodLink RX2 32 yX2_wrapped, Cond.instanceMethod yX2_wrapped, Cond.selects RX2 yX2_wrapped yX2_wrapped, Cond.code yX2_wrapped cX2_wrapped 2 (some .int), Cond.methodLink RX0 50 yX4_sizeOf, Cond.instanceMethod yX4_sizeOf, Cond.selects RX4 yX4_sizeOf yX4_sizeOf, Cond.initialized RX4, Cond.code yX4_sizeOf cX4_sizeOf 2 (some .int), Cond.fieldLink RX4 9 "TagTower$Productions" "sizes" "[I", Cond.methodLink RX0 32 yX0_gone, Cond.instanceMethod yX0_gone, Cond.selects RX0 yX0_gone yX0_gone, Cond.code yX0_gone cX0_gone 1 (some .int), Cond.methodLink RX0 63 yX0_takeOne]
def wsX6_cycle_r3 : List Cond := [Cond.instanceMethod yX0_takeOne, Cond.selects RX0 yX0_takeOne yX0_takeOne, Cond.code yX0_takeOne cX0_takeOne 2 (some .int), Cond.constant RX0 24 (80000), Cond.methodLink RX0 36 yX0_size, Cond.instanceMethod yX0_size, Cond.selects RX0 yX0_size yX0_size, Cond.code yX0_size cX0_size 1 (some .int), Cond.methodLink RX0 76 yX4_appendTo, Cond.instanceMethod yX4_appendTo, Cond.selects RX4 yX4_appendTo yX4_appendTo, Cond.code yX4_appendTo cX4_appendTo 6 none, Cond.fieldLink RX4 15 "TagTower$Productions" "letters" "[I", Cond.methodLink RX4 75 yX4_sizeOf, Cond.methodLink RX4 85 yX2_append, Cond.instanceMethod yX2_append, Cond.selects RX2 yX2_append yX2_append, Cond.code yX2_append cX2_append 2 none, Cond.methodLink RX0 73 yX0_pass, Cond.instanceMethod yX0_pass, Cond.selects RX0 yX0_pass yX0_pass, Cond.code yX0_pass cX0_pass 2 none, Cond.methodLink RX0 80 yX2_drop, Cond.instanceMethod yX2_drop]
def wsX6_cycle_r4 : List Cond := [Cond.selects RX2 yX2_drop yX2_drop, Cond.code yX2_drop cX2_drop 3 none, Cond.methodLink RX2 36 Lib.Math.min.name]
def wsX6_cycle : List Cond := .code yX6_cycle cX6_cycle 2 (some .int) :: ((wsX6_cycle_r1 ++ (wsX6_cycle_r2 ++ (wsX6_cycle_r3 ++ wsX6_cycle_r4))) ++ wsX60 ++ wsX00 ++ wsX20 ++ wsX40)
def wsX6_bit_r1 : List Cond := [Cond.fieldLink RX6 40 "TagTower" "bitRow" "LTagTower$Bits;", Cond.methodLink RX6 161 yX0_get, Cond.instanceMethod yX0_get, Cond.selects RX0 yX0_get yX0_get, Cond.initialized RX0, Cond.code yX0_get cX0_get 3 (some .int), Cond.fieldLink RX0 14 "TagTower$Bits" "row" "LTagTower$LetterRow;", Cond.methodLink RX0 36 yX0_size, Cond.instanceMethod yX0_size, Cond.selects RX0 yX0_size yX0_size, Cond.code yX0_size cX0_size 1 (some .int), Cond.methodLink RX0 32 yX0_gone, Cond.instanceMethod yX0_gone, Cond.selects RX0 yX0_gone yX0_gone, Cond.code yX0_gone cX0_gone 1 (some .int), Cond.fieldLink RX0 29 "TagTower$Bits" "turn" "I", Cond.static yX6_outside, Cond.initialized RX6, Cond.code yX6_outside cX6_outside 3 (some .boolean), Cond.methodLink RX0 42 yX2_get, Cond.instanceMethod yX2_get, Cond.selects RX2 yX2_get yX2_get, Cond.initialized RX2, Cond.code yX2_get cX2_get 2 (some .int)]
def wsX6_bit_r2 : List Cond := [Cond.fieldLink RX2 25 "TagTower$LetterRow" "size" "I", Cond.fieldLink RX2 15 "TagTower$LetterRow" "cells" "[I", Cond.fieldLink RX2 21 "TagTower$LetterRow" "head" "I", Cond.methodLink RX2 32 yX2_wrapped, Cond.instanceMethod yX2_wrapped, Cond.selects RX2 yX2_wrapped yX2_wrapped, Cond.code yX2_wrapped cX2_wrapped 2 (some .int), Cond.static yX6_oneIf, Cond.code yX6_oneIf cX6_oneIf 1 (some .int)]
def wsX6_bit : List Cond := .code yX6_bit cX6_bit 2 (some .int) :: ((wsX6_bit_r1 ++ wsX6_bit_r2) ++ wsX60 ++ wsX00 ++ wsX20)
def wsX6_bits_r1 : List Cond := [Cond.fieldLink RX6 40 "TagTower" "bitRow" "LTagTower$Bits;", Cond.fieldLink RX6 26 "TagTower" "productions" "LTagTower$Productions;", Cond.methodLink RX6 162 yX0_size, Cond.instanceMethod yX0_size, Cond.selects RX0 yX0_size yX0_size, Cond.initialized RX0, Cond.code yX0_size cX0_size 1 (some .int), Cond.fieldLink RX0 14 "TagTower$Bits" "row" "LTagTower$LetterRow;", Cond.methodLink RX0 32 yX0_gone, Cond.instanceMethod yX0_gone, Cond.selects RX0 yX0_gone yX0_gone, Cond.code yX0_gone cX0_gone 1 (some .int), Cond.fieldLink RX0 29 "TagTower$Bits" "turn" "I", Cond.methodLink RX6 167 yX0_ones, Cond.instanceMethod yX0_ones, Cond.selects RX0 yX0_ones yX0_ones, Cond.code yX0_ones cX0_ones 2 (some .int), Cond.methodLink RX0 42 yX2_get, Cond.instanceMethod yX2_get, Cond.selects RX2 yX2_get yX2_get, Cond.initialized RX2, Cond.code yX2_get cX2_get 2 (some .int), Cond.fieldLink RX2 25 "TagTower$LetterRow" "size" "I", Cond.fieldLink RX2 15 "TagTower$LetterRow" "cells" "[I"]
def wsX6_bits_r2 : List Cond := [Cond.fieldLink RX2 21 "TagTower$LetterRow" "head" "I", Cond.static yX6_outside, Cond.initialized RX6, Cond.code yX6_outside cX6_outside 3 (some .boolean), Cond.methodLink RX2 32 yX2_wrapped, Cond.instanceMethod yX2_wrapped, Cond.selects RX2 yX2_wrapped yX2_wrapped, Cond.code yX2_wrapped cX2_wrapped 2 (some .int), Cond.methodLink RX6 170 yX0_isStill, Cond.instanceMethod yX0_isStill, Cond.selects RX0 yX0_isStill yX0_isStill, Cond.code yX0_isStill cX0_isStill 2 (some .boolean), Cond.methodLink RX0 50 yX4_sizeOf, Cond.instanceMethod yX4_sizeOf, Cond.selects RX4 yX4_sizeOf yX4_sizeOf, Cond.initialized RX4, Cond.code yX4_sizeOf cX4_sizeOf 2 (some .int), Cond.fieldLink RX4 9 "TagTower$Productions" "sizes" "[I", Cond.methodLink RX6 114 yX6_oneIf, Cond.static yX6_oneIf, Cond.code yX6_oneIf cX6_oneIf 1 (some .int)]
def wsX6_bits : List Cond := .code yX6_bits cX6_bits 2 (some .int) :: ((wsX6_bits_r1 ++ wsX6_bits_r2) ++ wsX60 ++ wsX00 ++ wsX20 ++ wsX40)
def wsX6_gather_r1 : List Cond := [Cond.fieldLink RX6 40 "TagTower" "bitRow" "LTagTower$Bits;", Cond.fieldLink RX6 33 "TagTower" "word" "LTagTower$Word;", Cond.methodLink RX6 174 yX2_become, Cond.instanceMethod yX2_become, Cond.selects RX2 yX2_become yX2_become, Cond.initialized RX2, Cond.code yX2_become cX2_become 3 none, Cond.fieldLink RX2 25 "TagTower$LetterRow" "size" "I", Cond.methodLink RX2 39 yX2_empty, Cond.instanceMethod yX2_empty, Cond.selects RX2 yX2_empty yX2_empty, Cond.code yX2_empty cX2_empty 1 none, Cond.fieldLink RX2 21 "TagTower$LetterRow" "head" "I", Cond.methodLink RX2 42 yX2_get, Cond.instanceMethod yX2_get, Cond.selects RX2 yX2_get yX2_get, Cond.code yX2_get cX2_get 2 (some .int), Cond.fieldLink RX2 15 "TagTower$LetterRow" "cells" "[I", Cond.static yX6_outside, Cond.initialized RX6, Cond.code yX6_outside cX6_outside 3 (some .boolean), Cond.methodLink RX2 32 yX2_wrapped, Cond.instanceMethod yX2_wrapped, Cond.selects RX2 yX2_wrapped yX2_wrapped]
def wsX6_gather_r2 : List Cond := [Cond.code yX2_wrapped cX2_wrapped 2 (some .int), Cond.methodLink RX2 45 yX2_append, Cond.instanceMethod yX2_append, Cond.selects RX2 yX2_append yX2_append, Cond.code yX2_append cX2_append 2 none]
def wsX6_gather : List Cond := .code yX6_gather cX6_gather 1 (some .int) :: ((wsX6_gather_r1 ++ wsX6_gather_r2) ++ wsX60 ++ wsX00 ++ wsX20 ++ wsX50)
def wsX7_init : List Cond := .code yX7_init cX7_init 1 none :: ([.methodLink RX7 1 objectInit, .instanceMethod objectInit, .code objectInit ⟨#[0xb1]⟩ 1 none, .arrayClass .int, .fieldLink RX7 7 "TagTowerModel" "counter" "[I", .fieldLink RX7 13 "TagTowerModel" "op" "[I", .fieldLink RX7 16 "TagTowerModel" "which" "[I", .fieldLink RX7 19 "TagTowerModel" "then" "[I", .fieldLink RX7 22 "TagTowerModel" "other" "[I", .fieldLink RX7 25 "TagTowerModel" "writes" "[I", .fieldLink RX7 28 "TagTowerModel" "way" "[I", .fieldLink RX7 31 "TagTowerModel" "goes" "[I", .fieldLink RX7 34 "TagTowerModel" "word" "[I", .fieldLink RX7 37 "TagTowerModel" "saved" "[I", .constant RX7 40 (80001), .fieldLink RX7 41 "TagTowerModel" "bits" "[I", .fieldLink RX7 44 "TagTowerModel" "makes" "[I"] ++ wsX70)
def wsX7_in : List Cond := .code yX7_in cX7_in 6 (some .boolean) :: ([])
def wsX7_line : List Cond := .code yX7_line cX7_line 5 (some .int) :: ([.fieldLink RX7 47 "TagTowerModel" "thrown" "I", .constantLong RX7 51 (2), .constantLong RX7 57 (3), .constantLong RX7 59 (24), .fieldLink RX7 61 "TagTowerModel" "lines" "I", .fieldLink RX7 13 "TagTowerModel" "op" "[I", .fieldLink RX7 16 "TagTowerModel" "which" "[I", .fieldLink RX7 19 "TagTowerModel" "then" "[I", .fieldLink RX7 22 "TagTowerModel" "other" "[I", .methodLink RX7 53 yX7_in, .static yX7_in, .initialized RX7, .code yX7_in cX7_in 6 (some .boolean)] ++ wsX70)
def wsX7_wipe : List Cond := .code yX7_wipe cX7_wipe 2 (some .int) :: ([.fieldLink RX7 47 "TagTowerModel" "thrown" "I", .fieldLink RX7 61 "TagTowerModel" "lines" "I", .fieldLink RX7 64 "TagTowerModel" "line" "I"] ++ wsX70)
def wsX7_set : List Cond := .code yX7_set cX7_set 4 (some .int) :: ([.fieldLink RX7 47 "TagTowerModel" "thrown" "I", .constantLong RX7 57 (3), .constantLong RX7 67 (1000), .fieldLink RX7 7 "TagTowerModel" "counter" "[I", .methodLink RX7 53 yX7_in, .static yX7_in, .initialized RX7, .code yX7_in cX7_in 6 (some .boolean)] ++ wsX70)
def wsX7_counter : List Cond := .code yX7_counter cX7_counter 2 (some .int) :: ([.fieldLink RX7 47 "TagTowerModel" "thrown" "I", .constantLong RX7 57 (3), .fieldLink RX7 7 "TagTowerModel" "counter" "[I", .methodLink RX7 53 yX7_in, .static yX7_in, .initialized RX7, .code yX7_in cX7_in 6 (some .boolean)] ++ wsX70)
def wsX7_mayDo : List Cond := .code yX7_mayDo cX7_mayDo 1 (some .boolean) :: ([.fieldLink RX7 64 "TagTowerModel" "line" "I", .fieldLink RX7 61 "TagTowerModel" "lines" "I", .fieldLink RX7 13 "TagTowerModel" "op" "[I", .fieldLink RX7 7 "TagTowerModel" "counter" "[I", .fieldLink RX7 16 "TagTowerModel" "which" "[I"] ++ wsX70)
def wsX7_count : List Cond := .code yX7_count cX7_count 4 (some .int) :: ([.fieldLink RX7 47 "TagTowerModel" "thrown" "I", .constantLong RX7 69 (5000), .fieldLink RX7 16 "TagTowerModel" "which" "[I", .fieldLink RX7 64 "TagTowerModel" "line" "I", .fieldLink RX7 13 "TagTowerModel" "op" "[I", .fieldLink RX7 7 "TagTowerModel" "counter" "[I", .fieldLink RX7 19 "TagTowerModel" "then" "[I", .fieldLink RX7 22 "TagTowerModel" "other" "[I", .methodLink RX7 53 yX7_in, .static yX7_in, .initialized RX7, .code yX7_in cX7_in 6 (some .boolean), .methodLink RX7 71 yX7_mayDo, .instanceMethod yX7_mayDo, .selects RX7 yX7_mayDo yX7_mayDo, .code yX7_mayDo cX7_mayDo 1 (some .boolean), .fieldLink RX7 61 "TagTowerModel" "lines" "I"] ++ wsX70)
def wsX7_at : List Cond := .code yX7_at cX7_at 1 (some .int) :: ([.fieldLink RX7 47 "TagTowerModel" "thrown" "I", .fieldLink RX7 64 "TagTowerModel" "line" "I"] ++ wsX70)
def wsX7_go : List Cond := .code yX7_go cX7_go 3 (some .int) :: ([.fieldLink RX7 47 "TagTowerModel" "thrown" "I", .constantLong RX7 59 (24), .fieldLink RX7 64 "TagTowerModel" "line" "I", .methodLink RX7 53 yX7_in, .static yX7_in, .initialized RX7, .code yX7_in cX7_in 6 (some .boolean)] ++ wsX70)
def wsX7_isPair : List Cond := .code yX7_isPair cX7_isPair 2 (some .boolean) :: ([.constantLong RX7 51 (2), .methodLink RX7 53 yX7_in, .static yX7_in, .initialized RX7, .code yX7_in cX7_in 6 (some .boolean)])
def wsX7_rule : List Cond := .code yX7_rule cX7_rule 9 (some .int) :: ([.fieldLink RX7 47 "TagTowerModel" "thrown" "I", .constantLong RX7 51 (2), .fieldLink RX7 25 "TagTowerModel" "writes" "[I", .fieldLink RX7 28 "TagTowerModel" "way" "[I", .fieldLink RX7 31 "TagTowerModel" "goes" "[I", .methodLink RX7 75 yX7_isPair, .static yX7_isPair, .initialized RX7, .code yX7_isPair cX7_isPair 2 (some .boolean), .methodLink RX7 53 yX7_in, .static yX7_in, .code yX7_in cX7_in 6 (some .boolean)] ++ wsX70)
def wsX7_unrule : List Cond := .code yX7_unrule cX7_unrule 4 (some .int) :: ([.fieldLink RX7 47 "TagTowerModel" "thrown" "I", .fieldLink RX7 25 "TagTowerModel" "writes" "[I", .methodLink RX7 75 yX7_isPair, .static yX7_isPair, .initialized RX7, .code yX7_isPair cX7_isPair 2 (some .boolean), .constantLong RX7 51 (2), .methodLink RX7 53 yX7_in, .static yX7_in, .code yX7_in cX7_in 6 (some .boolean)] ++ wsX70)
def wsX7_place : List Cond := .code yX7_place cX7_place 5 (some .int) :: ([.fieldLink RX7 47 "TagTowerModel" "thrown" "I", .constantLong RX7 79 (100000), .fieldLink RX7 81 "TagTowerModel" "state" "I", .fieldLink RX7 84 "TagTowerModel" "sign" "I", .fieldLink RX7 87 "TagTowerModel" "left" "I", .fieldLink RX7 90 "TagTowerModel" "right" "I", .methodLink RX7 75 yX7_isPair, .static yX7_isPair, .initialized RX7, .code yX7_isPair cX7_isPair 2 (some .boolean), .constantLong RX7 51 (2), .methodLink RX7 53 yX7_in, .static yX7_in, .code yX7_in cX7_in 6 (some .boolean)] ++ wsX70)
def wsX7_mayMove : List Cond := .code yX7_mayMove cX7_mayMove 2 (some .boolean) :: ([.fieldLink RX7 81 "TagTowerModel" "state" "I", .fieldLink RX7 84 "TagTowerModel" "sign" "I", .fieldLink RX7 25 "TagTowerModel" "writes" "[I", .fieldLink RX7 28 "TagTowerModel" "way" "[I", .fieldLink RX7 87 "TagTowerModel" "left" "I", .fieldLink RX7 90 "TagTowerModel" "right" "I", .constant RX7 93 (100000)] ++ wsX70)
def wsX7_move : List Cond := .code yX7_move cX7_move 4 (some .int) :: ([.fieldLink RX7 47 "TagTowerModel" "thrown" "I", .constantLong RX7 69 (5000), .fieldLink RX7 81 "TagTowerModel" "state" "I", .fieldLink RX7 84 "TagTowerModel" "sign" "I", .fieldLink RX7 28 "TagTowerModel" "way" "[I", .fieldLink RX7 87 "TagTowerModel" "left" "I", .fieldLink RX7 25 "TagTowerModel" "writes" "[I", .fieldLink RX7 90 "TagTowerModel" "right" "I", .fieldLink RX7 31 "TagTowerModel" "goes" "[I", .methodLink RX7 53 yX7_in, .static yX7_in, .initialized RX7, .code yX7_in cX7_in 6 (some .boolean), .methodLink RX7 94 yX7_mayMove, .instanceMethod yX7_mayMove, .selects RX7 yX7_mayMove yX7_mayMove, .code yX7_mayMove cX7_mayMove 2 (some .boolean), .constant RX7 93 (100000)] ++ wsX70)
def wsX7_where : List Cond := .code yX7_where cX7_where 2 (some .int) :: ([.fieldLink RX7 47 "TagTowerModel" "thrown" "I", .fieldLink RX7 81 "TagTowerModel" "state" "I", .fieldLink RX7 84 "TagTowerModel" "sign" "I", .fieldLink RX7 87 "TagTowerModel" "left" "I", .fieldLink RX7 90 "TagTowerModel" "right" "I", .fieldLink RX7 25 "TagTowerModel" "writes" "[I"] ++ wsX70)
def wsX7_makes : List Cond := .code yX7_makes cX7_makes 2 none :: ([.fieldLink RX7 44 "TagTowerModel" "makes" "[I", .fieldLink RX7 97 "TagTowerModel" "made" "I"] ++ wsX70)
def wsX7_of : List Cond := .code yX7_of cX7_of 2 (some .int) :: ([])
def wsX7_one : List Cond := .code yX7_one cX7_one 2 none :: ([.methodLink RX7 100 yX7_makes, .instanceMethod yX7_makes, .selects RX7 yX7_makes yX7_makes, .initialized RX7, .code yX7_makes cX7_makes 2 none, .fieldLink RX7 44 "TagTowerModel" "makes" "[I", .fieldLink RX7 97 "TagTowerModel" "made" "I"] ++ wsX70)
def wsX7_doubled : List Cond := .code yX7_doubled cX7_doubled 3 none :: ([.fieldLink RX7 25 "TagTowerModel" "writes" "[I", .methodLink RX7 103 yX7_of, .static yX7_of, .initialized RX7, .code yX7_of cX7_of 2 (some .int), .methodLink RX7 107 yX7_one, .instanceMethod yX7_one, .selects RX7 yX7_one yX7_one, .code yX7_one cX7_one 2 none, .methodLink RX7 100 yX7_makes, .instanceMethod yX7_makes, .selects RX7 yX7_makes yX7_makes, .code yX7_makes cX7_makes 2 none, .fieldLink RX7 44 "TagTowerModel" "makes" "[I", .fieldLink RX7 97 "TagTowerModel" "made" "I"] ++ wsX70)
def wsX7_produceRuled : List Cond := .code yX7_produceRuled cX7_produceRuled 6 none :: ([.fieldLink RX7 28 "TagTowerModel" "way" "[I", .methodLink RX7 110 yX7_doubled, .instanceMethod yX7_doubled, .selects RX7 yX7_doubled yX7_doubled, .initialized RX7, .code yX7_doubled cX7_doubled 3 none, .fieldLink RX7 25 "TagTowerModel" "writes" "[I", .methodLink RX7 103 yX7_of, .static yX7_of, .code yX7_of cX7_of 2 (some .int), .methodLink RX7 107 yX7_one, .instanceMethod yX7_one, .selects RX7 yX7_one yX7_one, .code yX7_one cX7_one 2 none, .methodLink RX7 100 yX7_makes, .instanceMethod yX7_makes, .selects RX7 yX7_makes yX7_makes, .code yX7_makes cX7_makes 2 none, .fieldLink RX7 44 "TagTowerModel" "makes" "[I", .fieldLink RX7 97 "TagTowerModel" "made" "I"] ++ wsX70)
def wsX7_produce_r1 : List Cond := [Cond.fieldLink RX7 97 "TagTowerModel" "made" "I", Cond.fieldLink RX7 25 "TagTowerModel" "writes" "[I", Cond.fieldLink RX7 31 "TagTowerModel" "goes" "[I", Cond.methodLink RX7 103 yX7_of, Cond.static yX7_of, Cond.initialized RX7, Cond.code yX7_of cX7_of 2 (some .int), Cond.methodLink RX7 107 yX7_one, Cond.instanceMethod yX7_one, Cond.selects RX7 yX7_one yX7_one, Cond.code yX7_one cX7_one 2 none, Cond.methodLink RX7 100 yX7_makes, Cond.instanceMethod yX7_makes, Cond.selects RX7 yX7_makes yX7_makes, Cond.code yX7_makes cX7_makes 2 none, Cond.fieldLink RX7 44 "TagTowerModel" "makes" "[I", Cond.methodLink RX7 114 yX7_produceRuled, Cond.instanceMethod yX7_produceRuled, Cond.selects RX7 yX7_produceRuled yX7_produceRuled, Cond.code yX7_produceRuled cX7_produceRuled 6 none, Cond.fieldLink RX7 28 "TagTowerModel" "way" "[I", Cond.methodLink RX7 110 yX7_doubled, Cond.instanceMethod yX7_doubled, Cond.selects RX7 yX7_doubled yX7_doubled]
def wsX7_produce_r2 : List Cond := [Cond.code yX7_doubled cX7_doubled 3 none]
def wsX7_produce : List Cond := .code yX7_produce cX7_produce 4 none :: ((wsX7_produce_r1 ++ wsX7_produce_r2) ++ wsX70)
def wsX7_production_r1 : List Cond := [Cond.fieldLink RX7 47 "TagTowerModel" "thrown" "I", Cond.constantLong RX7 118 (120), Cond.fieldLink RX7 97 "TagTowerModel" "made" "I", Cond.fieldLink RX7 44 "TagTowerModel" "makes" "[I", Cond.methodLink RX7 53 yX7_in, Cond.static yX7_in, Cond.initialized RX7, Cond.code yX7_in cX7_in 6 (some .boolean), Cond.methodLink RX7 120 yX7_produce, Cond.instanceMethod yX7_produce, Cond.selects RX7 yX7_produce yX7_produce, Cond.code yX7_produce cX7_produce 4 none, Cond.fieldLink RX7 25 "TagTowerModel" "writes" "[I", Cond.fieldLink RX7 31 "TagTowerModel" "goes" "[I", Cond.methodLink RX7 103 yX7_of, Cond.static yX7_of, Cond.code yX7_of cX7_of 2 (some .int), Cond.methodLink RX7 107 yX7_one, Cond.instanceMethod yX7_one, Cond.selects RX7 yX7_one yX7_one, Cond.code yX7_one cX7_one 2 none, Cond.methodLink RX7 100 yX7_makes, Cond.instanceMethod yX7_makes, Cond.selects RX7 yX7_makes yX7_makes]
def wsX7_production_r2 : List Cond := [Cond.code yX7_makes cX7_makes 2 none, Cond.methodLink RX7 114 yX7_produceRuled, Cond.instanceMethod yX7_produceRuled, Cond.selects RX7 yX7_produceRuled yX7_produceRuled, Cond.code yX7_produceRuled cX7_produceRuled 6 none, Cond.fieldLink RX7 28 "TagTowerModel" "way" "[I", Cond.methodLink RX7 110 yX7_doubled, Cond.instanceMethod yX7_doubled, Cond.selects RX7 yX7_doubled yX7_doubled, Cond.code yX7_doubled cX7_doubled 3 none]
def wsX7_production : List Cond := .code yX7_production cX7_production 3 (some .int) :: ((wsX7_production_r1 ++ wsX7_production_r2) ++ wsX70)
def wsX7_letterAt : List Cond := .code yX7_letterAt cX7_letterAt 2 (some .int) :: ([.fieldLink RX7 34 "TagTowerModel" "word" "[I", .fieldLink RX7 123 "TagTowerModel" "begin" "I"] ++ wsX70)
def wsX7_puts : List Cond := .code yX7_puts cX7_puts 2 none :: ([.fieldLink RX7 34 "TagTowerModel" "word" "[I", .fieldLink RX7 123 "TagTowerModel" "begin" "I", .fieldLink RX7 126 "TagTowerModel" "length" "I"] ++ wsX70)
def wsX7_lay : List Cond := .code yX7_lay cX7_lay 3 (some .int) :: ([.fieldLink RX7 47 "TagTowerModel" "thrown" "I", .fieldLink RX7 87 "TagTowerModel" "left" "I", .fieldLink RX7 90 "TagTowerModel" "right" "I", .fieldLink RX7 81 "TagTowerModel" "state" "I", .fieldLink RX7 84 "TagTowerModel" "sign" "I", .fieldLink RX7 123 "TagTowerModel" "begin" "I", .fieldLink RX7 126 "TagTowerModel" "length" "I", .methodLink RX7 103 yX7_of, .static yX7_of, .initialized RX7, .code yX7_of cX7_of 2 (some .int), .methodLink RX7 129 yX7_puts, .instanceMethod yX7_puts, .selects RX7 yX7_puts yX7_puts, .code yX7_puts cX7_puts 2 none, .fieldLink RX7 34 "TagTowerModel" "word" "[I"] ++ wsX70)
def wsX7_add : List Cond := .code yX7_add cX7_add 2 (some .int) :: ([.fieldLink RX7 47 "TagTowerModel" "thrown" "I", .constantLong RX7 118 (120), .fieldLink RX7 126 "TagTowerModel" "length" "I", .methodLink RX7 53 yX7_in, .static yX7_in, .initialized RX7, .code yX7_in cX7_in 6 (some .boolean), .methodLink RX7 129 yX7_puts, .instanceMethod yX7_puts, .selects RX7 yX7_puts yX7_puts, .code yX7_puts cX7_puts 2 none, .fieldLink RX7 34 "TagTowerModel" "word" "[I", .fieldLink RX7 123 "TagTowerModel" "begin" "I"] ++ wsX70)
def wsX7_clear : List Cond := .code yX7_clear cX7_clear 2 (some .int) :: ([.fieldLink RX7 47 "TagTowerModel" "thrown" "I", .fieldLink RX7 126 "TagTowerModel" "length" "I"] ++ wsX70)
def wsX7_letter : List Cond := .code yX7_letter cX7_letter 2 (some .int) :: ([.fieldLink RX7 47 "TagTowerModel" "thrown" "I", .fieldLink RX7 126 "TagTowerModel" "length" "I", .methodLink RX7 53 yX7_in, .static yX7_in, .initialized RX7, .code yX7_in cX7_in 6 (some .boolean), .methodLink RX7 132 yX7_letterAt, .instanceMethod yX7_letterAt, .selects RX7 yX7_letterAt yX7_letterAt, .code yX7_letterAt cX7_letterAt 2 (some .int), .fieldLink RX7 34 "TagTowerModel" "word" "[I", .fieldLink RX7 123 "TagTowerModel" "begin" "I"] ++ wsX70)
def wsX7_length : List Cond := .code yX7_length cX7_length 1 (some .int) :: ([.fieldLink RX7 47 "TagTowerModel" "thrown" "I", .fieldLink RX7 126 "TagTowerModel" "length" "I"] ++ wsX70)
def wsX7_tags_r1 : List Cond := [Cond.fieldLink RX7 126 "TagTowerModel" "length" "I", Cond.fieldLink RX7 97 "TagTowerModel" "made" "I", Cond.fieldLink RX7 123 "TagTowerModel" "begin" "I", Cond.fieldLink RX7 44 "TagTowerModel" "makes" "[I", Cond.methodLink RX7 132 yX7_letterAt, Cond.instanceMethod yX7_letterAt, Cond.selects RX7 yX7_letterAt yX7_letterAt, Cond.initialized RX7, Cond.code yX7_letterAt cX7_letterAt 2 (some .int), Cond.fieldLink RX7 34 "TagTowerModel" "word" "[I", Cond.methodLink RX7 120 yX7_produce, Cond.instanceMethod yX7_produce, Cond.selects RX7 yX7_produce yX7_produce, Cond.code yX7_produce cX7_produce 4 none, Cond.fieldLink RX7 25 "TagTowerModel" "writes" "[I", Cond.fieldLink RX7 31 "TagTowerModel" "goes" "[I", Cond.methodLink RX7 103 yX7_of, Cond.static yX7_of, Cond.code yX7_of cX7_of 2 (some .int), Cond.methodLink RX7 107 yX7_one, Cond.instanceMethod yX7_one, Cond.selects RX7 yX7_one yX7_one, Cond.code yX7_one cX7_one 2 none, Cond.methodLink RX7 100 yX7_makes]
def wsX7_tags_r2 : List Cond := [Cond.instanceMethod yX7_makes, Cond.selects RX7 yX7_makes yX7_makes, Cond.code yX7_makes cX7_makes 2 none, Cond.methodLink RX7 114 yX7_produceRuled, Cond.instanceMethod yX7_produceRuled, Cond.selects RX7 yX7_produceRuled yX7_produceRuled, Cond.code yX7_produceRuled cX7_produceRuled 6 none, Cond.fieldLink RX7 28 "TagTowerModel" "way" "[I", Cond.methodLink RX7 110 yX7_doubled, Cond.instanceMethod yX7_doubled, Cond.selects RX7 yX7_doubled yX7_doubled, Cond.code yX7_doubled cX7_doubled 3 none, Cond.methodLink RX7 129 yX7_puts, Cond.instanceMethod yX7_puts, Cond.selects RX7 yX7_puts yX7_puts, Cond.code yX7_puts cX7_puts 2 none]
def wsX7_tags : List Cond := .code yX7_tags cX7_tags 2 (some .boolean) :: ((wsX7_tags_r1 ++ wsX7_tags_r2) ++ wsX70)
def wsX7_tag_r1 : List Cond := [Cond.fieldLink RX7 47 "TagTowerModel" "thrown" "I", Cond.constantLong RX7 136 (20000), Cond.methodLink RX7 53 yX7_in, Cond.static yX7_in, Cond.initialized RX7, Cond.code yX7_in cX7_in 6 (some .boolean), Cond.methodLink RX7 138 yX7_tags, Cond.instanceMethod yX7_tags, Cond.selects RX7 yX7_tags yX7_tags, Cond.code yX7_tags cX7_tags 2 (some .boolean), Cond.fieldLink RX7 126 "TagTowerModel" "length" "I", Cond.fieldLink RX7 97 "TagTowerModel" "made" "I", Cond.fieldLink RX7 123 "TagTowerModel" "begin" "I", Cond.fieldLink RX7 44 "TagTowerModel" "makes" "[I", Cond.methodLink RX7 132 yX7_letterAt, Cond.instanceMethod yX7_letterAt, Cond.selects RX7 yX7_letterAt yX7_letterAt, Cond.code yX7_letterAt cX7_letterAt 2 (some .int), Cond.fieldLink RX7 34 "TagTowerModel" "word" "[I", Cond.methodLink RX7 120 yX7_produce, Cond.instanceMethod yX7_produce, Cond.selects RX7 yX7_produce yX7_produce, Cond.code yX7_produce cX7_produce 4 none, Cond.fieldLink RX7 25 "TagTowerModel" "writes" "[I"]
def wsX7_tag_r2 : List Cond := [Cond.fieldLink RX7 31 "TagTowerModel" "goes" "[I", Cond.methodLink RX7 103 yX7_of, Cond.static yX7_of, Cond.code yX7_of cX7_of 2 (some .int), Cond.methodLink RX7 107 yX7_one, Cond.instanceMethod yX7_one, Cond.selects RX7 yX7_one yX7_one, Cond.code yX7_one cX7_one 2 none, Cond.methodLink RX7 100 yX7_makes, Cond.instanceMethod yX7_makes, Cond.selects RX7 yX7_makes yX7_makes, Cond.code yX7_makes cX7_makes 2 none, Cond.methodLink RX7 114 yX7_produceRuled, Cond.instanceMethod yX7_produceRuled, Cond.selects RX7 yX7_produceRuled yX7_produceRuled, Cond.code yX7_produceRuled cX7_produceRuled 6 none, Cond.fieldLink RX7 28 "TagTowerModel" "way" "[I", Cond.methodLink RX7 110 yX7_doubled, Cond.instanceMethod yX7_doubled, Cond.selects RX7 yX7_doubled yX7_doubled, Cond.code yX7_doubled cX7_doubled 3 none, Cond.methodLink RX7 129 yX7_puts, Cond.instanceMethod yX7_puts, Cond.selects RX7 yX7_puts yX7_puts]
def wsX7_tag_r3 : List Cond := [Cond.code yX7_puts cX7_puts 2 none]
def wsX7_tag : List Cond := .code yX7_tag cX7_tag 3 (some .int) :: ((wsX7_tag_r1 ++ (wsX7_tag_r2 ++ wsX7_tag_r3)) ++ wsX70)
def wsX7_tells : List Cond := .code yX7_tells cX7_tells 4 (some .boolean) :: ([.fieldLink RX7 126 "TagTowerModel" "length" "I", .fieldLink RX7 141 "TagTowerModel" "toldPair" "I", .fieldLink RX7 144 "TagTowerModel" "toldLeft" "I", .fieldLink RX7 147 "TagTowerModel" "toldRight" "I", .methodLink RX7 132 yX7_letterAt, .instanceMethod yX7_letterAt, .selects RX7 yX7_letterAt yX7_letterAt, .initialized RX7, .code yX7_letterAt cX7_letterAt 2 (some .int), .fieldLink RX7 34 "TagTowerModel" "word" "[I", .fieldLink RX7 123 "TagTowerModel" "begin" "I", .methodLink RX7 103 yX7_of, .static yX7_of, .code yX7_of cX7_of 2 (some .int)] ++ wsX70)
def wsX7_next_r1 : List Cond := [Cond.fieldLink RX7 47 "TagTowerModel" "thrown" "I", Cond.fieldLink RX7 126 "TagTowerModel" "length" "I", Cond.fieldLink RX7 150 "TagTowerModel" "savedLength" "I", Cond.fieldLink RX7 37 "TagTowerModel" "saved" "[I", Cond.fieldLink RX7 123 "TagTowerModel" "begin" "I", Cond.methodLink RX7 132 yX7_letterAt, Cond.instanceMethod yX7_letterAt, Cond.selects RX7 yX7_letterAt yX7_letterAt, Cond.initialized RX7, Cond.code yX7_letterAt cX7_letterAt 2 (some .int), Cond.fieldLink RX7 34 "TagTowerModel" "word" "[I", Cond.methodLink RX7 138 yX7_tags, Cond.instanceMethod yX7_tags, Cond.selects RX7 yX7_tags yX7_tags, Cond.code yX7_tags cX7_tags 2 (some .boolean), Cond.fieldLink RX7 97 "TagTowerModel" "made" "I", Cond.fieldLink RX7 44 "TagTowerModel" "makes" "[I", Cond.methodLink RX7 120 yX7_produce, Cond.instanceMethod yX7_produce, Cond.selects RX7 yX7_produce yX7_produce, Cond.code yX7_produce cX7_produce 4 none, Cond.fieldLink RX7 25 "TagTowerModel" "writes" "[I", Cond.fieldLink RX7 31 "TagTowerModel" "goes" "[I", Cond.methodLink RX7 103 yX7_of]
def wsX7_next_r2 : List Cond := [Cond.static yX7_of, Cond.code yX7_of cX7_of 2 (some .int), Cond.methodLink RX7 107 yX7_one, Cond.instanceMethod yX7_one, Cond.selects RX7 yX7_one yX7_one, Cond.code yX7_one cX7_one 2 none, Cond.methodLink RX7 100 yX7_makes, Cond.instanceMethod yX7_makes, Cond.selects RX7 yX7_makes yX7_makes, Cond.code yX7_makes cX7_makes 2 none, Cond.methodLink RX7 114 yX7_produceRuled, Cond.instanceMethod yX7_produceRuled, Cond.selects RX7 yX7_produceRuled yX7_produceRuled, Cond.code yX7_produceRuled cX7_produceRuled 6 none, Cond.fieldLink RX7 28 "TagTowerModel" "way" "[I", Cond.methodLink RX7 110 yX7_doubled, Cond.instanceMethod yX7_doubled, Cond.selects RX7 yX7_doubled yX7_doubled, Cond.code yX7_doubled cX7_doubled 3 none, Cond.methodLink RX7 129 yX7_puts, Cond.instanceMethod yX7_puts, Cond.selects RX7 yX7_puts yX7_puts, Cond.code yX7_puts cX7_puts 2 none, Cond.methodLink RX7 153 yX7_tells]
def wsX7_next_r3 : List Cond := [Cond.instanceMethod yX7_tells, Cond.selects RX7 yX7_tells yX7_tells, Cond.code yX7_tells cX7_tells 4 (some .boolean), Cond.fieldLink RX7 141 "TagTowerModel" "toldPair" "I", Cond.fieldLink RX7 144 "TagTowerModel" "toldLeft" "I", Cond.fieldLink RX7 147 "TagTowerModel" "toldRight" "I"]
def wsX7_next : List Cond := .code yX7_next cX7_next 3 (some .int) :: ((wsX7_next_r1 ++ (wsX7_next_r2 ++ wsX7_next_r3)) ++ wsX70)
def wsX7_told : List Cond := .code yX7_told cX7_told 2 (some .int) :: ([.fieldLink RX7 47 "TagTowerModel" "thrown" "I", .constantLong RX7 57 (3), .fieldLink RX7 141 "TagTowerModel" "toldPair" "I", .fieldLink RX7 144 "TagTowerModel" "toldLeft" "I", .fieldLink RX7 147 "TagTowerModel" "toldRight" "I", .methodLink RX7 53 yX7_in, .static yX7_in, .initialized RX7, .code yX7_in cX7_in 6 (some .boolean), .methodLink RX7 153 yX7_tells, .instanceMethod yX7_tells, .selects RX7 yX7_tells yX7_tells, .code yX7_tells cX7_tells 4 (some .boolean), .fieldLink RX7 126 "TagTowerModel" "length" "I", .methodLink RX7 132 yX7_letterAt, .instanceMethod yX7_letterAt, .selects RX7 yX7_letterAt yX7_letterAt, .code yX7_letterAt cX7_letterAt 2 (some .int), .fieldLink RX7 34 "TagTowerModel" "word" "[I", .fieldLink RX7 123 "TagTowerModel" "begin" "I", .methodLink RX7 103 yX7_of, .static yX7_of, .code yX7_of cX7_of 2 (some .int)] ++ wsX70)
def wsX7_bitAt : List Cond := .code yX7_bitAt cX7_bitAt 2 (some .int) :: ([.fieldLink RX7 41 "TagTowerModel" "bits" "[I", .fieldLink RX7 156 "TagTowerModel" "first" "I", .constant RX7 40 (80001)] ++ wsX70)
def wsX7_putBit : List Cond := .code yX7_putBit cX7_putBit 2 none :: ([.fieldLink RX7 41 "TagTowerModel" "bits" "[I", .fieldLink RX7 156 "TagTowerModel" "first" "I", .fieldLink RX7 159 "TagTowerModel" "many" "I", .constant RX7 40 (80001)] ++ wsX70)
def wsX7_appendant_r1 : List Cond := [Cond.fieldLink RX7 47 "TagTowerModel" "thrown" "I", Cond.constantLong RX7 162 (241), Cond.fieldLink RX7 97 "TagTowerModel" "made" "I", Cond.fieldLink RX7 44 "TagTowerModel" "makes" "[I", Cond.methodLink RX7 53 yX7_in, Cond.static yX7_in, Cond.initialized RX7, Cond.code yX7_in cX7_in 6 (some .boolean), Cond.methodLink RX7 120 yX7_produce, Cond.instanceMethod yX7_produce, Cond.selects RX7 yX7_produce yX7_produce, Cond.code yX7_produce cX7_produce 4 none, Cond.fieldLink RX7 25 "TagTowerModel" "writes" "[I", Cond.fieldLink RX7 31 "TagTowerModel" "goes" "[I", Cond.methodLink RX7 103 yX7_of, Cond.static yX7_of, Cond.code yX7_of cX7_of 2 (some .int), Cond.methodLink RX7 107 yX7_one, Cond.instanceMethod yX7_one, Cond.selects RX7 yX7_one yX7_one, Cond.code yX7_one cX7_one 2 none, Cond.methodLink RX7 100 yX7_makes, Cond.instanceMethod yX7_makes, Cond.selects RX7 yX7_makes yX7_makes]
def wsX7_appendant_r2 : List Cond := [Cond.code yX7_makes cX7_makes 2 none, Cond.methodLink RX7 114 yX7_produceRuled, Cond.instanceMethod yX7_produceRuled, Cond.selects RX7 yX7_produceRuled yX7_produceRuled, Cond.code yX7_produceRuled cX7_produceRuled 6 none, Cond.fieldLink RX7 28 "TagTowerModel" "way" "[I", Cond.methodLink RX7 110 yX7_doubled, Cond.instanceMethod yX7_doubled, Cond.selects RX7 yX7_doubled yX7_doubled, Cond.code yX7_doubled cX7_doubled 3 none]
def wsX7_appendant : List Cond := .code yX7_appendant cX7_appendant 3 (some .int) :: ((wsX7_appendant_r1 ++ wsX7_appendant_r2) ++ wsX70)
def wsX7_spread : List Cond := .code yX7_spread cX7_spread 3 (some .int) :: ([.fieldLink RX7 47 "TagTowerModel" "thrown" "I", .fieldLink RX7 126 "TagTowerModel" "length" "I", .constant RX7 164 (80000), .fieldLink RX7 156 "TagTowerModel" "first" "I", .fieldLink RX7 159 "TagTowerModel" "many" "I", .fieldLink RX7 165 "TagTowerModel" "turn" "I", .methodLink RX7 132 yX7_letterAt, .instanceMethod yX7_letterAt, .selects RX7 yX7_letterAt yX7_letterAt, .initialized RX7, .code yX7_letterAt cX7_letterAt 2 (some .int), .fieldLink RX7 34 "TagTowerModel" "word" "[I", .fieldLink RX7 123 "TagTowerModel" "begin" "I", .methodLink RX7 168 yX7_putBit, .instanceMethod yX7_putBit, .selects RX7 yX7_putBit yX7_putBit, .code yX7_putBit cX7_putBit 2 none, .fieldLink RX7 41 "TagTowerModel" "bits" "[I", .constant RX7 40 (80001)] ++ wsX70)
def wsX7_letterOf : List Cond := .code yX7_letterOf cX7_letterOf 5 (some .int) :: ([.methodLink RX7 171 yX7_bitAt, .instanceMethod yX7_bitAt, .selects RX7 yX7_bitAt yX7_bitAt, .initialized RX7, .code yX7_bitAt cX7_bitAt 2 (some .int), .fieldLink RX7 41 "TagTowerModel" "bits" "[I", .fieldLink RX7 156 "TagTowerModel" "first" "I", .constant RX7 40 (80001)] ++ wsX70)
def wsX7_isStill_r1 : List Cond := [Cond.fieldLink RX7 165 "TagTowerModel" "turn" "I", Cond.fieldLink RX7 159 "TagTowerModel" "many" "I", Cond.fieldLink RX7 97 "TagTowerModel" "made" "I", Cond.methodLink RX7 174 yX7_letterOf, Cond.instanceMethod yX7_letterOf, Cond.selects RX7 yX7_letterOf yX7_letterOf, Cond.initialized RX7, Cond.code yX7_letterOf cX7_letterOf 5 (some .int), Cond.methodLink RX7 171 yX7_bitAt, Cond.instanceMethod yX7_bitAt, Cond.selects RX7 yX7_bitAt yX7_bitAt, Cond.code yX7_bitAt cX7_bitAt 2 (some .int), Cond.fieldLink RX7 41 "TagTowerModel" "bits" "[I", Cond.fieldLink RX7 156 "TagTowerModel" "first" "I", Cond.constant RX7 40 (80001), Cond.methodLink RX7 120 yX7_produce, Cond.instanceMethod yX7_produce, Cond.selects RX7 yX7_produce yX7_produce, Cond.code yX7_produce cX7_produce 4 none, Cond.fieldLink RX7 25 "TagTowerModel" "writes" "[I", Cond.fieldLink RX7 31 "TagTowerModel" "goes" "[I", Cond.methodLink RX7 103 yX7_of, Cond.static yX7_of, Cond.code yX7_of cX7_of 2 (some .int)]
def wsX7_isStill_r2 : List Cond := [Cond.methodLink RX7 107 yX7_one, Cond.instanceMethod yX7_one, Cond.selects RX7 yX7_one yX7_one, Cond.code yX7_one cX7_one 2 none, Cond.methodLink RX7 100 yX7_makes, Cond.instanceMethod yX7_makes, Cond.selects RX7 yX7_makes yX7_makes, Cond.code yX7_makes cX7_makes 2 none, Cond.fieldLink RX7 44 "TagTowerModel" "makes" "[I", Cond.methodLink RX7 114 yX7_produceRuled, Cond.instanceMethod yX7_produceRuled, Cond.selects RX7 yX7_produceRuled yX7_produceRuled, Cond.code yX7_produceRuled cX7_produceRuled 6 none, Cond.fieldLink RX7 28 "TagTowerModel" "way" "[I", Cond.methodLink RX7 110 yX7_doubled, Cond.instanceMethod yX7_doubled, Cond.selects RX7 yX7_doubled yX7_doubled, Cond.code yX7_doubled cX7_doubled 3 none]
def wsX7_isStill : List Cond := .code yX7_isStill cX7_isStill 2 (some .boolean) :: ((wsX7_isStill_r1 ++ wsX7_isStill_r2) ++ wsX70)
def wsX7_cycles_r1 : List Cond := [Cond.fieldLink RX7 97 "TagTowerModel" "made" "I", Cond.fieldLink RX7 165 "TagTowerModel" "turn" "I", Cond.fieldLink RX7 159 "TagTowerModel" "many" "I", Cond.constant RX7 164 (80000), Cond.fieldLink RX7 156 "TagTowerModel" "first" "I", Cond.constant RX7 40 (80001), Cond.fieldLink RX7 44 "TagTowerModel" "makes" "[I", Cond.methodLink RX7 177 yX7_isStill, Cond.instanceMethod yX7_isStill, Cond.selects RX7 yX7_isStill yX7_isStill, Cond.initialized RX7, Cond.code yX7_isStill cX7_isStill 2 (some .boolean), Cond.methodLink RX7 174 yX7_letterOf, Cond.instanceMethod yX7_letterOf, Cond.selects RX7 yX7_letterOf yX7_letterOf, Cond.code yX7_letterOf cX7_letterOf 5 (some .int), Cond.methodLink RX7 171 yX7_bitAt, Cond.instanceMethod yX7_bitAt, Cond.selects RX7 yX7_bitAt yX7_bitAt, Cond.code yX7_bitAt cX7_bitAt 2 (some .int), Cond.fieldLink RX7 41 "TagTowerModel" "bits" "[I", Cond.methodLink RX7 120 yX7_produce, Cond.instanceMethod yX7_produce, Cond.selects RX7 yX7_produce yX7_produce]
def wsX7_cycles_r2 : List Cond := [Cond.code yX7_produce cX7_produce 4 none, Cond.fieldLink RX7 25 "TagTowerModel" "writes" "[I", Cond.fieldLink RX7 31 "TagTowerModel" "goes" "[I", Cond.methodLink RX7 103 yX7_of, Cond.static yX7_of, Cond.code yX7_of cX7_of 2 (some .int), Cond.methodLink RX7 107 yX7_one, Cond.instanceMethod yX7_one, Cond.selects RX7 yX7_one yX7_one, Cond.code yX7_one cX7_one 2 none, Cond.methodLink RX7 100 yX7_makes, Cond.instanceMethod yX7_makes, Cond.selects RX7 yX7_makes yX7_makes, Cond.code yX7_makes cX7_makes 2 none, Cond.methodLink RX7 114 yX7_produceRuled, Cond.instanceMethod yX7_produceRuled, Cond.selects RX7 yX7_produceRuled yX7_produceRuled, Cond.code yX7_produceRuled cX7_produceRuled 6 none, Cond.fieldLink RX7 28 "TagTowerModel" "way" "[I", Cond.methodLink RX7 110 yX7_doubled, Cond.instanceMethod yX7_doubled, Cond.selects RX7 yX7_doubled yX7_doubled, Cond.code yX7_doubled cX7_doubled 3 none, Cond.methodLink RX7 168 yX7_putBit]
def wsX7_cycles_r3 : List Cond := [Cond.instanceMethod yX7_putBit, Cond.selects RX7 yX7_putBit yX7_putBit, Cond.code yX7_putBit cX7_putBit 2 none]
def wsX7_cycles : List Cond := .code yX7_cycles cX7_cycles 4 (some .boolean) :: ((wsX7_cycles_r1 ++ (wsX7_cycles_r2 ++ wsX7_cycles_r3)) ++ wsX70)
def wsX7_cycle_r1 : List Cond := [Cond.fieldLink RX7 47 "TagTowerModel" "thrown" "I", Cond.constantLong RX7 180 (30000), Cond.methodLink RX7 53 yX7_in, Cond.static yX7_in, Cond.initialized RX7, Cond.code yX7_in cX7_in 6 (some .boolean), Cond.methodLink RX7 182 yX7_cycles, Cond.instanceMethod yX7_cycles, Cond.selects RX7 yX7_cycles yX7_cycles, Cond.code yX7_cycles cX7_cycles 4 (some .boolean), Cond.fieldLink RX7 97 "TagTowerModel" "made" "I", Cond.fieldLink RX7 165 "TagTowerModel" "turn" "I", Cond.fieldLink RX7 159 "TagTowerModel" "many" "I", Cond.constant RX7 164 (80000), Cond.fieldLink RX7 156 "TagTowerModel" "first" "I", Cond.constant RX7 40 (80001), Cond.fieldLink RX7 44 "TagTowerModel" "makes" "[I", Cond.methodLink RX7 177 yX7_isStill, Cond.instanceMethod yX7_isStill, Cond.selects RX7 yX7_isStill yX7_isStill, Cond.code yX7_isStill cX7_isStill 2 (some .boolean), Cond.methodLink RX7 174 yX7_letterOf, Cond.instanceMethod yX7_letterOf, Cond.selects RX7 yX7_letterOf yX7_letterOf]
def wsX7_cycle_r2 : List Cond := [Cond.code yX7_letterOf cX7_letterOf 5 (some .int), Cond.methodLink RX7 171 yX7_bitAt, Cond.instanceMethod yX7_bitAt, Cond.selects RX7 yX7_bitAt yX7_bitAt, Cond.code yX7_bitAt cX7_bitAt 2 (some .int), Cond.fieldLink RX7 41 "TagTowerModel" "bits" "[I", Cond.methodLink RX7 120 yX7_produce, Cond.instanceMethod yX7_produce, Cond.selects RX7 yX7_produce yX7_produce, Cond.code yX7_produce cX7_produce 4 none, Cond.fieldLink RX7 25 "TagTowerModel" "writes" "[I", Cond.fieldLink RX7 31 "TagTowerModel" "goes" "[I", Cond.methodLink RX7 103 yX7_of, Cond.static yX7_of, Cond.code yX7_of cX7_of 2 (some .int), Cond.methodLink RX7 107 yX7_one, Cond.instanceMethod yX7_one, Cond.selects RX7 yX7_one yX7_one, Cond.code yX7_one cX7_one 2 none, Cond.methodLink RX7 100 yX7_makes, Cond.instanceMethod yX7_makes, Cond.selects RX7 yX7_makes yX7_makes, Cond.code yX7_makes cX7_makes 2 none, Cond.methodLink RX7 114 yX7_produceRuled]
def wsX7_cycle_r3 : List Cond := [Cond.instanceMethod yX7_produceRuled, Cond.selects RX7 yX7_produceRuled yX7_produceRuled, Cond.code yX7_produceRuled cX7_produceRuled 6 none, Cond.fieldLink RX7 28 "TagTowerModel" "way" "[I", Cond.methodLink RX7 110 yX7_doubled, Cond.instanceMethod yX7_doubled, Cond.selects RX7 yX7_doubled yX7_doubled, Cond.code yX7_doubled cX7_doubled 3 none, Cond.methodLink RX7 168 yX7_putBit, Cond.instanceMethod yX7_putBit, Cond.selects RX7 yX7_putBit yX7_putBit, Cond.code yX7_putBit cX7_putBit 2 none]
def wsX7_cycle : List Cond := .code yX7_cycle cX7_cycle 3 (some .int) :: ((wsX7_cycle_r1 ++ (wsX7_cycle_r2 ++ wsX7_cycle_r3)) ++ wsX70)
def wsX7_bit : List Cond := .code yX7_bit cX7_bit 2 (some .int) :: ([.fieldLink RX7 47 "TagTowerModel" "thrown" "I", .fieldLink RX7 159 "TagTowerModel" "many" "I", .methodLink RX7 53 yX7_in, .static yX7_in, .initialized RX7, .code yX7_in cX7_in 6 (some .boolean), .methodLink RX7 171 yX7_bitAt, .instanceMethod yX7_bitAt, .selects RX7 yX7_bitAt yX7_bitAt, .code yX7_bitAt cX7_bitAt 2 (some .int), .fieldLink RX7 41 "TagTowerModel" "bits" "[I", .fieldLink RX7 156 "TagTowerModel" "first" "I", .constant RX7 40 (80001)] ++ wsX70)
def wsX7_bits_r1 : List Cond := [Cond.fieldLink RX7 47 "TagTowerModel" "thrown" "I", Cond.fieldLink RX7 159 "TagTowerModel" "many" "I", Cond.fieldLink RX7 165 "TagTowerModel" "turn" "I", Cond.methodLink RX7 171 yX7_bitAt, Cond.instanceMethod yX7_bitAt, Cond.selects RX7 yX7_bitAt yX7_bitAt, Cond.initialized RX7, Cond.code yX7_bitAt cX7_bitAt 2 (some .int), Cond.fieldLink RX7 41 "TagTowerModel" "bits" "[I", Cond.fieldLink RX7 156 "TagTowerModel" "first" "I", Cond.constant RX7 40 (80001), Cond.methodLink RX7 177 yX7_isStill, Cond.instanceMethod yX7_isStill, Cond.selects RX7 yX7_isStill yX7_isStill, Cond.code yX7_isStill cX7_isStill 2 (some .boolean), Cond.fieldLink RX7 97 "TagTowerModel" "made" "I", Cond.methodLink RX7 174 yX7_letterOf, Cond.instanceMethod yX7_letterOf, Cond.selects RX7 yX7_letterOf yX7_letterOf, Cond.code yX7_letterOf cX7_letterOf 5 (some .int), Cond.methodLink RX7 120 yX7_produce, Cond.instanceMethod yX7_produce, Cond.selects RX7 yX7_produce yX7_produce, Cond.code yX7_produce cX7_produce 4 none]
def wsX7_bits_r2 : List Cond := [Cond.fieldLink RX7 25 "TagTowerModel" "writes" "[I", Cond.fieldLink RX7 31 "TagTowerModel" "goes" "[I", Cond.methodLink RX7 103 yX7_of, Cond.static yX7_of, Cond.code yX7_of cX7_of 2 (some .int), Cond.methodLink RX7 107 yX7_one, Cond.instanceMethod yX7_one, Cond.selects RX7 yX7_one yX7_one, Cond.code yX7_one cX7_one 2 none, Cond.methodLink RX7 100 yX7_makes, Cond.instanceMethod yX7_makes, Cond.selects RX7 yX7_makes yX7_makes, Cond.code yX7_makes cX7_makes 2 none, Cond.fieldLink RX7 44 "TagTowerModel" "makes" "[I", Cond.methodLink RX7 114 yX7_produceRuled, Cond.instanceMethod yX7_produceRuled, Cond.selects RX7 yX7_produceRuled yX7_produceRuled, Cond.code yX7_produceRuled cX7_produceRuled 6 none, Cond.fieldLink RX7 28 "TagTowerModel" "way" "[I", Cond.methodLink RX7 110 yX7_doubled, Cond.instanceMethod yX7_doubled, Cond.selects RX7 yX7_doubled yX7_doubled, Cond.code yX7_doubled cX7_doubled 3 none]
def wsX7_bits : List Cond := .code yX7_bits cX7_bits 4 (some .int) :: ((wsX7_bits_r1 ++ wsX7_bits_r2) ++ wsX70)
def wsX7_gather : List Cond := .code yX7_gather cX7_gather 2 (some .int) :: ([.fieldLink RX7 47 "TagTowerModel" "thrown" "I", .fieldLink RX7 165 "TagTowerModel" "turn" "I", .fieldLink RX7 159 "TagTowerModel" "many" "I", .fieldLink RX7 123 "TagTowerModel" "begin" "I", .fieldLink RX7 126 "TagTowerModel" "length" "I", .methodLink RX7 174 yX7_letterOf, .instanceMethod yX7_letterOf, .selects RX7 yX7_letterOf yX7_letterOf, .initialized RX7, .code yX7_letterOf cX7_letterOf 5 (some .int), .methodLink RX7 171 yX7_bitAt, .instanceMethod yX7_bitAt, .selects RX7 yX7_bitAt yX7_bitAt, .code yX7_bitAt cX7_bitAt 2 (some .int), .fieldLink RX7 41 "TagTowerModel" "bits" "[I", .fieldLink RX7 156 "TagTowerModel" "first" "I", .constant RX7 40 (80001), .methodLink RX7 129 yX7_puts, .instanceMethod yX7_puts, .selects RX7 yX7_puts yX7_puts, .code yX7_puts cX7_puts 2 none, .fieldLink RX7 34 "TagTowerModel" "word" "[I"] ++ wsX70)
def wsJ9_max_7cf53 : List Cond := .code yJ9_max_7cf53 cJ9_max_7cf53 2 (some .int) :: ([])
def wsJ9_min_7cf53 : List Cond := .code yJ9_min_7cf53 cJ9_min_7cf53 2 (some .int) :: ([])
def wsL_law_r1 : List Cond := [Cond.classLink RL 7 RX6, Cond.instantiable RX6 5, Cond.initialized RX6, Cond.classLink RL 10 RX7, Cond.instantiable RX7 29, Cond.initialized RX7, Cond.methodLink RL 9 yX6_init, Cond.instanceMethod yX6_init, Cond.code yX6_init cX6_init 1 none, Cond.methodLink RX6 3 objectInit, Cond.instanceMethod objectInit, Cond.code objectInit ⟨#[0xb1]⟩ 1 none, Cond.classLink RX6 9 RX1, Cond.instantiable RX1 7, Cond.initialized RX1, Cond.fieldLink RX6 12 "TagTower" "counters" "LTagTower$Counters;", Cond.classLink RX6 16 RX3, Cond.instantiable RX3 9, Cond.initialized RX3, Cond.fieldLink RX6 19 "TagTower" "machine" "LTagTower$Machine;", Cond.classLink RX6 23 RX4, Cond.instantiable RX4 2, Cond.initialized RX4, Cond.fieldLink RX6 26 "TagTower" "productions" "LTagTower$Productions;"]
def wsL_law_r2 : List Cond := [Cond.classLink RX6 30 RX5, Cond.instantiable RX5 2, Cond.initialized RX5, Cond.fieldLink RX6 33 "TagTower" "word" "LTagTower$Word;", Cond.classLink RX6 37 RX0, Cond.instantiable RX0 2, Cond.initialized RX0, Cond.fieldLink RX6 40 "TagTower" "bitRow" "LTagTower$Bits;", Cond.instanceMethod yX1_init, Cond.code yX1_init cX1_init 1 none, Cond.methodLink RX1 3 objectInit, Cond.arrayClass .int, Cond.fieldLink RX1 9 "TagTower$Counters" "values" "[I", Cond.fieldLink RX1 15 "TagTower$Counters" "ops" "[I", Cond.fieldLink RX1 18 "TagTower$Counters" "worked" "[I", Cond.fieldLink RX1 21 "TagTower$Counters" "onward" "[I", Cond.fieldLink RX1 24 "TagTower$Counters" "ifZero" "[I", Cond.instanceMethod yX3_init, Cond.code yX3_init cX3_init 1 none, Cond.methodLink RX3 3 objectInit, Cond.arrayClass .boolean, Cond.fieldLink RX3 9 "TagTower$Machine" "ruled" "[Z", Cond.fieldLink RX3 15 "TagTower$Machine" "signs" "[I", Cond.fieldLink RX3 19 "TagTower$Machine" "ways" "[I"]
def wsL_law_r3 : List Cond := [Cond.fieldLink RX3 22 "TagTower$Machine" "states" "[I", Cond.methodLink RX6 25 yX4_init, Cond.instanceMethod yX4_init, Cond.code yX4_init cX4_init 2 none, Cond.methodLink RX4 3 objectInit, Cond.fieldLink RX4 9 "TagTower$Productions" "sizes" "[I", Cond.fieldLink RX4 15 "TagTower$Productions" "letters" "[I", Cond.methodLink RX4 18 yX4_followNone, Cond.instanceMethod yX4_followNone, Cond.selects RX4 yX4_followNone yX4_followNone, Cond.code yX4_followNone cX4_followNone 3 none, Cond.methodLink RX4 24 yX4_write, Cond.instanceMethod yX4_write, Cond.selects RX4 yX4_write yX4_write, Cond.code yX4_write cX4_write 8 none, Cond.methodLink RX4 40 yJ0_length_8abf5, Cond.instanceMethod yJ0_length_8abf5, Cond.selects RJ0 yJ0_length_8abf5 yJ0_length_8abf5, Cond.initialized RJ0, Cond.code yJ0_length_8abf5 cJ0_length_8abf5 1 (some .int), Cond.fieldLink RJ0 9 "java/lang/String" "value" "[B", Cond.methodLink RJ0 335 yJ0_coder_7d493, Cond.instanceMethod yJ0_coder_7d493, Cond.selects RJ0 yJ0_coder_7d493 yJ0_coder_7d493]
def wsL_law_r4 : List Cond := [Cond.code yJ0_coder_7d493 cJ0_coder_7d493 1 (some .byte), Cond.fieldLink RJ0 38 "java/lang/String" "COMPACT_STRINGS" "Z", Cond.fieldLink RJ0 15 "java/lang/String" "coder" "B", Cond.methodLink RX4 46 yJ0_charAt_5068e, Cond.instanceMethod yJ0_charAt_5068e, Cond.selects RJ0 yJ0_charAt_5068e yJ0_charAt_5068e, Cond.code yJ0_charAt_5068e cJ0_charAt_5068e 2 (some .char), Cond.methodLink RJ0 492 yJ0_isLatin1_aae02, Cond.instanceMethod yJ0_isLatin1_aae02, Cond.selects RJ0 yJ0_isLatin1_aae02 yJ0_isLatin1_aae02, Cond.code yJ0_isLatin1_aae02 cJ0_isLatin1_aae02 1 (some .boolean), Cond.methodLink RJ0 495 yJ1_charAt_3b067, Cond.static yJ1_charAt_3b067, Cond.initialized RJ1, Cond.code yJ1_charAt_3b067 cJ1_charAt_3b067 2 (some .char), Cond.methodLink RJ1 9 yJ0_checkIndex_df160, Cond.static yJ0_checkIndex_df160, Cond.code yJ0_checkIndex_df160 cJ0_checkIndex_df160 2 none, Cond.fieldLink RJ0 1053 "jdk/internal/util/Preconditions" "SIOOBE_FORMATTER" "Ljava/util/function/BiFunction;", Cond.methodLink RJ0 1059 yJ3_checkIndex_8e157, Cond.static yJ3_checkIndex_8e157, Cond.initialized RJ3, Cond.code yJ3_checkIndex_8e157 cJ3_checkIndex_8e157 3 (some .int), Cond.methodLink RJ0 498 yJ2_charAt_3b067]
def wsL_law_r5 : List Cond := [Cond.static yJ2_charAt_3b067, Cond.initialized RJ2, Cond.code yJ2_charAt_3b067 cJ2_charAt_3b067 2 (some .char), Cond.methodLink RJ2 67 yJ2_checkIndex_2214a, Cond.static yJ2_checkIndex_2214a, Cond.code yJ2_checkIndex_2214a cJ2_checkIndex_2214a 2 none, Cond.methodLink RJ2 48 yJ2_length_9d52b, Cond.static yJ2_length_9d52b, Cond.code yJ2_length_9d52b cJ2_length_9d52b 1 (some .int), Cond.methodLink RJ2 414 yJ0_checkIndex_df160, Cond.methodLink RJ2 71 yJ2_getChar_3b067, Cond.static yJ2_getChar_3b067, Cond.code yJ2_getChar_3b067 cJ2_getChar_3b067 2 (some .char), Cond.fieldLink RJ2 44 "java/lang/StringUTF16" "$assertionsDisabled" "Z", Cond.fieldLink RJ2 59 "java/lang/StringUTF16" "HI_BYTE_SHIFT" "I", Cond.fieldLink RJ2 63 "java/lang/StringUTF16" "LO_BYTE_SHIFT" "I", Cond.methodLink RX4 52 yJ0_indexOf_0f7a4, Cond.instanceMethod yJ0_indexOf_0f7a4, Cond.selects RJ0 yJ0_indexOf_0f7a4 yJ0_indexOf_0f7a4, Cond.code yJ0_indexOf_0f7a4 cJ0_indexOf_0f7a4 2 (some .int), Cond.methodLink RJ0 633 yJ0_indexOf_7cf53, Cond.instanceMethod yJ0_indexOf_7cf53, Cond.selects RJ0 yJ0_indexOf_7cf53 yJ0_indexOf_7cf53, Cond.code yJ0_indexOf_7cf53 cJ0_indexOf_7cf53 3 (some .int)]
def wsL_law_r6 : List Cond := [Cond.methodLink RJ0 505 yJ0_length_8abf5, Cond.methodLink RJ0 637 yJ1_indexOf_4cfef, Cond.static yJ1_indexOf_4cfef, Cond.code yJ1_indexOf_4cfef cJ1_indexOf_4cfef 4 (some .int), Cond.methodLink RJ1 92 Lib.Math.max.name, Cond.static Lib.Math.max.name, Cond.initialized "java/lang/Math", Cond.code Lib.Math.max.name Lib.Math.max.code 2 (some .int), Cond.methodLink RJ1 38 Lib.Math.min.name, Cond.static Lib.Math.min.name, Cond.code Lib.Math.min.name Lib.Math.min.code 2 (some .int), Cond.methodLink RJ1 88 yJ1_canEncode_9a6ad, Cond.static yJ1_canEncode_9a6ad, Cond.code yJ1_canEncode_9a6ad cJ1_canEncode_9a6ad 1 (some .boolean), Cond.methodLink RJ1 95 yJ1_indexOfChar_4cfef, Cond.static yJ1_indexOfChar_4cfef, Cond.code yJ1_indexOfChar_4cfef cJ1_indexOfChar_4cfef 6 (some .int), Cond.methodLink RJ0 640 yJ2_indexOf_4cfef, Cond.static yJ2_indexOf_4cfef, Cond.code yJ2_indexOf_4cfef cJ2_indexOf_4cfef 4 (some .int), Cond.methodLink RJ2 224 Lib.Math.max.name, Cond.methodLink RJ2 183 Lib.Math.min.name, Cond.constant RJ2 227 (65536), Cond.methodLink RJ2 228 yJ2_indexOfChar_4cfef]
def wsL_law_r7 : List Cond := [Cond.static yJ2_indexOfChar_4cfef, Cond.code yJ2_indexOfChar_4cfef cJ2_indexOfChar_4cfef 4 (some .int), Cond.methodLink RJ2 96 yJ2_checkBoundsBeginEnd_d044e, Cond.static yJ2_checkBoundsBeginEnd_d044e, Cond.code yJ2_checkBoundsBeginEnd_d044e cJ2_checkBoundsBeginEnd_d044e 3 none, Cond.methodLink RJ2 241 yJ0_checkBoundsBeginEnd_23922, Cond.static yJ0_checkBoundsBeginEnd_23922, Cond.code yJ0_checkBoundsBeginEnd_23922 cJ0_checkBoundsBeginEnd_23922 3 none, Cond.methodLink RJ0 1062 yJ3_checkFromToIndex_8c36e, Cond.static yJ3_checkFromToIndex_8c36e, Cond.code yJ3_checkFromToIndex_8c36e cJ3_checkFromToIndex_8c36e 4 (some .int), Cond.methodLink RJ2 244 yJ2_indexOfCharUnsafe_4cfef, Cond.static yJ2_indexOfCharUnsafe_4cfef, Cond.code yJ2_indexOfCharUnsafe_4cfef cJ2_indexOfCharUnsafe_4cfef 5 (some .int), Cond.methodLink RJ2 232 yJ2_indexOfSupplementary_4cfef, Cond.static yJ2_indexOfSupplementary_4cfef, Cond.code yJ2_indexOfSupplementary_4cfef cJ2_indexOfSupplementary_4cfef 7 (some .int), Cond.methodLink RJ2 164 yJ11_isValidCodePoint_9a6ad, Cond.static yJ11_isValidCodePoint_9a6ad, Cond.initialized RJ11, Cond.code yJ11_isValidCodePoint_9a6ad cJ11_isValidCodePoint_9a6ad 2 (some .boolean), Cond.methodLink RJ2 157 yJ11_highSurrogate_5068e, Cond.static yJ11_highSurrogate_5068e, Cond.code yJ11_highSurrogate_5068e cJ11_highSurrogate_5068e 1 (some .char)]
def wsL_law_r8 : List Cond := [Cond.constant RJ11 110 (55232), Cond.methodLink RJ2 161 yJ11_lowSurrogate_5068e, Cond.static yJ11_lowSurrogate_5068e, Cond.code yJ11_lowSurrogate_5068e cJ11_lowSurrogate_5068e 1 (some .char), Cond.constant RJ11 76 (56320), Cond.methodLink RX4 56 yX4_number, Cond.static yX4_number, Cond.code yX4_number cX4_number 2 (some .int), Cond.methodLink RX4 60 yX4_pairMarked, Cond.static yX4_pairMarked, Cond.code yX4_pairMarked cX4_pairMarked 3 (some .int), Cond.static yX6_pairOf, Cond.code yX6_pairOf cX6_pairOf 2 (some .int), Cond.methodLink RX4 64 yX4_append, Cond.instanceMethod yX4_append, Cond.selects RX4 yX4_append yX4_append, Cond.code yX4_append cX4_append 3 none, Cond.instanceMethod yX5_init, Cond.code yX5_init cX5_init 1 none, Cond.methodLink RX5 3 objectInit, Cond.classLink RX5 9 RX2, Cond.instantiable RX2 3, Cond.initialized RX2, Cond.fieldLink RX5 14 "TagTower$Word" "row" "LTagTower$LetterRow;"]
def wsL_law_r9 : List Cond := [Cond.fieldLink RX5 20 "TagTower$Word" "kept" "LTagTower$LetterRow;", Cond.methodLink RX5 11 yX2_init, Cond.instanceMethod yX2_init, Cond.code yX2_init cX2_init 2 none, Cond.methodLink RX2 3 objectInit, Cond.methodLink RX2 9 Lib.Math.max.name, Cond.fieldLink RX2 15 "TagTower$LetterRow" "cells" "[I", Cond.instanceMethod yX0_init, Cond.code yX0_init cX0_init 1 none, Cond.methodLink RX0 3 objectInit, Cond.classLink RX0 9 RX2, Cond.fieldLink RX0 14 "TagTower$Bits" "row" "LTagTower$LetterRow;", Cond.methodLink RX0 11 yX2_init, Cond.methodLink RL 12 yX7_init, Cond.instanceMethod yX7_init, Cond.code yX7_init cX7_init 1 none, Cond.methodLink RX7 1 objectInit, Cond.fieldLink RX7 7 "TagTowerModel" "counter" "[I", Cond.fieldLink RX7 13 "TagTowerModel" "op" "[I", Cond.fieldLink RX7 16 "TagTowerModel" "which" "[I", Cond.fieldLink RX7 19 "TagTowerModel" "then" "[I", Cond.fieldLink RX7 22 "TagTowerModel" "other" "[I", Cond.fieldLink RX7 25 "TagTowerModel" "writes" "[I", Cond.fieldLink RX7 28 "TagTowerModel" "way" "[I"]
def wsL_law_r10 : List Cond := [Cond.fieldLink RX7 31 "TagTowerModel" "goes" "[I", Cond.fieldLink RX7 34 "TagTowerModel" "word" "[I", Cond.fieldLink RX7 37 "TagTowerModel" "saved" "[I", Cond.constant RX7 40 (80001), Cond.fieldLink RX7 41 "TagTowerModel" "bits" "[I", Cond.fieldLink RX7 44 "TagTowerModel" "makes" "[I", Cond.methodLink RL 13 yX6_line, Cond.instanceMethod yX6_line, Cond.selects RX6 yX6_line yX6_line, Cond.code yX6_line cX6_line 5 (some .int), Cond.methodLink RX6 44 yX6_outside, Cond.static yX6_outside, Cond.code yX6_outside cX6_outside 3 (some .boolean), Cond.methodLink RX6 48 yX1_addLine, Cond.instanceMethod yX1_addLine, Cond.selects RX1 yX1_addLine yX1_addLine, Cond.code yX1_addLine cX1_addLine 5 (some .int), Cond.fieldLink RX1 27 "TagTower$Counters" "lines" "I", Cond.methodLink RL 17 yX7_line, Cond.instanceMethod yX7_line, Cond.selects RX7 yX7_line yX7_line, Cond.code yX7_line cX7_line 5 (some .int), Cond.fieldLink RX7 47 "TagTowerModel" "thrown" "I", Cond.constantLong RX7 51 (2)]
def wsL_law_r11 : List Cond := [Cond.constantLong RX7 57 (3), Cond.constantLong RX7 59 (24), Cond.fieldLink RX7 61 "TagTowerModel" "lines" "I", Cond.methodLink RX7 53 yX7_in, Cond.static yX7_in, Cond.code yX7_in cX7_in 6 (some .boolean), Cond.methodLink RL 18 yX6_wipe, Cond.instanceMethod yX6_wipe, Cond.selects RX6 yX6_wipe yX6_wipe, Cond.code yX6_wipe cX6_wipe 1 (some .int), Cond.methodLink RX6 52 yX1_forgetLines, Cond.instanceMethod yX1_forgetLines, Cond.selects RX1 yX1_forgetLines yX1_forgetLines, Cond.code yX1_forgetLines cX1_forgetLines 2 (some .int), Cond.fieldLink RX1 31 "TagTower$Counters" "now" "I", Cond.methodLink RL 22 yX7_wipe, Cond.instanceMethod yX7_wipe, Cond.selects RX7 yX7_wipe yX7_wipe, Cond.code yX7_wipe cX7_wipe 2 (some .int), Cond.fieldLink RX7 64 "TagTowerModel" "line" "I", Cond.methodLink RL 23 yX6_set, Cond.instanceMethod yX6_set, Cond.selects RX6 yX6_set yX6_set, Cond.code yX6_set cX6_set 3 (some .int)]
def wsL_law_r12 : List Cond := [Cond.methodLink RX6 56 yX1_putValue, Cond.instanceMethod yX1_putValue, Cond.selects RX1 yX1_putValue yX1_putValue, Cond.code yX1_putValue cX1_putValue 4 (some .int), Cond.methodLink RL 27 yX7_set, Cond.instanceMethod yX7_set, Cond.selects RX7 yX7_set yX7_set, Cond.code yX7_set cX7_set 4 (some .int), Cond.constantLong RX7 67 (1000), Cond.methodLink RL 28 yX6_counter, Cond.instanceMethod yX6_counter, Cond.selects RX6 yX6_counter yX6_counter, Cond.code yX6_counter cX6_counter 2 (some .int), Cond.methodLink RX6 60 yX1_value, Cond.instanceMethod yX1_value, Cond.selects RX1 yX1_value yX1_value, Cond.code yX1_value cX1_value 2 (some .int), Cond.methodLink RL 32 yX7_counter, Cond.instanceMethod yX7_counter, Cond.selects RX7 yX7_counter yX7_counter, Cond.code yX7_counter cX7_counter 2 (some .int), Cond.methodLink RL 33 yX6_count, Cond.instanceMethod yX6_count, Cond.selects RX6 yX6_count yX6_count]
def wsL_law_r13 : List Cond := [Cond.code yX6_count cX6_count 2 (some .int), Cond.methodLink RX6 64 yX1_doLines, Cond.instanceMethod yX1_doLines, Cond.selects RX1 yX1_doLines yX1_doLines, Cond.code yX1_doLines cX1_doLines 3 (some .int), Cond.methodLink RX1 34 yX1_doLine, Cond.instanceMethod yX1_doLine, Cond.selects RX1 yX1_doLine yX1_doLine, Cond.code yX1_doLine cX1_doLine 1 (some .boolean), Cond.methodLink RX1 42 yX1_countUp, Cond.instanceMethod yX1_countUp, Cond.selects RX1 yX1_countUp yX1_countUp, Cond.code yX1_countUp cX1_countUp 2 (some .boolean), Cond.methodLink RX1 46 yX1_countDown, Cond.instanceMethod yX1_countDown, Cond.selects RX1 yX1_countDown yX1_countDown, Cond.code yX1_countDown cX1_countDown 2 (some .boolean), Cond.methodLink RL 36 yX7_count, Cond.instanceMethod yX7_count, Cond.selects RX7 yX7_count yX7_count, Cond.code yX7_count cX7_count 4 (some .int), Cond.constantLong RX7 69 (5000), Cond.methodLink RX7 71 yX7_mayDo, Cond.instanceMethod yX7_mayDo]
def wsL_law_r14 : List Cond := [Cond.selects RX7 yX7_mayDo yX7_mayDo, Cond.code yX7_mayDo cX7_mayDo 1 (some .boolean), Cond.methodLink RL 37 yX6_at, Cond.instanceMethod yX6_at, Cond.selects RX6 yX6_at yX6_at, Cond.code yX6_at cX6_at 1 (some .int), Cond.methodLink RX6 67 yX1_lineNow, Cond.instanceMethod yX1_lineNow, Cond.selects RX1 yX1_lineNow yX1_lineNow, Cond.code yX1_lineNow cX1_lineNow 1 (some .int), Cond.methodLink RL 40 yX7_at, Cond.instanceMethod yX7_at, Cond.selects RX7 yX7_at yX7_at, Cond.code yX7_at cX7_at 1 (some .int), Cond.methodLink RL 41 yX6_go, Cond.instanceMethod yX6_go, Cond.selects RX6 yX6_go yX6_go, Cond.code yX6_go cX6_go 2 (some .int), Cond.methodLink RX6 70 yX1_jump, Cond.instanceMethod yX1_jump, Cond.selects RX1 yX1_jump yX1_jump, Cond.code yX1_jump cX1_jump 3 (some .int), Cond.methodLink RL 44 yX7_go, Cond.instanceMethod yX7_go]
def wsL_law_r15 : List Cond := [Cond.selects RX7 yX7_go yX7_go, Cond.code yX7_go cX7_go 3 (some .int), Cond.methodLink RL 45 yX6_rule, Cond.instanceMethod yX6_rule, Cond.selects RX6 yX6_rule yX6_rule, Cond.code yX6_rule cX6_rule 7 (some .int), Cond.methodLink RX6 73 yX6_pairOf, Cond.methodLink RX6 76 yX4_follow, Cond.instanceMethod yX4_follow, Cond.selects RX4 yX4_follow yX4_follow, Cond.code yX4_follow cX4_follow 6 none, Cond.methodLink RX6 80 yX3_putRule, Cond.instanceMethod yX3_putRule, Cond.selects RX3 yX3_putRule yX3_putRule, Cond.code yX3_putRule cX3_putRule 5 (some .int), Cond.fieldLink RX3 25 "TagTower$Machine" "rules" "I", Cond.methodLink RL 49 yX7_rule, Cond.instanceMethod yX7_rule, Cond.selects RX7 yX7_rule yX7_rule, Cond.code yX7_rule cX7_rule 9 (some .int), Cond.methodLink RX7 75 yX7_isPair, Cond.static yX7_isPair, Cond.code yX7_isPair cX7_isPair 2 (some .boolean), Cond.methodLink RL 50 yX6_unrule]
def wsL_law_r16 : List Cond := [Cond.instanceMethod yX6_unrule, Cond.selects RX6 yX6_unrule yX6_unrule, Cond.code yX6_unrule cX6_unrule 4 (some .int), Cond.methodLink RX6 83 yX4_followNone, Cond.methodLink RX6 87 yX3_dropRule, Cond.instanceMethod yX3_dropRule, Cond.selects RX3 yX3_dropRule yX3_dropRule, Cond.code yX3_dropRule cX3_dropRule 2 (some .int), Cond.methodLink RL 53 yX7_unrule, Cond.instanceMethod yX7_unrule, Cond.selects RX7 yX7_unrule yX7_unrule, Cond.code yX7_unrule cX7_unrule 4 (some .int), Cond.methodLink RL 54 yX6_place, Cond.instanceMethod yX6_place, Cond.selects RX6 yX6_place yX6_place, Cond.code yX6_place cX6_place 5 (some .int), Cond.constant RX6 90 (100000), Cond.methodLink RX6 91 yX3_putPlace, Cond.instanceMethod yX3_putPlace, Cond.selects RX3 yX3_putPlace yX3_putPlace, Cond.code yX3_putPlace cX3_putPlace 5 none, Cond.fieldLink RX3 29 "TagTower$Machine" "state" "I", Cond.fieldLink RX3 32 "TagTower$Machine" "sign" "I", Cond.fieldLink RX3 35 "TagTower$Machine" "left" "I"]
def wsL_law_r17 : List Cond := [Cond.fieldLink RX3 38 "TagTower$Machine" "right" "I", Cond.methodLink RL 57 yX7_place, Cond.instanceMethod yX7_place, Cond.selects RX7 yX7_place yX7_place, Cond.code yX7_place cX7_place 5 (some .int), Cond.constantLong RX7 79 (100000), Cond.fieldLink RX7 81 "TagTowerModel" "state" "I", Cond.fieldLink RX7 84 "TagTowerModel" "sign" "I", Cond.fieldLink RX7 87 "TagTowerModel" "left" "I", Cond.fieldLink RX7 90 "TagTowerModel" "right" "I", Cond.methodLink RL 58 yX6_move, Cond.instanceMethod yX6_move, Cond.selects RX6 yX6_move yX6_move, Cond.code yX6_move cX6_move 2 (some .int), Cond.methodLink RX6 94 yX3_doSteps, Cond.instanceMethod yX3_doSteps, Cond.selects RX3 yX3_doSteps yX3_doSteps, Cond.code yX3_doSteps cX3_doSteps 3 (some .int), Cond.methodLink RX3 45 yX3_doStep, Cond.instanceMethod yX3_doStep, Cond.selects RX3 yX3_doStep yX3_doStep, Cond.code yX3_doStep cX3_doStep 5 (some .boolean), Cond.constant RX3 52 (100000), Cond.methodLink RX3 49 yX3_isStill]
def wsL_law_r18 : List Cond := [Cond.instanceMethod yX3_isStill, Cond.selects RX3 yX3_isStill yX3_isStill, Cond.code yX3_isStill cX3_isStill 1 (some .boolean), Cond.methodLink RL 61 yX7_move, Cond.instanceMethod yX7_move, Cond.selects RX7 yX7_move yX7_move, Cond.code yX7_move cX7_move 4 (some .int), Cond.methodLink RX7 94 yX7_mayMove, Cond.instanceMethod yX7_mayMove, Cond.selects RX7 yX7_mayMove yX7_mayMove, Cond.code yX7_mayMove cX7_mayMove 2 (some .boolean), Cond.constant RX7 93 (100000), Cond.methodLink RL 62 yX6_where, Cond.instanceMethod yX6_where, Cond.selects RX6 yX6_where yX6_where, Cond.code yX6_where cX6_where 2 (some .int), Cond.methodLink RX6 110 yX3_isStill, Cond.methodLink RX6 114 yX6_oneIf, Cond.static yX6_oneIf, Cond.code yX6_oneIf cX6_oneIf 1 (some .int), Cond.methodLink RL 65 yX7_where, Cond.instanceMethod yX7_where, Cond.selects RX7 yX7_where yX7_where, Cond.code yX7_where cX7_where 2 (some .int)]
def wsL_law_r19 : List Cond := [Cond.methodLink RL 66 yX6_production, Cond.instanceMethod yX6_production, Cond.selects RX6 yX6_production yX6_production, Cond.code yX6_production cX6_production 3 (some .int), Cond.methodLink RX6 118 yX4_letterAt, Cond.instanceMethod yX4_letterAt, Cond.selects RX4 yX4_letterAt yX4_letterAt, Cond.code yX4_letterAt cX4_letterAt 3 (some .int), Cond.methodLink RX4 75 yX4_sizeOf, Cond.instanceMethod yX4_sizeOf, Cond.selects RX4 yX4_sizeOf yX4_sizeOf, Cond.code yX4_sizeOf cX4_sizeOf 2 (some .int), Cond.methodLink RL 69 yX7_production, Cond.instanceMethod yX7_production, Cond.selects RX7 yX7_production yX7_production, Cond.code yX7_production cX7_production 3 (some .int), Cond.constantLong RX7 118 (120), Cond.fieldLink RX7 97 "TagTowerModel" "made" "I", Cond.methodLink RX7 120 yX7_produce, Cond.instanceMethod yX7_produce, Cond.selects RX7 yX7_produce yX7_produce, Cond.code yX7_produce cX7_produce 4 none, Cond.methodLink RX7 103 yX7_of, Cond.static yX7_of]
def wsL_law_r20 : List Cond := [Cond.code yX7_of cX7_of 2 (some .int), Cond.methodLink RX7 107 yX7_one, Cond.instanceMethod yX7_one, Cond.selects RX7 yX7_one yX7_one, Cond.code yX7_one cX7_one 2 none, Cond.methodLink RX7 100 yX7_makes, Cond.instanceMethod yX7_makes, Cond.selects RX7 yX7_makes yX7_makes, Cond.code yX7_makes cX7_makes 2 none, Cond.methodLink RX7 114 yX7_produceRuled, Cond.instanceMethod yX7_produceRuled, Cond.selects RX7 yX7_produceRuled yX7_produceRuled, Cond.code yX7_produceRuled cX7_produceRuled 6 none, Cond.methodLink RX7 110 yX7_doubled, Cond.instanceMethod yX7_doubled, Cond.selects RX7 yX7_doubled yX7_doubled, Cond.code yX7_doubled cX7_doubled 3 none, Cond.methodLink RL 70 yX6_lay, Cond.instanceMethod yX6_lay, Cond.selects RX6 yX6_lay yX6_lay, Cond.code yX6_lay cX6_lay 1 (some .int), Cond.methodLink RX6 121 yX5_layPlace, Cond.instanceMethod yX5_layPlace, Cond.selects RX5 yX5_layPlace yX5_layPlace]
def wsL_law_r21 : List Cond := [Cond.code yX5_layPlace cX5_layPlace 5 (some .int), Cond.methodLink RX5 23 yX2_empty, Cond.instanceMethod yX2_empty, Cond.selects RX2 yX2_empty yX2_empty, Cond.code yX2_empty cX2_empty 1 none, Cond.fieldLink RX2 21 "TagTower$LetterRow" "head" "I", Cond.fieldLink RX2 25 "TagTower$LetterRow" "size" "I", Cond.methodLink RX5 26 yX5_appendTwos, Cond.instanceMethod yX5_appendTwos, Cond.selects RX5 yX5_appendTwos yX5_appendTwos, Cond.code yX5_appendTwos cX5_appendTwos 4 none, Cond.methodLink RX5 34 yX2_append, Cond.instanceMethod yX2_append, Cond.selects RX2 yX2_append yX2_append, Cond.code yX2_append cX2_append 2 none, Cond.methodLink RX2 32 yX2_wrapped, Cond.instanceMethod yX2_wrapped, Cond.selects RX2 yX2_wrapped yX2_wrapped, Cond.code yX2_wrapped cX2_wrapped 2 (some .int), Cond.methodLink RL 73 yX7_lay, Cond.instanceMethod yX7_lay, Cond.selects RX7 yX7_lay yX7_lay, Cond.code yX7_lay cX7_lay 3 (some .int), Cond.fieldLink RX7 123 "TagTowerModel" "begin" "I"]
def wsL_law_r22 : List Cond := [Cond.fieldLink RX7 126 "TagTowerModel" "length" "I", Cond.methodLink RX7 129 yX7_puts, Cond.instanceMethod yX7_puts, Cond.selects RX7 yX7_puts yX7_puts, Cond.code yX7_puts cX7_puts 2 none, Cond.methodLink RL 74 yX6_add, Cond.instanceMethod yX6_add, Cond.selects RX6 yX6_add yX6_add, Cond.code yX6_add cX6_add 2 (some .int), Cond.methodLink RX6 125 yX5_addLetter, Cond.instanceMethod yX5_addLetter, Cond.selects RX5 yX5_addLetter yX5_addLetter, Cond.code yX5_addLetter cX5_addLetter 2 (some .int), Cond.methodLink RL 77 yX7_add, Cond.instanceMethod yX7_add, Cond.selects RX7 yX7_add yX7_add, Cond.code yX7_add cX7_add 2 (some .int), Cond.methodLink RL 78 yX6_clear, Cond.instanceMethod yX6_clear, Cond.selects RX6 yX6_clear yX6_clear, Cond.code yX6_clear cX6_clear 2 (some .int), Cond.methodLink RX6 137 yX2_empty, Cond.methodLink RL 81 yX7_clear, Cond.instanceMethod yX7_clear]
def wsL_law_r23 : List Cond := [Cond.selects RX7 yX7_clear yX7_clear, Cond.code yX7_clear cX7_clear 2 (some .int), Cond.methodLink RL 82 yX6_letter, Cond.instanceMethod yX6_letter, Cond.selects RX6 yX6_letter yX6_letter, Cond.code yX6_letter cX6_letter 2 (some .int), Cond.methodLink RX6 140 yX2_get, Cond.instanceMethod yX2_get, Cond.selects RX2 yX2_get yX2_get, Cond.code yX2_get cX2_get 2 (some .int), Cond.methodLink RL 85 yX7_letter, Cond.instanceMethod yX7_letter, Cond.selects RX7 yX7_letter yX7_letter, Cond.code yX7_letter cX7_letter 2 (some .int), Cond.methodLink RX7 132 yX7_letterAt, Cond.instanceMethod yX7_letterAt, Cond.selects RX7 yX7_letterAt yX7_letterAt, Cond.code yX7_letterAt cX7_letterAt 2 (some .int), Cond.methodLink RL 86 yX6_length, Cond.instanceMethod yX6_length, Cond.selects RX6 yX6_length yX6_length, Cond.code yX6_length cX6_length 1 (some .int), Cond.methodLink RL 89 yX7_length, Cond.instanceMethod yX7_length]
def wsL_law_r24 : List Cond := [Cond.selects RX7 yX7_length yX7_length, Cond.code yX7_length cX7_length 1 (some .int), Cond.methodLink RL 90 yX6_tag, Cond.instanceMethod yX6_tag, Cond.selects RX6 yX6_tag yX6_tag, Cond.code yX6_tag cX6_tag 2 (some .int), Cond.methodLink RX6 143 yX5_doSteps, Cond.instanceMethod yX5_doSteps, Cond.selects RX5 yX5_doSteps yX5_doSteps, Cond.code yX5_doSteps cX5_doSteps 4 (some .int), Cond.methodLink RX5 37 yX5_doStep, Cond.instanceMethod yX5_doStep, Cond.selects RX5 yX5_doStep yX5_doStep, Cond.code yX5_doStep cX5_doStep 4 (some .boolean), Cond.methodLink RX5 49 yX2_get, Cond.methodLink RX5 53 yX4_sizeOf, Cond.methodLink RX5 58 yX2_drop, Cond.instanceMethod yX2_drop, Cond.selects RX2 yX2_drop yX2_drop, Cond.code yX2_drop cX2_drop 3 none, Cond.methodLink RX2 36 Lib.Math.min.name, Cond.methodLink RX5 61 yX4_appendTo, Cond.instanceMethod yX4_appendTo, Cond.selects RX4 yX4_appendTo yX4_appendTo]
def wsL_law_r25 : List Cond := [Cond.code yX4_appendTo cX4_appendTo 6 none, Cond.methodLink RX4 85 yX2_append, Cond.methodLink RL 93 yX7_tag, Cond.instanceMethod yX7_tag, Cond.selects RX7 yX7_tag yX7_tag, Cond.code yX7_tag cX7_tag 3 (some .int), Cond.constantLong RX7 136 (20000), Cond.methodLink RX7 138 yX7_tags, Cond.instanceMethod yX7_tags, Cond.selects RX7 yX7_tags yX7_tags, Cond.code yX7_tags cX7_tags 2 (some .boolean), Cond.methodLink RL 94 yX6_next, Cond.instanceMethod yX6_next, Cond.selects RX6 yX6_next yX6_next, Cond.code yX6_next cX6_next 1 (some .int), Cond.methodLink RX6 146 yX5_stepsToPlace, Cond.instanceMethod yX5_stepsToPlace, Cond.selects RX5 yX5_stepsToPlace yX5_stepsToPlace, Cond.code yX5_stepsToPlace cX5_stepsToPlace 3 (some .int), Cond.methodLink RX5 41 yX2_become, Cond.instanceMethod yX2_become, Cond.selects RX2 yX2_become yX2_become, Cond.code yX2_become cX2_become 3 none, Cond.methodLink RX2 39 yX2_empty]
def wsL_law_r26 : List Cond := [Cond.methodLink RX2 42 yX2_get, Cond.methodLink RX2 45 yX2_append, Cond.methodLink RX5 45 yX5_middle, Cond.instanceMethod yX5_middle, Cond.selects RX5 yX5_middle yX5_middle, Cond.code yX5_middle cX5_middle 4 (some .int), Cond.methodLink RX5 65 yX5_behindTwos, Cond.instanceMethod yX5_behindTwos, Cond.selects RX5 yX5_behindTwos yX5_behindTwos, Cond.code yX5_behindTwos cX5_behindTwos 4 (some .int), Cond.methodLink RL 97 yX7_next, Cond.instanceMethod yX7_next, Cond.selects RX7 yX7_next yX7_next, Cond.code yX7_next cX7_next 3 (some .int), Cond.fieldLink RX7 150 "TagTowerModel" "savedLength" "I", Cond.methodLink RX7 153 yX7_tells, Cond.instanceMethod yX7_tells, Cond.selects RX7 yX7_tells yX7_tells, Cond.code yX7_tells cX7_tells 4 (some .boolean), Cond.fieldLink RX7 141 "TagTowerModel" "toldPair" "I", Cond.fieldLink RX7 144 "TagTowerModel" "toldLeft" "I", Cond.fieldLink RX7 147 "TagTowerModel" "toldRight" "I", Cond.methodLink RL 98 yX6_told, Cond.instanceMethod yX6_told]
def wsL_law_r27 : List Cond := [Cond.selects RX6 yX6_told yX6_told, Cond.code yX6_told cX6_told 2 (some .int), Cond.methodLink RX6 150 yX5_tellPlace, Cond.instanceMethod yX5_tellPlace, Cond.selects RX5 yX5_tellPlace yX5_tellPlace, Cond.code yX5_tellPlace cX5_tellPlace 4 (some .int), Cond.methodLink RL 101 yX7_told, Cond.instanceMethod yX7_told, Cond.selects RX7 yX7_told yX7_told, Cond.code yX7_told cX7_told 2 (some .int), Cond.methodLink RL 102 yX6_appendant, Cond.instanceMethod yX6_appendant, Cond.selects RX6 yX6_appendant yX6_appendant, Cond.code yX6_appendant cX6_appendant 3 (some .int), Cond.methodLink RX6 153 yX4_bitAt, Cond.instanceMethod yX4_bitAt, Cond.selects RX4 yX4_bitAt yX4_bitAt, Cond.code yX4_bitAt cX4_bitAt 3 (some .int), Cond.methodLink RX4 78 yX4_letterAt, Cond.methodLink RL 105 yX7_appendant, Cond.instanceMethod yX7_appendant, Cond.selects RX7 yX7_appendant yX7_appendant, Cond.code yX7_appendant cX7_appendant 3 (some .int), Cond.constantLong RX7 162 (241)]
def wsL_law_r28 : List Cond := [Cond.methodLink RL 106 yX6_spread, Cond.instanceMethod yX6_spread, Cond.selects RX6 yX6_spread yX6_spread, Cond.code yX6_spread cX6_spread 1 (some .int), Cond.methodLink RX6 156 yX0_layWord, Cond.instanceMethod yX0_layWord, Cond.selects RX0 yX0_layWord yX0_layWord, Cond.code yX0_layWord cX0_layWord 3 (some .int), Cond.constant RX0 24 (80000), Cond.fieldLink RX0 29 "TagTower$Bits" "turn" "I", Cond.methodLink RX0 25 yX2_become, Cond.methodLink RL 109 yX7_spread, Cond.instanceMethod yX7_spread, Cond.selects RX7 yX7_spread yX7_spread, Cond.code yX7_spread cX7_spread 3 (some .int), Cond.constant RX7 164 (80000), Cond.fieldLink RX7 156 "TagTowerModel" "first" "I", Cond.fieldLink RX7 159 "TagTowerModel" "many" "I", Cond.fieldLink RX7 165 "TagTowerModel" "turn" "I", Cond.methodLink RX7 168 yX7_putBit, Cond.instanceMethod yX7_putBit, Cond.selects RX7 yX7_putBit yX7_putBit, Cond.code yX7_putBit cX7_putBit 2 none, Cond.methodLink RL 110 yX6_cycle]
def wsL_law_r29 : List Cond := [Cond.instanceMethod yX6_cycle, Cond.selects RX6 yX6_cycle yX6_cycle, Cond.code yX6_cycle cX6_cycle 2 (some .int), Cond.methodLink RX6 160 yX0_doSteps, Cond.instanceMethod yX0_doSteps, Cond.selects RX0 yX0_doSteps yX0_doSteps, Cond.code yX0_doSteps cX0_doSteps 5 (some .int), Cond.methodLink RX0 55 yX0_take, Cond.instanceMethod yX0_take, Cond.selects RX0 yX0_take yX0_take, Cond.code yX0_take cX0_take 7 (some .int), Cond.methodLink RX0 67 Lib.Math.min.name, Cond.methodLink RX0 59 yX0_isStill, Cond.instanceMethod yX0_isStill, Cond.selects RX0 yX0_isStill yX0_isStill, Cond.code yX0_isStill cX0_isStill 2 (some .boolean), Cond.methodLink RX0 42 yX2_get, Cond.methodLink RX0 50 yX4_sizeOf, Cond.methodLink RX0 32 yX0_gone, Cond.instanceMethod yX0_gone, Cond.selects RX0 yX0_gone yX0_gone, Cond.code yX0_gone cX0_gone 1 (some .int), Cond.methodLink RX0 63 yX0_takeOne, Cond.instanceMethod yX0_takeOne]
def wsL_law_r30 : List Cond := [Cond.selects RX0 yX0_takeOne yX0_takeOne, Cond.code yX0_takeOne cX0_takeOne 2 (some .int), Cond.methodLink RX0 36 yX0_size, Cond.instanceMethod yX0_size, Cond.selects RX0 yX0_size yX0_size, Cond.code yX0_size cX0_size 1 (some .int), Cond.methodLink RX0 76 yX4_appendTo, Cond.methodLink RX0 73 yX0_pass, Cond.instanceMethod yX0_pass, Cond.selects RX0 yX0_pass yX0_pass, Cond.code yX0_pass cX0_pass 2 none, Cond.methodLink RX0 80 yX2_drop, Cond.methodLink RL 113 yX7_cycle, Cond.instanceMethod yX7_cycle, Cond.selects RX7 yX7_cycle yX7_cycle, Cond.code yX7_cycle cX7_cycle 3 (some .int), Cond.constantLong RX7 180 (30000), Cond.methodLink RX7 182 yX7_cycles, Cond.instanceMethod yX7_cycles, Cond.selects RX7 yX7_cycles yX7_cycles, Cond.code yX7_cycles cX7_cycles 4 (some .boolean), Cond.methodLink RX7 177 yX7_isStill, Cond.instanceMethod yX7_isStill, Cond.selects RX7 yX7_isStill yX7_isStill]
def wsL_law_r31 : List Cond := [Cond.code yX7_isStill cX7_isStill 2 (some .boolean), Cond.methodLink RX7 174 yX7_letterOf, Cond.instanceMethod yX7_letterOf, Cond.selects RX7 yX7_letterOf yX7_letterOf, Cond.code yX7_letterOf cX7_letterOf 5 (some .int), Cond.methodLink RX7 171 yX7_bitAt, Cond.instanceMethod yX7_bitAt, Cond.selects RX7 yX7_bitAt yX7_bitAt, Cond.code yX7_bitAt cX7_bitAt 2 (some .int), Cond.methodLink RL 114 yX6_bit, Cond.instanceMethod yX6_bit, Cond.selects RX6 yX6_bit yX6_bit, Cond.code yX6_bit cX6_bit 2 (some .int), Cond.methodLink RX6 161 yX0_get, Cond.instanceMethod yX0_get, Cond.selects RX0 yX0_get yX0_get, Cond.code yX0_get cX0_get 3 (some .int), Cond.methodLink RL 117 yX7_bit, Cond.instanceMethod yX7_bit, Cond.selects RX7 yX7_bit yX7_bit, Cond.code yX7_bit cX7_bit 2 (some .int), Cond.methodLink RL 118 yX6_bits, Cond.instanceMethod yX6_bits, Cond.selects RX6 yX6_bits yX6_bits]
def wsL_law_r32 : List Cond := [Cond.code yX6_bits cX6_bits 2 (some .int), Cond.methodLink RX6 162 yX0_size, Cond.methodLink RX6 167 yX0_ones, Cond.instanceMethod yX0_ones, Cond.selects RX0 yX0_ones yX0_ones, Cond.code yX0_ones cX0_ones 2 (some .int), Cond.methodLink RX6 170 yX0_isStill, Cond.methodLink RL 121 yX7_bits, Cond.instanceMethod yX7_bits, Cond.selects RX7 yX7_bits yX7_bits, Cond.code yX7_bits cX7_bits 4 (some .int), Cond.methodLink RL 122 yX6_gather, Cond.instanceMethod yX6_gather, Cond.selects RX6 yX6_gather yX6_gather, Cond.code yX6_gather cX6_gather 1 (some .int), Cond.methodLink RX6 174 yX2_become, Cond.methodLink RL 125 yX7_gather, Cond.instanceMethod yX7_gather, Cond.selects RX7 yX7_gather yX7_gather, Cond.code yX7_gather cX7_gather 2 (some .int)]
def wsL_law : List Cond := (wsL_law_r1 ++ (wsL_law_r2 ++ (wsL_law_r3 ++ (wsL_law_r4 ++ (wsL_law_r5 ++ (wsL_law_r6 ++ (wsL_law_r7 ++ (wsL_law_r8 ++ (wsL_law_r9 ++ (wsL_law_r10 ++ (wsL_law_r11 ++ (wsL_law_r12 ++ (wsL_law_r13 ++ (wsL_law_r14 ++ (wsL_law_r15 ++ (wsL_law_r16 ++ (wsL_law_r17 ++ (wsL_law_r18 ++ (wsL_law_r19 ++ (wsL_law_r20 ++ (wsL_law_r21 ++ (wsL_law_r22 ++ (wsL_law_r23 ++ (wsL_law_r24 ++ (wsL_law_r25 ++ (wsL_law_r26 ++ (wsL_law_r27 ++ (wsL_law_r28 ++ (wsL_law_r29 ++ (wsL_law_r30 ++ (wsL_law_r31 ++ wsL_law_r32))))))))))))))))))))))))))))))) ++ wsX60 ++ wsX70 ++ wsX10 ++ wsX30 ++ wsX40 ++ wsX50 ++ wsX00 ++ wsX20 ++ ([] : List Cond)
set_option maxRecDepth 20000 in
theorem wsL_law_in : ∀ w ∈ wsL_law, w ∈ lw_tbl := fun w h => (goodIn_p wsL_law [50, 53, 58, 87, 126, 131, 136, 140, 144, 150, 154, 157, 160, 165, 168, 171, 174, 178, 189, 193, 197, 203, 206, 200, 209, 212, 218, 221, 224, 227, 230, 233, 236, 239, 243, 247, 250, 253, 257, 270, 276, 304, 671, 336, 339, 343, 765, 769, 347, 351, 775, 355, 359, 779, 363, 367, 784, 371, 375, 379, 384, 388, 788, 793, 392, 396, 797, 400, 404, 801, 408, 413, 422, 805, 808, 426, 431, 812, 435, 440, 816, 444, 448, 452, 456, 821, 825, 462, 466, 830, 470, 474, 478, 834, 839, 842, 846, 850, 854, 858, 483, 487, 491, 495, 499, 503, 862, 866, 507, 511, 870, 515, 874, 520, 524, 878, 882, 529, 886, 533, 537, 541, 547, 552, 890, 895, 557, 561, 565, 572, 576, 899, 903, 580, 584, 907, 588, 592, 911, 598, 602, 916, 921, 608, 612, 616, 620, 626, 630, 634, 639, 925, 930, 934, 938, 942, 645, 649, 946, 655, 660, 950, 665, 954] (by decide +kernel) (by decide +kernel) w h).1
theorem inlX0 : ∀ w ∈ wsX00, w ∈ wsL_law := fun _ h => List.mem_append_left _ (List.mem_append_left _ (List.mem_append_right _ h))
theorem inX0 : ∀ w ∈ wsX00, w ∈ lw_tbl := fun w h => wsL_law_in w (inlX0 w h)
theorem inlX1 : ∀ w ∈ wsX10, w ∈ wsL_law := fun _ h => List.mem_append_left _ (List.mem_append_left _ (List.mem_append_left _ (List.mem_append_left _ (List.mem_append_left _ (List.mem_append_left _ (List.mem_append_right _ h))))))
theorem inX1 : ∀ w ∈ wsX10, w ∈ lw_tbl := fun w h => wsL_law_in w (inlX1 w h)
theorem inlX2 : ∀ w ∈ wsX20, w ∈ wsL_law := fun _ h => List.mem_append_left _ (List.mem_append_right _ h)
theorem inX2 : ∀ w ∈ wsX20, w ∈ lw_tbl := fun w h => wsL_law_in w (inlX2 w h)
theorem inlX3 : ∀ w ∈ wsX30, w ∈ wsL_law := fun _ h => List.mem_append_left _ (List.mem_append_left _ (List.mem_append_left _ (List.mem_append_left _ (List.mem_append_left _ (List.mem_append_right _ h)))))
theorem inX3 : ∀ w ∈ wsX30, w ∈ lw_tbl := fun w h => wsL_law_in w (inlX3 w h)
theorem inlX4 : ∀ w ∈ wsX40, w ∈ wsL_law := fun _ h => List.mem_append_left _ (List.mem_append_left _ (List.mem_append_left _ (List.mem_append_left _ (List.mem_append_right _ h))))
theorem inX4 : ∀ w ∈ wsX40, w ∈ lw_tbl := fun w h => wsL_law_in w (inlX4 w h)
theorem inlX5 : ∀ w ∈ wsX50, w ∈ wsL_law := fun _ h => List.mem_append_left _ (List.mem_append_left _ (List.mem_append_left _ (List.mem_append_right _ h)))
theorem inX5 : ∀ w ∈ wsX50, w ∈ lw_tbl := fun w h => wsL_law_in w (inlX5 w h)
theorem inlX6 : ∀ w ∈ wsX60, w ∈ wsL_law := fun _ h => List.mem_append_left _ (List.mem_append_left _ (List.mem_append_left _ (List.mem_append_left _ (List.mem_append_left _ (List.mem_append_left _ (List.mem_append_left _ (List.mem_append_left _ (List.mem_append_right _ h))))))))
theorem inX6 : ∀ w ∈ wsX60, w ∈ lw_tbl := fun w h => wsL_law_in w (inlX6 w h)
theorem inlX7 : ∀ w ∈ wsX70, w ∈ wsL_law := fun _ h => List.mem_append_left _ (List.mem_append_left _ (List.mem_append_left _ (List.mem_append_left _ (List.mem_append_left _ (List.mem_append_left _ (List.mem_append_left _ (List.mem_append_right _ h)))))))
theorem inX7 : ∀ w ∈ wsX70, w ∈ lw_tbl := fun w h => wsL_law_in w (inlX7 w h)
theorem inJ11 : ∀ w ∈ wsJ110, w ∈ lw_tbl := by decide +kernel
theorem inJ9 : ∀ w ∈ wsJ90, w ∈ lw_tbl := by decide +kernel
theorem inJ0 : ∀ w ∈ wsJ00, w ∈ lw_tbl := by decide +kernel
theorem inJ1 : ∀ w ∈ wsJ10, w ∈ lw_tbl := by decide +kernel
theorem inJ2 : ∀ w ∈ wsJ20, w ∈ lw_tbl := by decide +kernel
theorem inJ3 : ∀ w ∈ wsJ30, w ∈ lw_tbl := by decide +kernel
set_option maxRecDepth 20000 in
theorem ggX0_init_X2_init : GoodIn wsX0_init wsX2_init := goodIn_r _ [10, 11, 2, 3, 12, 13, 14, 15, 16, 17, 18, 19, 20] (by decide +kernel) (by decide +kernel)
set_option maxRecDepth 20000 in
theorem gX0_init_X2_init : GoodIn wsX0_init (wsX2_init) := ggX0_init_X2_init
theorem dX0_init_0 : decode cX0_init 0 = .ok (.aload_n 0, 1) := by decide +kernel
theorem dX0_init_1 : decode cX0_init 1 = .ok (.invokespecial 3, 3) := by decide +kernel
theorem dX0_init_4 : decode cX0_init 4 = .ok (.aload_n 0, 1) := by decide +kernel
theorem dX0_init_5 : decode cX0_init 5 = .ok (.new 9, 3) := by decide +kernel
theorem dX0_init_8 : decode cX0_init 8 = .ok (.dup, 1) := by decide +kernel
theorem dX0_init_9 : decode cX0_init 9 = .ok (.sipush 662, 3) := by decide +kernel
theorem dX0_init_12 : decode cX0_init 12 = .ok (.invokespecial 11, 3) := by decide +kernel
theorem dX0_init_15 : decode cX0_init 15 = .ok (.putfield 14, 3) := by decide +kernel
theorem dX0_init_18 : decode cX0_init 18 = .ok (.return_, 1) := by decide +kernel
set_option maxRecDepth 20000 in
theorem ggX0_layWord_X2_become : GoodIn wsX0_layWord wsX2_become := goodIn_r _ [8, 9, 10, 11, 12, 7, 13, 14, 15, 16, 17, 18, 19, 20, 21, 22, 23, 24, 25, 26, 27, 28, 29, 30, 31, 32, 33] (by decide +kernel) (by decide +kernel)
set_option maxRecDepth 20000 in
theorem gX0_layWord_X2_become : GoodIn wsX0_layWord (wsV RX0 25 RX2 yX2_become wsX2_become) := goodIn_app (goodIn_of _ (by decide +kernel)) ggX0_layWord_X2_become
theorem dX0_layWord_0 : decode cX0_layWord 0 = .ok (.aload_n 1, 1) := by decide +kernel
theorem dX0_layWord_1 : decode cX0_layWord 1 = .ok (.getfield 20, 3) := by decide +kernel
theorem dX0_layWord_4 : decode cX0_layWord 4 = .ok (.bipush 121, 2) := by decide +kernel
theorem dX0_layWord_6 : decode cX0_layWord 6 = .ok (.imul, 1) := by decide +kernel
theorem dX0_layWord_7 : decode cX0_layWord 7 = .ok (.istore_n 2, 1) := by decide +kernel
theorem dX0_layWord_8 : decode cX0_layWord 8 = .ok (.iload_n 2, 1) := by decide +kernel
theorem dX0_layWord_9 : decode cX0_layWord 9 = .ok (.ldc 24, 2) := by decide +kernel
theorem dX0_layWord_11 : decode cX0_layWord 11 = .ok (.if_icmp .le 6, 3) := by decide +kernel
theorem dX0_layWord_14 : decode cX0_layWord 14 = .ok (.bipush (-3), 2) := by decide +kernel
theorem dX0_layWord_16 : decode cX0_layWord 16 = .ok (.ireturn, 1) := by decide +kernel
theorem dX0_layWord_17 : decode cX0_layWord 17 = .ok (.aload_n 0, 1) := by decide +kernel
theorem dX0_layWord_18 : decode cX0_layWord 18 = .ok (.getfield 14, 3) := by decide +kernel
theorem dX0_layWord_21 : decode cX0_layWord 21 = .ok (.aload_n 1, 1) := by decide +kernel
theorem dX0_layWord_22 : decode cX0_layWord 22 = .ok (.invokevirtual 25, 3) := by decide +kernel
theorem dX0_layWord_25 : decode cX0_layWord 25 = .ok (.aload_n 0, 1) := by decide +kernel
theorem dX0_layWord_26 : decode cX0_layWord 26 = .ok (.iconst 0, 1) := by decide +kernel
theorem dX0_layWord_27 : decode cX0_layWord 27 = .ok (.putfield 29, 3) := by decide +kernel
theorem dX0_layWord_30 : decode cX0_layWord 30 = .ok (.iload_n 2, 1) := by decide +kernel
theorem dX0_layWord_31 : decode cX0_layWord 31 = .ok (.ireturn, 1) := by decide +kernel
set_option maxRecDepth 20000 in
theorem ggX0_size_X0_gone : GoodIn wsX0_size wsX0_gone := goodIn_r _ [6, 7, 8, 9] (by decide +kernel) (by decide +kernel)
set_option maxRecDepth 20000 in
theorem gX0_size_X0_gone : GoodIn wsX0_size (wsV RX0 32 RX0 yX0_gone wsX0_gone) := goodIn_app (goodIn_of _ (by decide +kernel)) ggX0_size_X0_gone
theorem dX0_size_0 : decode cX0_size 0 = .ok (.aload_n 0, 1) := by decide +kernel
theorem dX0_size_1 : decode cX0_size 1 = .ok (.getfield 14, 3) := by decide +kernel
theorem dX0_size_4 : decode cX0_size 4 = .ok (.getfield 20, 3) := by decide +kernel
theorem dX0_size_7 : decode cX0_size 7 = .ok (.bipush 121, 2) := by decide +kernel
theorem dX0_size_9 : decode cX0_size 9 = .ok (.imul, 1) := by decide +kernel
theorem dX0_size_10 : decode cX0_size 10 = .ok (.aload_n 0, 1) := by decide +kernel
theorem dX0_size_11 : decode cX0_size 11 = .ok (.invokevirtual 32, 3) := by decide +kernel
theorem dX0_size_14 : decode cX0_size 14 = .ok (.isub, 1) := by decide +kernel
theorem dX0_size_15 : decode cX0_size 15 = .ok (.ireturn, 1) := by decide +kernel
theorem dX0_gone_0 : decode cX0_gone 0 = .ok (.aload_n 0, 1) := by decide +kernel
theorem dX0_gone_1 : decode cX0_gone 1 = .ok (.getfield 29, 3) := by decide +kernel
theorem dX0_gone_4 : decode cX0_gone 4 = .ok (.bipush 121, 2) := by decide +kernel
theorem dX0_gone_6 : decode cX0_gone 6 = .ok (.irem, 1) := by decide +kernel
theorem dX0_gone_7 : decode cX0_gone 7 = .ok (.ireturn, 1) := by decide +kernel
set_option maxRecDepth 20000 in
theorem ggX0_get_X0_size : GoodIn wsX0_get wsX0_size := goodIn_r _ [6, 1, 7, 8, 9, 5, 10, 11, 29, 30, 31, 32, 33] (by decide +kernel) (by decide +kernel)
set_option maxRecDepth 20000 in
theorem gX0_get_X0_size : GoodIn wsX0_get (wsV RX0 36 RX0 yX0_size wsX0_size) := goodIn_app (goodIn_of _ (by decide +kernel)) ggX0_get_X0_size
set_option maxRecDepth 20000 in
theorem ggX0_get_X6_outside : GoodIn wsX0_get wsX6_outside := goodIn_r _ [14] (by decide +kernel) (by decide +kernel)
set_option maxRecDepth 20000 in
theorem gX0_get_X6_outside_n38 : GoodIn wsX0_get (wsX6_outside) := ggX0_get_X6_outside
set_option maxRecDepth 20000 in
theorem ggX0_get_X0_gone : GoodIn wsX0_get wsX0_gone := goodIn_r _ [10, 11, 29, 30] (by decide +kernel) (by decide +kernel)
set_option maxRecDepth 20000 in
theorem gX0_get_X0_gone : GoodIn wsX0_get (wsV RX0 32 RX0 yX0_gone wsX0_gone) := goodIn_app (goodIn_of _ (by decide +kernel)) ggX0_get_X0_gone
set_option maxRecDepth 20000 in
theorem ggX0_get_X2_get : GoodIn wsX0_get wsX2_get := goodIn_r _ [19, 20, 21, 22, 12, 13, 14, 23, 24, 25, 18, 26, 31, 32, 33] (by decide +kernel) (by decide +kernel)
set_option maxRecDepth 20000 in
theorem gX0_get_X2_get : GoodIn wsX0_get (wsV RX0 42 RX2 yX2_get wsX2_get) := goodIn_app (goodIn_of _ (by decide +kernel)) ggX0_get_X2_get
set_option maxRecDepth 20000 in
theorem ggX0_get_X6_oneIf : GoodIn wsX0_get wsX6_oneIf := goodIn_r _ [28] (by decide +kernel) (by decide +kernel)
set_option maxRecDepth 20000 in
theorem gX0_get_X6_oneIf_n46 : GoodIn wsX0_get (wsX6_oneIf) := ggX0_get_X6_oneIf
theorem dX0_get_0 : decode cX0_get 0 = .ok (.iload_n 1, 1) := by decide +kernel
theorem dX0_get_1 : decode cX0_get 1 = .ok (.iconst 0, 1) := by decide +kernel
theorem dX0_get_2 : decode cX0_get 2 = .ok (.aload_n 0, 1) := by decide +kernel
theorem dX0_get_3 : decode cX0_get 3 = .ok (.invokevirtual 36, 3) := by decide +kernel
theorem dX0_get_6 : decode cX0_get 6 = .ok (.iconst 1, 1) := by decide +kernel
theorem dX0_get_7 : decode cX0_get 7 = .ok (.isub, 1) := by decide +kernel
theorem dX0_get_8 : decode cX0_get 8 = .ok (.invokestatic 38, 3) := by decide +kernel
theorem dX0_get_11 : decode cX0_get 11 = .ok (.ifCond .eq 6, 3) := by decide +kernel
theorem dX0_get_14 : decode cX0_get 14 = .ok (.bipush (-9), 2) := by decide +kernel
theorem dX0_get_16 : decode cX0_get 16 = .ok (.ireturn, 1) := by decide +kernel
theorem dX0_get_17 : decode cX0_get 17 = .ok (.iload_n 1, 1) := by decide +kernel
theorem dX0_get_18 : decode cX0_get 18 = .ok (.aload_n 0, 1) := by decide +kernel
theorem dX0_get_19 : decode cX0_get 19 = .ok (.invokevirtual 32, 3) := by decide +kernel
theorem dX0_get_22 : decode cX0_get 22 = .ok (.iadd, 1) := by decide +kernel
theorem dX0_get_23 : decode cX0_get 23 = .ok (.istore_n 2, 1) := by decide +kernel
theorem dX0_get_24 : decode cX0_get 24 = .ok (.aload_n 0, 1) := by decide +kernel
theorem dX0_get_25 : decode cX0_get 25 = .ok (.getfield 14, 3) := by decide +kernel
theorem dX0_get_28 : decode cX0_get 28 = .ok (.iload_n 2, 1) := by decide +kernel
theorem dX0_get_29 : decode cX0_get 29 = .ok (.bipush 121, 2) := by decide +kernel
theorem dX0_get_31 : decode cX0_get 31 = .ok (.idiv, 1) := by decide +kernel
theorem dX0_get_32 : decode cX0_get 32 = .ok (.invokevirtual 42, 3) := by decide +kernel
theorem dX0_get_35 : decode cX0_get 35 = .ok (.iload_n 2, 1) := by decide +kernel
theorem dX0_get_36 : decode cX0_get 36 = .ok (.bipush 121, 2) := by decide +kernel
theorem dX0_get_38 : decode cX0_get 38 = .ok (.irem, 1) := by decide +kernel
theorem dX0_get_39 : decode cX0_get 39 = .ok (.if_icmp .ne 7, 3) := by decide +kernel
theorem dX0_get_42 : decode cX0_get 42 = .ok (.iconst 1, 1) := by decide +kernel
theorem dX0_get_43 : decode cX0_get 43 = .ok (.goto 4, 3) := by decide +kernel
theorem dX0_get_46 : decode cX0_get 46 = .ok (.iconst 0, 1) := by decide +kernel
theorem dX0_get_47 : decode cX0_get 47 = .ok (.invokestatic 46, 3) := by decide +kernel
theorem dX0_get_50 : decode cX0_get 50 = .ok (.ireturn, 1) := by decide +kernel
set_option maxRecDepth 20000 in
theorem ggX0_ones_X2_get : GoodIn wsX0_ones wsX2_get := goodIn_r _ [6, 7, 8, 9, 10, 11, 12, 13, 14, 15, 5, 16, 25, 26, 27] (by decide +kernel) (by decide +kernel)
set_option maxRecDepth 20000 in
theorem gX0_ones_X2_get : GoodIn wsX0_ones (wsV RX0 42 RX2 yX2_get wsX2_get) := goodIn_app (goodIn_of _ (by decide +kernel)) ggX0_ones_X2_get
set_option maxRecDepth 20000 in
theorem ggX0_ones_X0_gone : GoodIn wsX0_ones wsX0_gone := goodIn_r _ [21, 22, 23, 24] (by decide +kernel) (by decide +kernel)
set_option maxRecDepth 20000 in
theorem gX0_ones_X0_gone : GoodIn wsX0_ones (wsV RX0 32 RX0 yX0_gone wsX0_gone) := goodIn_app (goodIn_of _ (by decide +kernel)) ggX0_ones_X0_gone
theorem dX0_ones_0 : decode cX0_ones 0 = .ok (.aload_n 0, 1) := by decide +kernel
theorem dX0_ones_1 : decode cX0_ones 1 = .ok (.getfield 14, 3) := by decide +kernel
theorem dX0_ones_4 : decode cX0_ones 4 = .ok (.getfield 20, 3) := by decide +kernel
theorem dX0_ones_7 : decode cX0_ones 7 = .ok (.ifCond .le 22, 3) := by decide +kernel
theorem dX0_ones_10 : decode cX0_ones 10 = .ok (.aload_n 0, 1) := by decide +kernel
theorem dX0_ones_11 : decode cX0_ones 11 = .ok (.getfield 14, 3) := by decide +kernel
theorem dX0_ones_14 : decode cX0_ones 14 = .ok (.iconst 0, 1) := by decide +kernel
theorem dX0_ones_15 : decode cX0_ones 15 = .ok (.invokevirtual 42, 3) := by decide +kernel
theorem dX0_ones_18 : decode cX0_ones 18 = .ok (.aload_n 0, 1) := by decide +kernel
theorem dX0_ones_19 : decode cX0_ones 19 = .ok (.invokevirtual 32, 3) := by decide +kernel
theorem dX0_ones_22 : decode cX0_ones 22 = .ok (.if_icmp .ge 7, 3) := by decide +kernel
theorem dX0_ones_25 : decode cX0_ones 25 = .ok (.iconst 1, 1) := by decide +kernel
theorem dX0_ones_26 : decode cX0_ones 26 = .ok (.goto 4, 3) := by decide +kernel
theorem dX0_ones_29 : decode cX0_ones 29 = .ok (.iconst 0, 1) := by decide +kernel
theorem dX0_ones_30 : decode cX0_ones 30 = .ok (.istore_n 1, 1) := by decide +kernel
theorem dX0_ones_31 : decode cX0_ones 31 = .ok (.iload_n 1, 1) := by decide +kernel
theorem dX0_ones_32 : decode cX0_ones 32 = .ok (.ifCond .eq 15, 3) := by decide +kernel
theorem dX0_ones_35 : decode cX0_ones 35 = .ok (.aload_n 0, 1) := by decide +kernel
theorem dX0_ones_36 : decode cX0_ones 36 = .ok (.getfield 14, 3) := by decide +kernel
theorem dX0_ones_39 : decode cX0_ones 39 = .ok (.getfield 20, 3) := by decide +kernel
theorem dX0_ones_42 : decode cX0_ones 42 = .ok (.iconst 1, 1) := by decide +kernel
theorem dX0_ones_43 : decode cX0_ones 43 = .ok (.isub, 1) := by decide +kernel
theorem dX0_ones_44 : decode cX0_ones 44 = .ok (.goto 10, 3) := by decide +kernel
theorem dX0_ones_47 : decode cX0_ones 47 = .ok (.aload_n 0, 1) := by decide +kernel
theorem dX0_ones_48 : decode cX0_ones 48 = .ok (.getfield 14, 3) := by decide +kernel
theorem dX0_ones_51 : decode cX0_ones 51 = .ok (.getfield 20, 3) := by decide +kernel
theorem dX0_ones_54 : decode cX0_ones 54 = .ok (.ireturn, 1) := by decide +kernel
set_option maxRecDepth 20000 in
theorem ggX0_isStill_X2_get : GoodIn wsX0_isStill wsX2_get := goodIn_r _ [7, 8, 9, 10, 11, 12, 13, 14, 15, 16, 6, 17, 26, 27, 28] (by decide +kernel) (by decide +kernel)
set_option maxRecDepth 20000 in
theorem gX0_isStill_X2_get : GoodIn wsX0_isStill (wsV RX0 42 RX2 yX2_get wsX2_get) := goodIn_app (goodIn_of _ (by decide +kernel)) ggX0_isStill_X2_get
set_option maxRecDepth 20000 in
theorem ggX0_isStill_X4_sizeOf : GoodIn wsX0_isStill wsX4_sizeOf := goodIn_r _ [22, 23, 11, 12, 13, 29, 30] (by decide +kernel) (by decide +kernel)
set_option maxRecDepth 20000 in
theorem gX0_isStill_X4_sizeOf : GoodIn wsX0_isStill (wsV RX0 50 RX4 yX4_sizeOf wsX4_sizeOf) := goodIn_app (goodIn_of _ (by decide +kernel)) ggX0_isStill_X4_sizeOf
theorem dX0_isStill_0 : decode cX0_isStill 0 = .ok (.aload_n 0, 1) := by decide +kernel
theorem dX0_isStill_1 : decode cX0_isStill 1 = .ok (.getfield 29, 3) := by decide +kernel
theorem dX0_isStill_4 : decode cX0_isStill 4 = .ok (.ifCond .ne 33, 3) := by decide +kernel
theorem dX0_isStill_7 : decode cX0_isStill 7 = .ok (.aload_n 0, 1) := by decide +kernel
theorem dX0_isStill_8 : decode cX0_isStill 8 = .ok (.getfield 14, 3) := by decide +kernel
theorem dX0_isStill_11 : decode cX0_isStill 11 = .ok (.getfield 20, 3) := by decide +kernel
theorem dX0_isStill_14 : decode cX0_isStill 14 = .ok (.iconst 2, 1) := by decide +kernel
theorem dX0_isStill_15 : decode cX0_isStill 15 = .ok (.if_icmp .lt 18, 3) := by decide +kernel
theorem dX0_isStill_18 : decode cX0_isStill 18 = .ok (.aload_n 1, 1) := by decide +kernel
theorem dX0_isStill_19 : decode cX0_isStill 19 = .ok (.aload_n 0, 1) := by decide +kernel
theorem dX0_isStill_20 : decode cX0_isStill 20 = .ok (.getfield 14, 3) := by decide +kernel
theorem dX0_isStill_23 : decode cX0_isStill 23 = .ok (.iconst 0, 1) := by decide +kernel
theorem dX0_isStill_24 : decode cX0_isStill 24 = .ok (.invokevirtual 42, 3) := by decide +kernel
theorem dX0_isStill_27 : decode cX0_isStill 27 = .ok (.invokevirtual 50, 3) := by decide +kernel
theorem dX0_isStill_30 : decode cX0_isStill 30 = .ok (.ifCond .ne 7, 3) := by decide +kernel
theorem dX0_isStill_33 : decode cX0_isStill 33 = .ok (.iconst 1, 1) := by decide +kernel
theorem dX0_isStill_34 : decode cX0_isStill 34 = .ok (.goto 4, 3) := by decide +kernel
theorem dX0_isStill_37 : decode cX0_isStill 37 = .ok (.iconst 0, 1) := by decide +kernel
theorem dX0_isStill_38 : decode cX0_isStill 38 = .ok (.ireturn, 1) := by decide +kernel
set_option maxRecDepth 20000 in
theorem ggX0_doSteps_X0_take : GoodIn wsX0_doSteps wsX0_take := goodIn_r _ [5, 6, 7, 8, 9, 10, 11, 12, 13, 4, 14, 15, 16, 17, 18, 19, 20, 21, 22, 23, 24, 25, 26, 27, 28, 29, 30, 31, 32, 33, 34, 35, 36, 37, 38, 39, 40, 41, 42, 43, 44, 45, 46, 47, 48, 49, 50, 51, 52, 53, 54, 55, 56, 57, 58, 59, 60, 61, 62, 63, 64, 65, 66, 67, 68, 69, 70, 71, 72, 73, 74, 75] (by decide +kernel) (by decide +kernel)
set_option maxRecDepth 20000 in
theorem gX0_doSteps_X0_take : GoodIn wsX0_doSteps (wsV RX0 55 RX0 yX0_take wsX0_take) := goodIn_app (goodIn_of _ (by decide +kernel)) ggX0_doSteps_X0_take
theorem dX0_doSteps_0 : decode cX0_doSteps 0 = .ok (.iconst 0, 1) := by decide +kernel
theorem dX0_doSteps_1 : decode cX0_doSteps 1 = .ok (.istore_n 3, 1) := by decide +kernel
theorem dX0_doSteps_2 : decode cX0_doSteps 2 = .ok (.iload_n 3, 1) := by decide +kernel
theorem dX0_doSteps_3 : decode cX0_doSteps 3 = .ok (.iload_n 1, 1) := by decide +kernel
theorem dX0_doSteps_4 : decode cX0_doSteps 4 = .ok (.if_icmp .ge 28, 3) := by decide +kernel
theorem dX0_doSteps_7 : decode cX0_doSteps 7 = .ok (.aload_n 0, 1) := by decide +kernel
theorem dX0_doSteps_8 : decode cX0_doSteps 8 = .ok (.iload_n 1, 1) := by decide +kernel
theorem dX0_doSteps_9 : decode cX0_doSteps 9 = .ok (.iload_n 3, 1) := by decide +kernel
theorem dX0_doSteps_10 : decode cX0_doSteps 10 = .ok (.isub, 1) := by decide +kernel
theorem dX0_doSteps_11 : decode cX0_doSteps 11 = .ok (.aload_n 2, 1) := by decide +kernel
theorem dX0_doSteps_12 : decode cX0_doSteps 12 = .ok (.invokevirtual 55, 3) := by decide +kernel
theorem dX0_doSteps_15 : decode cX0_doSteps 15 = .ok (.istore 4, 2) := by decide +kernel
theorem dX0_doSteps_17 : decode cX0_doSteps 17 = .ok (.iload 4, 2) := by decide +kernel
theorem dX0_doSteps_19 : decode cX0_doSteps 19 = .ok (.ifCond .gt 5, 3) := by decide +kernel
theorem dX0_doSteps_22 : decode cX0_doSteps 22 = .ok (.iload_n 3, 1) := by decide +kernel
theorem dX0_doSteps_23 : decode cX0_doSteps 23 = .ok (.ireturn, 1) := by decide +kernel
theorem dX0_doSteps_24 : decode cX0_doSteps 24 = .ok (.iload_n 3, 1) := by decide +kernel
theorem dX0_doSteps_25 : decode cX0_doSteps 25 = .ok (.iload 4, 2) := by decide +kernel
theorem dX0_doSteps_27 : decode cX0_doSteps 27 = .ok (.iadd, 1) := by decide +kernel
theorem dX0_doSteps_28 : decode cX0_doSteps 28 = .ok (.istore_n 3, 1) := by decide +kernel
theorem dX0_doSteps_29 : decode cX0_doSteps 29 = .ok (.goto (-27), 3) := by decide +kernel
theorem dX0_doSteps_32 : decode cX0_doSteps 32 = .ok (.iload_n 3, 1) := by decide +kernel
theorem dX0_doSteps_33 : decode cX0_doSteps 33 = .ok (.ireturn, 1) := by decide +kernel
set_option maxRecDepth 20000 in
theorem ggX0_take_X0_isStill : GoodIn wsX0_take wsX0_isStill := goodIn_r _ [10, 11, 1, 12, 13, 14, 15, 16, 17, 18, 19, 20, 21, 22, 23, 24, 25, 26, 27, 28, 29, 30, 31, 32, 65, 66, 67, 68, 69, 70, 71] (by decide +kernel) (by decide +kernel)
set_option maxRecDepth 20000 in
theorem gX0_take_X0_isStill : GoodIn wsX0_take (wsV RX0 59 RX0 yX0_isStill wsX0_isStill) := goodIn_app (goodIn_of _ (by decide +kernel)) ggX0_take_X0_isStill
set_option maxRecDepth 20000 in
theorem ggX0_take_X0_gone : GoodIn wsX0_take wsX0_gone := goodIn_r _ [36, 11, 65, 66] (by decide +kernel) (by decide +kernel)
set_option maxRecDepth 20000 in
theorem gX0_take_X0_gone : GoodIn wsX0_take (wsV RX0 32 RX0 yX0_gone wsX0_gone) := goodIn_app (goodIn_of _ (by decide +kernel)) ggX0_take_X0_gone
set_option maxRecDepth 20000 in
theorem ggX0_take_X2_get : GoodIn wsX0_take wsX2_get := goodIn_r _ [16, 17, 18, 19, 20, 21, 22, 23, 24, 25, 15, 26, 67, 68, 69] (by decide +kernel) (by decide +kernel)
set_option maxRecDepth 20000 in
theorem gX0_take_X2_get : GoodIn wsX0_take (wsV RX0 42 RX2 yX2_get wsX2_get) := goodIn_app (goodIn_of _ (by decide +kernel)) ggX0_take_X2_get
set_option maxRecDepth 20000 in
theorem ggX0_take_X0_takeOne : GoodIn wsX0_take wsX0_takeOne := goodIn_r _ [40, 11, 41, 1, 42, 43, 44, 9, 45, 33, 34, 35, 36, 27, 28, 29, 30, 31, 32, 20, 21, 22, 46, 47, 48, 49, 50, 51, 52, 53, 54, 15, 55, 17, 18, 19, 23, 24, 25, 26, 56, 57, 58, 59, 60, 61, 62, 63, 64, 3, 4, 5, 65, 66, 67, 68, 69, 70, 71] (by decide +kernel) (by decide +kernel)
set_option maxRecDepth 20000 in
theorem gX0_take_X0_takeOne : GoodIn wsX0_take (wsV RX0 63 RX0 yX0_takeOne wsX0_takeOne) := goodIn_app (goodIn_of _ (by decide +kernel)) ggX0_take_X0_takeOne
set_option maxRecDepth 20000 in
theorem ggX0_take_X0_pass : GoodIn wsX0_take wsX0_pass := goodIn_r _ [59, 11, 1, 33, 34, 35, 9, 36, 60, 61, 62, 15, 63, 17, 64, 3, 4, 5, 19, 23, 24, 25, 26, 18, 65, 66, 67, 68, 69] (by decide +kernel) (by decide +kernel)
set_option maxRecDepth 20000 in
theorem gX0_take_X0_pass : GoodIn wsX0_take (wsV RX0 73 RX0 yX0_pass wsX0_pass) := goodIn_app (goodIn_of _ (by decide +kernel)) ggX0_take_X0_pass
theorem dX0_take_0 : decode cX0_take 0 = .ok (.aload_n 0, 1) := by decide +kernel
theorem dX0_take_1 : decode cX0_take 1 = .ok (.aload_n 2, 1) := by decide +kernel
theorem dX0_take_2 : decode cX0_take 2 = .ok (.invokevirtual 59, 3) := by decide +kernel
theorem dX0_take_5 : decode cX0_take 5 = .ok (.ifCond .eq 5, 3) := by decide +kernel
theorem dX0_take_8 : decode cX0_take 8 = .ok (.iconst 0, 1) := by decide +kernel
theorem dX0_take_9 : decode cX0_take 9 = .ok (.ireturn, 1) := by decide +kernel
theorem dX0_take_10 : decode cX0_take 10 = .ok (.aload_n 0, 1) := by decide +kernel
theorem dX0_take_11 : decode cX0_take 11 = .ok (.invokevirtual 32, 3) := by decide +kernel
theorem dX0_take_14 : decode cX0_take 14 = .ok (.istore_n 3, 1) := by decide +kernel
theorem dX0_take_15 : decode cX0_take 15 = .ok (.aload_n 0, 1) := by decide +kernel
theorem dX0_take_16 : decode cX0_take 16 = .ok (.getfield 14, 3) := by decide +kernel
theorem dX0_take_19 : decode cX0_take 19 = .ok (.iconst 0, 1) := by decide +kernel
theorem dX0_take_20 : decode cX0_take 20 = .ok (.invokevirtual 42, 3) := by decide +kernel
theorem dX0_take_23 : decode cX0_take 23 = .ok (.istore 4, 2) := by decide +kernel
theorem dX0_take_25 : decode cX0_take 25 = .ok (.iload_n 3, 1) := by decide +kernel
theorem dX0_take_26 : decode cX0_take 26 = .ok (.iload 4, 2) := by decide +kernel
theorem dX0_take_28 : decode cX0_take 28 = .ok (.if_icmp .ne 9, 3) := by decide +kernel
theorem dX0_take_31 : decode cX0_take 31 = .ok (.aload_n 0, 1) := by decide +kernel
theorem dX0_take_32 : decode cX0_take 32 = .ok (.aload_n 2, 1) := by decide +kernel
theorem dX0_take_33 : decode cX0_take 33 = .ok (.invokevirtual 63, 3) := by decide +kernel
theorem dX0_take_36 : decode cX0_take 36 = .ok (.ireturn, 1) := by decide +kernel
theorem dX0_take_37 : decode cX0_take 37 = .ok (.iload_n 3, 1) := by decide +kernel
theorem dX0_take_38 : decode cX0_take 38 = .ok (.iload 4, 2) := by decide +kernel
theorem dX0_take_40 : decode cX0_take 40 = .ok (.if_icmp .ge 10, 3) := by decide +kernel
theorem dX0_take_43 : decode cX0_take 43 = .ok (.iload 4, 2) := by decide +kernel
theorem dX0_take_45 : decode cX0_take 45 = .ok (.iload_n 3, 1) := by decide +kernel
theorem dX0_take_46 : decode cX0_take 46 = .ok (.isub, 1) := by decide +kernel
theorem dX0_take_47 : decode cX0_take 47 = .ok (.goto 7, 3) := by decide +kernel
theorem dX0_take_50 : decode cX0_take 50 = .ok (.bipush 121, 2) := by decide +kernel
theorem dX0_take_52 : decode cX0_take 52 = .ok (.iload_n 3, 1) := by decide +kernel
theorem dX0_take_53 : decode cX0_take 53 = .ok (.isub, 1) := by decide +kernel
theorem dX0_take_54 : decode cX0_take 54 = .ok (.istore 5, 2) := by decide +kernel
theorem dX0_take_56 : decode cX0_take 56 = .ok (.iload 5, 2) := by decide +kernel
theorem dX0_take_58 : decode cX0_take 58 = .ok (.iload_n 1, 1) := by decide +kernel
theorem dX0_take_59 : decode cX0_take 59 = .ok (.invokestatic 67, 3) := by decide +kernel
theorem dX0_take_62 : decode cX0_take 62 = .ok (.istore 6, 2) := by decide +kernel
theorem dX0_take_64 : decode cX0_take 64 = .ok (.aload_n 0, 1) := by decide +kernel
theorem dX0_take_65 : decode cX0_take 65 = .ok (.iload 6, 2) := by decide +kernel
theorem dX0_take_67 : decode cX0_take 67 = .ok (.invokevirtual 73, 3) := by decide +kernel
theorem dX0_take_70 : decode cX0_take 70 = .ok (.iload 6, 2) := by decide +kernel
theorem dX0_take_72 : decode cX0_take 72 = .ok (.ireturn, 1) := by decide +kernel
set_option maxRecDepth 20000 in
theorem ggX0_takeOne_X0_size : GoodIn wsX0_takeOne wsX0_size := goodIn_r _ [8, 3, 9, 10, 11, 7, 12, 1, 52, 53, 54, 55, 56] (by decide +kernel) (by decide +kernel)
set_option maxRecDepth 20000 in
theorem gX0_takeOne_X0_size : GoodIn wsX0_takeOne (wsV RX0 36 RX0 yX0_size wsX0_size) := goodIn_app (goodIn_of _ (by decide +kernel)) ggX0_takeOne_X0_size
set_option maxRecDepth 20000 in
theorem ggX0_takeOne_X4_sizeOf : GoodIn wsX0_takeOne wsX4_sizeOf := goodIn_r _ [17, 18, 19, 20, 21, 57, 58] (by decide +kernel) (by decide +kernel)
set_option maxRecDepth 20000 in
theorem gX0_takeOne_X4_sizeOf : GoodIn wsX0_takeOne (wsV RX0 50 RX4 yX4_sizeOf wsX4_sizeOf) := goodIn_app (goodIn_of _ (by decide +kernel)) ggX0_takeOne_X4_sizeOf
set_option maxRecDepth 20000 in
theorem ggX0_takeOne_X4_appendTo : GoodIn wsX0_takeOne wsX4_appendTo := goodIn_r _ [25, 26, 27, 14, 15, 16, 17, 18, 19, 20, 21, 28, 29, 30, 31, 32, 33, 34, 35, 36, 37, 38, 39, 57, 58, 54, 55, 56] (by decide +kernel) (by decide +kernel)
set_option maxRecDepth 20000 in
theorem gX0_takeOne_X4_appendTo : GoodIn wsX0_takeOne (wsV RX0 76 RX4 yX4_appendTo wsX4_appendTo) := goodIn_app (goodIn_of _ (by decide +kernel)) ggX0_takeOne_X4_appendTo
set_option maxRecDepth 20000 in
theorem ggX0_takeOne_X0_pass : GoodIn wsX0_takeOne wsX0_pass := goodIn_r _ [43, 1, 3, 9, 10, 11, 7, 12, 44, 45, 46, 31, 47, 33, 48, 49, 50, 51, 35, 36, 37, 38, 39, 34, 52, 53, 54, 55, 56] (by decide +kernel) (by decide +kernel)
set_option maxRecDepth 20000 in
theorem gX0_takeOne_X0_pass : GoodIn wsX0_takeOne (wsV RX0 73 RX0 yX0_pass wsX0_pass) := goodIn_app (goodIn_of _ (by decide +kernel)) ggX0_takeOne_X0_pass
theorem dX0_takeOne_0 : decode cX0_takeOne 0 = .ok (.aload_n 0, 1) := by decide +kernel
theorem dX0_takeOne_1 : decode cX0_takeOne 1 = .ok (.invokevirtual 36, 3) := by decide +kernel
theorem dX0_takeOne_4 : decode cX0_takeOne 4 = .ok (.iconst 1, 1) := by decide +kernel
theorem dX0_takeOne_5 : decode cX0_takeOne 5 = .ok (.isub, 1) := by decide +kernel
theorem dX0_takeOne_6 : decode cX0_takeOne 6 = .ok (.aload_n 1, 1) := by decide +kernel
theorem dX0_takeOne_7 : decode cX0_takeOne 7 = .ok (.aload_n 0, 1) := by decide +kernel
theorem dX0_takeOne_8 : decode cX0_takeOne 8 = .ok (.getfield 29, 3) := by decide +kernel
theorem dX0_takeOne_11 : decode cX0_takeOne 11 = .ok (.invokevirtual 50, 3) := by decide +kernel
theorem dX0_takeOne_14 : decode cX0_takeOne 14 = .ok (.bipush 121, 2) := by decide +kernel
theorem dX0_takeOne_16 : decode cX0_takeOne 16 = .ok (.imul, 1) := by decide +kernel
theorem dX0_takeOne_17 : decode cX0_takeOne 17 = .ok (.iadd, 1) := by decide +kernel
theorem dX0_takeOne_18 : decode cX0_takeOne 18 = .ok (.ldc 24, 2) := by decide +kernel
theorem dX0_takeOne_20 : decode cX0_takeOne 20 = .ok (.if_icmp .le 5, 3) := by decide +kernel
theorem dX0_takeOne_23 : decode cX0_takeOne 23 = .ok (.iconst 0, 1) := by decide +kernel
theorem dX0_takeOne_24 : decode cX0_takeOne 24 = .ok (.ireturn, 1) := by decide +kernel
theorem dX0_takeOne_25 : decode cX0_takeOne 25 = .ok (.aload_n 1, 1) := by decide +kernel
theorem dX0_takeOne_26 : decode cX0_takeOne 26 = .ok (.aload_n 0, 1) := by decide +kernel
theorem dX0_takeOne_27 : decode cX0_takeOne 27 = .ok (.getfield 14, 3) := by decide +kernel
theorem dX0_takeOne_30 : decode cX0_takeOne 30 = .ok (.aload_n 0, 1) := by decide +kernel
theorem dX0_takeOne_31 : decode cX0_takeOne 31 = .ok (.getfield 29, 3) := by decide +kernel
theorem dX0_takeOne_34 : decode cX0_takeOne 34 = .ok (.invokevirtual 76, 3) := by decide +kernel
theorem dX0_takeOne_37 : decode cX0_takeOne 37 = .ok (.aload_n 0, 1) := by decide +kernel
theorem dX0_takeOne_38 : decode cX0_takeOne 38 = .ok (.iconst 1, 1) := by decide +kernel
theorem dX0_takeOne_39 : decode cX0_takeOne 39 = .ok (.invokevirtual 73, 3) := by decide +kernel
theorem dX0_takeOne_42 : decode cX0_takeOne 42 = .ok (.iconst 1, 1) := by decide +kernel
theorem dX0_takeOne_43 : decode cX0_takeOne 43 = .ok (.ireturn, 1) := by decide +kernel
set_option maxRecDepth 20000 in
theorem ggX0_pass_X0_gone : GoodIn wsX0_pass wsX0_gone := goodIn_r _ [7, 1, 24, 25] (by decide +kernel) (by decide +kernel)
set_option maxRecDepth 20000 in
theorem gX0_pass_X0_gone : GoodIn wsX0_pass (wsV RX0 32 RX0 yX0_gone wsX0_gone) := goodIn_app (goodIn_of _ (by decide +kernel)) ggX0_pass_X0_gone
set_option maxRecDepth 20000 in
theorem ggX0_pass_X2_drop : GoodIn wsX0_pass wsX2_drop := goodIn_r _ [12, 13, 14, 15, 16, 17, 18, 19, 20, 21, 11, 22, 23, 26, 27, 28] (by decide +kernel) (by decide +kernel)
set_option maxRecDepth 20000 in
theorem gX0_pass_X2_drop : GoodIn wsX0_pass (wsV RX0 80 RX2 yX2_drop wsX2_drop) := goodIn_app (goodIn_of _ (by decide +kernel)) ggX0_pass_X2_drop
theorem dX0_pass_0 : decode cX0_pass 0 = .ok (.aload_n 0, 1) := by decide +kernel
theorem dX0_pass_1 : decode cX0_pass 1 = .ok (.dup, 1) := by decide +kernel
theorem dX0_pass_2 : decode cX0_pass 2 = .ok (.getfield 29, 3) := by decide +kernel
theorem dX0_pass_5 : decode cX0_pass 5 = .ok (.iload_n 1, 1) := by decide +kernel
theorem dX0_pass_6 : decode cX0_pass 6 = .ok (.iadd, 1) := by decide +kernel
theorem dX0_pass_7 : decode cX0_pass 7 = .ok (.putfield 29, 3) := by decide +kernel
theorem dX0_pass_10 : decode cX0_pass 10 = .ok (.aload_n 0, 1) := by decide +kernel
theorem dX0_pass_11 : decode cX0_pass 11 = .ok (.invokevirtual 32, 3) := by decide +kernel
theorem dX0_pass_14 : decode cX0_pass 14 = .ok (.ifCond .ne 11, 3) := by decide +kernel
theorem dX0_pass_17 : decode cX0_pass 17 = .ok (.aload_n 0, 1) := by decide +kernel
theorem dX0_pass_18 : decode cX0_pass 18 = .ok (.getfield 14, 3) := by decide +kernel
theorem dX0_pass_21 : decode cX0_pass 21 = .ok (.iconst 1, 1) := by decide +kernel
theorem dX0_pass_22 : decode cX0_pass 22 = .ok (.invokevirtual 80, 3) := by decide +kernel
theorem dX0_pass_25 : decode cX0_pass 25 = .ok (.aload_n 0, 1) := by decide +kernel
theorem dX0_pass_26 : decode cX0_pass 26 = .ok (.getfield 29, 3) := by decide +kernel
theorem dX0_pass_29 : decode cX0_pass 29 = .ok (.sipush 242, 3) := by decide +kernel
theorem dX0_pass_32 : decode cX0_pass 32 = .ok (.if_icmp .lt 8, 3) := by decide +kernel
theorem dX0_pass_35 : decode cX0_pass 35 = .ok (.aload_n 0, 1) := by decide +kernel
theorem dX0_pass_36 : decode cX0_pass 36 = .ok (.iconst 0, 1) := by decide +kernel
theorem dX0_pass_37 : decode cX0_pass 37 = .ok (.putfield 29, 3) := by decide +kernel
theorem dX0_pass_40 : decode cX0_pass 40 = .ok (.return_, 1) := by decide +kernel
theorem dX1_init_0 : decode cX1_init 0 = .ok (.aload_n 0, 1) := by decide +kernel
theorem dX1_init_1 : decode cX1_init 1 = .ok (.invokespecial 3, 3) := by decide +kernel
theorem dX1_init_4 : decode cX1_init 4 = .ok (.aload_n 0, 1) := by decide +kernel
theorem dX1_init_5 : decode cX1_init 5 = .ok (.iconst 4, 1) := by decide +kernel
theorem dX1_init_6 : decode cX1_init 6 = .ok (.newarray .int, 2) := by decide +kernel
theorem dX1_init_8 : decode cX1_init 8 = .ok (.putfield 9, 3) := by decide +kernel
theorem dX1_init_11 : decode cX1_init 11 = .ok (.aload_n 0, 1) := by decide +kernel
theorem dX1_init_12 : decode cX1_init 12 = .ok (.bipush 24, 2) := by decide +kernel
theorem dX1_init_14 : decode cX1_init 14 = .ok (.newarray .int, 2) := by decide +kernel
theorem dX1_init_16 : decode cX1_init 16 = .ok (.putfield 15, 3) := by decide +kernel
theorem dX1_init_19 : decode cX1_init 19 = .ok (.aload_n 0, 1) := by decide +kernel
theorem dX1_init_20 : decode cX1_init 20 = .ok (.bipush 24, 2) := by decide +kernel
theorem dX1_init_22 : decode cX1_init 22 = .ok (.newarray .int, 2) := by decide +kernel
theorem dX1_init_24 : decode cX1_init 24 = .ok (.putfield 18, 3) := by decide +kernel
theorem dX1_init_27 : decode cX1_init 27 = .ok (.aload_n 0, 1) := by decide +kernel
theorem dX1_init_28 : decode cX1_init 28 = .ok (.bipush 24, 2) := by decide +kernel
theorem dX1_init_30 : decode cX1_init 30 = .ok (.newarray .int, 2) := by decide +kernel
theorem dX1_init_32 : decode cX1_init 32 = .ok (.putfield 21, 3) := by decide +kernel
theorem dX1_init_35 : decode cX1_init 35 = .ok (.aload_n 0, 1) := by decide +kernel
theorem dX1_init_36 : decode cX1_init 36 = .ok (.bipush 24, 2) := by decide +kernel
theorem dX1_init_38 : decode cX1_init 38 = .ok (.newarray .int, 2) := by decide +kernel
theorem dX1_init_40 : decode cX1_init 40 = .ok (.putfield 24, 3) := by decide +kernel
theorem dX1_init_43 : decode cX1_init 43 = .ok (.return_, 1) := by decide +kernel
theorem dX1_addLine_0 : decode cX1_addLine 0 = .ok (.aload_n 0, 1) := by decide +kernel
theorem dX1_addLine_1 : decode cX1_addLine 1 = .ok (.getfield 27, 3) := by decide +kernel
theorem dX1_addLine_4 : decode cX1_addLine 4 = .ok (.bipush 24, 2) := by decide +kernel
theorem dX1_addLine_6 : decode cX1_addLine 6 = .ok (.if_icmp .lt 6, 3) := by decide +kernel
theorem dX1_addLine_9 : decode cX1_addLine 9 = .ok (.bipush (-3), 2) := by decide +kernel
theorem dX1_addLine_11 : decode cX1_addLine 11 = .ok (.ireturn, 1) := by decide +kernel
theorem dX1_addLine_12 : decode cX1_addLine 12 = .ok (.aload_n 0, 1) := by decide +kernel
theorem dX1_addLine_13 : decode cX1_addLine 13 = .ok (.getfield 15, 3) := by decide +kernel
theorem dX1_addLine_16 : decode cX1_addLine 16 = .ok (.aload_n 0, 1) := by decide +kernel
theorem dX1_addLine_17 : decode cX1_addLine 17 = .ok (.getfield 27, 3) := by decide +kernel
theorem dX1_addLine_20 : decode cX1_addLine 20 = .ok (.iload_n 1, 1) := by decide +kernel
theorem dX1_addLine_21 : decode cX1_addLine 21 = .ok (.iastore, 1) := by decide +kernel
theorem dX1_addLine_22 : decode cX1_addLine 22 = .ok (.aload_n 0, 1) := by decide +kernel
theorem dX1_addLine_23 : decode cX1_addLine 23 = .ok (.getfield 18, 3) := by decide +kernel
theorem dX1_addLine_26 : decode cX1_addLine 26 = .ok (.aload_n 0, 1) := by decide +kernel
theorem dX1_addLine_27 : decode cX1_addLine 27 = .ok (.getfield 27, 3) := by decide +kernel
theorem dX1_addLine_30 : decode cX1_addLine 30 = .ok (.iload_n 2, 1) := by decide +kernel
theorem dX1_addLine_31 : decode cX1_addLine 31 = .ok (.iastore, 1) := by decide +kernel
theorem dX1_addLine_32 : decode cX1_addLine 32 = .ok (.aload_n 0, 1) := by decide +kernel
theorem dX1_addLine_33 : decode cX1_addLine 33 = .ok (.getfield 21, 3) := by decide +kernel
theorem dX1_addLine_36 : decode cX1_addLine 36 = .ok (.aload_n 0, 1) := by decide +kernel
theorem dX1_addLine_37 : decode cX1_addLine 37 = .ok (.getfield 27, 3) := by decide +kernel
theorem dX1_addLine_40 : decode cX1_addLine 40 = .ok (.iload_n 3, 1) := by decide +kernel
theorem dX1_addLine_41 : decode cX1_addLine 41 = .ok (.iastore, 1) := by decide +kernel
theorem dX1_addLine_42 : decode cX1_addLine 42 = .ok (.aload_n 0, 1) := by decide +kernel
theorem dX1_addLine_43 : decode cX1_addLine 43 = .ok (.getfield 24, 3) := by decide +kernel
theorem dX1_addLine_46 : decode cX1_addLine 46 = .ok (.aload_n 0, 1) := by decide +kernel
theorem dX1_addLine_47 : decode cX1_addLine 47 = .ok (.getfield 27, 3) := by decide +kernel
theorem dX1_addLine_50 : decode cX1_addLine 50 = .ok (.iload 4, 2) := by decide +kernel
theorem dX1_addLine_52 : decode cX1_addLine 52 = .ok (.iastore, 1) := by decide +kernel
theorem dX1_addLine_53 : decode cX1_addLine 53 = .ok (.aload_n 0, 1) := by decide +kernel
theorem dX1_addLine_54 : decode cX1_addLine 54 = .ok (.dup, 1) := by decide +kernel
theorem dX1_addLine_55 : decode cX1_addLine 55 = .ok (.getfield 27, 3) := by decide +kernel
theorem dX1_addLine_58 : decode cX1_addLine 58 = .ok (.iconst 1, 1) := by decide +kernel
theorem dX1_addLine_59 : decode cX1_addLine 59 = .ok (.iadd, 1) := by decide +kernel
theorem dX1_addLine_60 : decode cX1_addLine 60 = .ok (.putfield 27, 3) := by decide +kernel
theorem dX1_addLine_63 : decode cX1_addLine 63 = .ok (.aload_n 0, 1) := by decide +kernel
theorem dX1_addLine_64 : decode cX1_addLine 64 = .ok (.getfield 27, 3) := by decide +kernel
theorem dX1_addLine_67 : decode cX1_addLine 67 = .ok (.ireturn, 1) := by decide +kernel
theorem dX1_forgetLines_0 : decode cX1_forgetLines 0 = .ok (.aload_n 0, 1) := by decide +kernel
theorem dX1_forgetLines_1 : decode cX1_forgetLines 1 = .ok (.getfield 27, 3) := by decide +kernel
theorem dX1_forgetLines_4 : decode cX1_forgetLines 4 = .ok (.istore_n 1, 1) := by decide +kernel
theorem dX1_forgetLines_5 : decode cX1_forgetLines 5 = .ok (.aload_n 0, 1) := by decide +kernel
theorem dX1_forgetLines_6 : decode cX1_forgetLines 6 = .ok (.iconst 0, 1) := by decide +kernel
theorem dX1_forgetLines_7 : decode cX1_forgetLines 7 = .ok (.putfield 27, 3) := by decide +kernel
theorem dX1_forgetLines_10 : decode cX1_forgetLines 10 = .ok (.aload_n 0, 1) := by decide +kernel
theorem dX1_forgetLines_11 : decode cX1_forgetLines 11 = .ok (.iconst 0, 1) := by decide +kernel
theorem dX1_forgetLines_12 : decode cX1_forgetLines 12 = .ok (.putfield 31, 3) := by decide +kernel
theorem dX1_forgetLines_15 : decode cX1_forgetLines 15 = .ok (.iload_n 1, 1) := by decide +kernel
theorem dX1_forgetLines_16 : decode cX1_forgetLines 16 = .ok (.ireturn, 1) := by decide +kernel
theorem dX1_value_0 : decode cX1_value 0 = .ok (.aload_n 0, 1) := by decide +kernel
theorem dX1_value_1 : decode cX1_value 1 = .ok (.getfield 9, 3) := by decide +kernel
theorem dX1_value_4 : decode cX1_value 4 = .ok (.iload_n 1, 1) := by decide +kernel
theorem dX1_value_5 : decode cX1_value 5 = .ok (.iaload, 1) := by decide +kernel
theorem dX1_value_6 : decode cX1_value 6 = .ok (.ireturn, 1) := by decide +kernel
theorem dX1_putValue_0 : decode cX1_putValue 0 = .ok (.aload_n 0, 1) := by decide +kernel
theorem dX1_putValue_1 : decode cX1_putValue 1 = .ok (.getfield 9, 3) := by decide +kernel
theorem dX1_putValue_4 : decode cX1_putValue 4 = .ok (.iload_n 1, 1) := by decide +kernel
theorem dX1_putValue_5 : decode cX1_putValue 5 = .ok (.iaload, 1) := by decide +kernel
theorem dX1_putValue_6 : decode cX1_putValue 6 = .ok (.istore_n 3, 1) := by decide +kernel
theorem dX1_putValue_7 : decode cX1_putValue 7 = .ok (.aload_n 0, 1) := by decide +kernel
theorem dX1_putValue_8 : decode cX1_putValue 8 = .ok (.getfield 9, 3) := by decide +kernel
theorem dX1_putValue_11 : decode cX1_putValue 11 = .ok (.iload_n 1, 1) := by decide +kernel
theorem dX1_putValue_12 : decode cX1_putValue 12 = .ok (.iload_n 2, 1) := by decide +kernel
theorem dX1_putValue_13 : decode cX1_putValue 13 = .ok (.iastore, 1) := by decide +kernel
theorem dX1_putValue_14 : decode cX1_putValue 14 = .ok (.iload_n 3, 1) := by decide +kernel
theorem dX1_putValue_15 : decode cX1_putValue 15 = .ok (.ireturn, 1) := by decide +kernel
theorem dX1_lineNow_0 : decode cX1_lineNow 0 = .ok (.aload_n 0, 1) := by decide +kernel
theorem dX1_lineNow_1 : decode cX1_lineNow 1 = .ok (.getfield 31, 3) := by decide +kernel
theorem dX1_lineNow_4 : decode cX1_lineNow 4 = .ok (.ireturn, 1) := by decide +kernel
theorem dX1_jump_0 : decode cX1_jump 0 = .ok (.aload_n 0, 1) := by decide +kernel
theorem dX1_jump_1 : decode cX1_jump 1 = .ok (.getfield 31, 3) := by decide +kernel
theorem dX1_jump_4 : decode cX1_jump 4 = .ok (.istore_n 2, 1) := by decide +kernel
theorem dX1_jump_5 : decode cX1_jump 5 = .ok (.aload_n 0, 1) := by decide +kernel
theorem dX1_jump_6 : decode cX1_jump 6 = .ok (.iload_n 1, 1) := by decide +kernel
theorem dX1_jump_7 : decode cX1_jump 7 = .ok (.putfield 31, 3) := by decide +kernel
theorem dX1_jump_10 : decode cX1_jump 10 = .ok (.iload_n 2, 1) := by decide +kernel
theorem dX1_jump_11 : decode cX1_jump 11 = .ok (.ireturn, 1) := by decide +kernel
set_option maxRecDepth 20000 in
theorem ggX1_doLines_X1_doLine : GoodIn wsX1_doLines wsX1_doLine := goodIn_r _ [5, 6, 7, 8, 9, 10, 11, 12, 13, 14, 15, 4, 16, 17, 18, 19, 20, 21, 22, 23, 24, 25, 26, 27, 28, 29, 30] (by decide +kernel) (by decide +kernel)
set_option maxRecDepth 20000 in
theorem gX1_doLines_X1_doLine : GoodIn wsX1_doLines (wsV RX1 34 RX1 yX1_doLine wsX1_doLine) := goodIn_app (goodIn_of _ (by decide +kernel)) ggX1_doLines_X1_doLine
theorem dX1_doLines_0 : decode cX1_doLines 0 = .ok (.iconst 0, 1) := by decide +kernel
theorem dX1_doLines_1 : decode cX1_doLines 1 = .ok (.istore_n 2, 1) := by decide +kernel
theorem dX1_doLines_2 : decode cX1_doLines 2 = .ok (.iload_n 2, 1) := by decide +kernel
theorem dX1_doLines_3 : decode cX1_doLines 3 = .ok (.iload_n 1, 1) := by decide +kernel
theorem dX1_doLines_4 : decode cX1_doLines 4 = .ok (.if_icmp .ge 16, 3) := by decide +kernel
theorem dX1_doLines_7 : decode cX1_doLines 7 = .ok (.aload_n 0, 1) := by decide +kernel
theorem dX1_doLines_8 : decode cX1_doLines 8 = .ok (.invokevirtual 34, 3) := by decide +kernel
theorem dX1_doLines_11 : decode cX1_doLines 11 = .ok (.ifCond .eq 9, 3) := by decide +kernel
theorem dX1_doLines_14 : decode cX1_doLines 14 = .ok (.iinc 2 1, 3) := by decide +kernel
theorem dX1_doLines_17 : decode cX1_doLines 17 = .ok (.goto (-15), 3) := by decide +kernel
theorem dX1_doLines_20 : decode cX1_doLines 20 = .ok (.iload_n 2, 1) := by decide +kernel
theorem dX1_doLines_21 : decode cX1_doLines 21 = .ok (.ireturn, 1) := by decide +kernel
set_option maxRecDepth 20000 in
theorem ggX1_doLine_X6_outside : GoodIn wsX1_doLine wsX6_outside := goodIn_r _ [7] (by decide +kernel) (by decide +kernel)
set_option maxRecDepth 20000 in
theorem gX1_doLine_X6_outside_n38 : GoodIn wsX1_doLine (wsX6_outside) := ggX1_doLine_X6_outside
set_option maxRecDepth 20000 in
theorem ggX1_doLine_X1_countUp : GoodIn wsX1_doLine wsX1_countUp := goodIn_r _ [12, 13, 14, 1, 20, 21, 22, 23, 24, 25, 26] (by decide +kernel) (by decide +kernel)
set_option maxRecDepth 20000 in
theorem gX1_doLine_X1_countUp : GoodIn wsX1_doLine (wsV RX1 42 RX1 yX1_countUp wsX1_countUp) := goodIn_app (goodIn_of _ (by decide +kernel)) ggX1_doLine_X1_countUp
set_option maxRecDepth 20000 in
theorem ggX1_doLine_X1_countDown : GoodIn wsX1_doLine wsX1_countDown := goodIn_r _ [18, 13, 19, 1, 14, 20, 21, 22, 23, 24, 25, 26] (by decide +kernel) (by decide +kernel)
set_option maxRecDepth 20000 in
theorem gX1_doLine_X1_countDown : GoodIn wsX1_doLine (wsV RX1 46 RX1 yX1_countDown wsX1_countDown) := goodIn_app (goodIn_of _ (by decide +kernel)) ggX1_doLine_X1_countDown
theorem dX1_doLine_0 : decode cX1_doLine 0 = .ok (.aload_n 0, 1) := by decide +kernel
theorem dX1_doLine_1 : decode cX1_doLine 1 = .ok (.getfield 31, 3) := by decide +kernel
theorem dX1_doLine_4 : decode cX1_doLine 4 = .ok (.iconst 0, 1) := by decide +kernel
theorem dX1_doLine_5 : decode cX1_doLine 5 = .ok (.aload_n 0, 1) := by decide +kernel
theorem dX1_doLine_6 : decode cX1_doLine 6 = .ok (.getfield 27, 3) := by decide +kernel
theorem dX1_doLine_9 : decode cX1_doLine 9 = .ok (.iconst 1, 1) := by decide +kernel
theorem dX1_doLine_10 : decode cX1_doLine 10 = .ok (.isub, 1) := by decide +kernel
theorem dX1_doLine_11 : decode cX1_doLine 11 = .ok (.invokestatic 38, 3) := by decide +kernel
theorem dX1_doLine_14 : decode cX1_doLine 14 = .ok (.ifCond .eq 5, 3) := by decide +kernel
theorem dX1_doLine_17 : decode cX1_doLine 17 = .ok (.iconst 0, 1) := by decide +kernel
theorem dX1_doLine_18 : decode cX1_doLine 18 = .ok (.ireturn, 1) := by decide +kernel
theorem dX1_doLine_19 : decode cX1_doLine 19 = .ok (.aload_n 0, 1) := by decide +kernel
theorem dX1_doLine_20 : decode cX1_doLine 20 = .ok (.getfield 15, 3) := by decide +kernel
theorem dX1_doLine_23 : decode cX1_doLine 23 = .ok (.aload_n 0, 1) := by decide +kernel
theorem dX1_doLine_24 : decode cX1_doLine 24 = .ok (.getfield 31, 3) := by decide +kernel
theorem dX1_doLine_27 : decode cX1_doLine 27 = .ok (.iaload, 1) := by decide +kernel
theorem dX1_doLine_28 : decode cX1_doLine 28 = .ok (.lookupswitch 56 #[(0, 28), (1, 42)], 28) := by decide +kernel
theorem dX1_doLine_56 : decode cX1_doLine 56 = .ok (.aload_n 0, 1) := by decide +kernel
theorem dX1_doLine_57 : decode cX1_doLine 57 = .ok (.aload_n 0, 1) := by decide +kernel
theorem dX1_doLine_58 : decode cX1_doLine 58 = .ok (.getfield 18, 3) := by decide +kernel
theorem dX1_doLine_61 : decode cX1_doLine 61 = .ok (.aload_n 0, 1) := by decide +kernel
theorem dX1_doLine_62 : decode cX1_doLine 62 = .ok (.getfield 31, 3) := by decide +kernel
theorem dX1_doLine_65 : decode cX1_doLine 65 = .ok (.iaload, 1) := by decide +kernel
theorem dX1_doLine_66 : decode cX1_doLine 66 = .ok (.invokevirtual 42, 3) := by decide +kernel
theorem dX1_doLine_69 : decode cX1_doLine 69 = .ok (.ireturn, 1) := by decide +kernel
theorem dX1_doLine_70 : decode cX1_doLine 70 = .ok (.aload_n 0, 1) := by decide +kernel
theorem dX1_doLine_71 : decode cX1_doLine 71 = .ok (.aload_n 0, 1) := by decide +kernel
theorem dX1_doLine_72 : decode cX1_doLine 72 = .ok (.getfield 18, 3) := by decide +kernel
theorem dX1_doLine_75 : decode cX1_doLine 75 = .ok (.aload_n 0, 1) := by decide +kernel
theorem dX1_doLine_76 : decode cX1_doLine 76 = .ok (.getfield 31, 3) := by decide +kernel
theorem dX1_doLine_79 : decode cX1_doLine 79 = .ok (.iaload, 1) := by decide +kernel
theorem dX1_doLine_80 : decode cX1_doLine 80 = .ok (.invokevirtual 46, 3) := by decide +kernel
theorem dX1_doLine_83 : decode cX1_doLine 83 = .ok (.ireturn, 1) := by decide +kernel
theorem dX1_doLine_84 : decode cX1_doLine 84 = .ok (.iconst 0, 1) := by decide +kernel
theorem dX1_doLine_85 : decode cX1_doLine 85 = .ok (.ireturn, 1) := by decide +kernel
theorem dX1_countUp_0 : decode cX1_countUp 0 = .ok (.aload_n 0, 1) := by decide +kernel
theorem dX1_countUp_1 : decode cX1_countUp 1 = .ok (.getfield 9, 3) := by decide +kernel
theorem dX1_countUp_4 : decode cX1_countUp 4 = .ok (.iload_n 1, 1) := by decide +kernel
theorem dX1_countUp_5 : decode cX1_countUp 5 = .ok (.iaload, 1) := by decide +kernel
theorem dX1_countUp_6 : decode cX1_countUp 6 = .ok (.sipush 1000, 3) := by decide +kernel
theorem dX1_countUp_9 : decode cX1_countUp 9 = .ok (.if_icmp .lt 5, 3) := by decide +kernel
theorem dX1_countUp_12 : decode cX1_countUp 12 = .ok (.iconst 0, 1) := by decide +kernel
theorem dX1_countUp_13 : decode cX1_countUp 13 = .ok (.ireturn, 1) := by decide +kernel
theorem dX1_countUp_14 : decode cX1_countUp 14 = .ok (.aload_n 0, 1) := by decide +kernel
theorem dX1_countUp_15 : decode cX1_countUp 15 = .ok (.getfield 9, 3) := by decide +kernel
theorem dX1_countUp_18 : decode cX1_countUp 18 = .ok (.iload_n 1, 1) := by decide +kernel
theorem dX1_countUp_19 : decode cX1_countUp 19 = .ok (.dup2, 1) := by decide +kernel
theorem dX1_countUp_20 : decode cX1_countUp 20 = .ok (.iaload, 1) := by decide +kernel
theorem dX1_countUp_21 : decode cX1_countUp 21 = .ok (.iconst 1, 1) := by decide +kernel
theorem dX1_countUp_22 : decode cX1_countUp 22 = .ok (.iadd, 1) := by decide +kernel
theorem dX1_countUp_23 : decode cX1_countUp 23 = .ok (.iastore, 1) := by decide +kernel
theorem dX1_countUp_24 : decode cX1_countUp 24 = .ok (.aload_n 0, 1) := by decide +kernel
theorem dX1_countUp_25 : decode cX1_countUp 25 = .ok (.aload_n 0, 1) := by decide +kernel
theorem dX1_countUp_26 : decode cX1_countUp 26 = .ok (.getfield 21, 3) := by decide +kernel
theorem dX1_countUp_29 : decode cX1_countUp 29 = .ok (.aload_n 0, 1) := by decide +kernel
theorem dX1_countUp_30 : decode cX1_countUp 30 = .ok (.getfield 31, 3) := by decide +kernel
theorem dX1_countUp_33 : decode cX1_countUp 33 = .ok (.iaload, 1) := by decide +kernel
theorem dX1_countUp_34 : decode cX1_countUp 34 = .ok (.putfield 31, 3) := by decide +kernel
theorem dX1_countUp_37 : decode cX1_countUp 37 = .ok (.iconst 1, 1) := by decide +kernel
theorem dX1_countUp_38 : decode cX1_countUp 38 = .ok (.ireturn, 1) := by decide +kernel
theorem dX1_countDown_0 : decode cX1_countDown 0 = .ok (.aload_n 0, 1) := by decide +kernel
theorem dX1_countDown_1 : decode cX1_countDown 1 = .ok (.getfield 9, 3) := by decide +kernel
theorem dX1_countDown_4 : decode cX1_countDown 4 = .ok (.iload_n 1, 1) := by decide +kernel
theorem dX1_countDown_5 : decode cX1_countDown 5 = .ok (.iaload, 1) := by decide +kernel
theorem dX1_countDown_6 : decode cX1_countDown 6 = .ok (.ifCond .ne 19, 3) := by decide +kernel
theorem dX1_countDown_9 : decode cX1_countDown 9 = .ok (.aload_n 0, 1) := by decide +kernel
theorem dX1_countDown_10 : decode cX1_countDown 10 = .ok (.aload_n 0, 1) := by decide +kernel
theorem dX1_countDown_11 : decode cX1_countDown 11 = .ok (.getfield 24, 3) := by decide +kernel
theorem dX1_countDown_14 : decode cX1_countDown 14 = .ok (.aload_n 0, 1) := by decide +kernel
theorem dX1_countDown_15 : decode cX1_countDown 15 = .ok (.getfield 31, 3) := by decide +kernel
theorem dX1_countDown_18 : decode cX1_countDown 18 = .ok (.iaload, 1) := by decide +kernel
theorem dX1_countDown_19 : decode cX1_countDown 19 = .ok (.putfield 31, 3) := by decide +kernel
theorem dX1_countDown_22 : decode cX1_countDown 22 = .ok (.goto 26, 3) := by decide +kernel
theorem dX1_countDown_25 : decode cX1_countDown 25 = .ok (.aload_n 0, 1) := by decide +kernel
theorem dX1_countDown_26 : decode cX1_countDown 26 = .ok (.getfield 9, 3) := by decide +kernel
theorem dX1_countDown_29 : decode cX1_countDown 29 = .ok (.iload_n 1, 1) := by decide +kernel
theorem dX1_countDown_30 : decode cX1_countDown 30 = .ok (.dup2, 1) := by decide +kernel
theorem dX1_countDown_31 : decode cX1_countDown 31 = .ok (.iaload, 1) := by decide +kernel
theorem dX1_countDown_32 : decode cX1_countDown 32 = .ok (.iconst 1, 1) := by decide +kernel
theorem dX1_countDown_33 : decode cX1_countDown 33 = .ok (.isub, 1) := by decide +kernel
theorem dX1_countDown_34 : decode cX1_countDown 34 = .ok (.iastore, 1) := by decide +kernel
theorem dX1_countDown_35 : decode cX1_countDown 35 = .ok (.aload_n 0, 1) := by decide +kernel
theorem dX1_countDown_36 : decode cX1_countDown 36 = .ok (.aload_n 0, 1) := by decide +kernel
theorem dX1_countDown_37 : decode cX1_countDown 37 = .ok (.getfield 21, 3) := by decide +kernel
theorem dX1_countDown_40 : decode cX1_countDown 40 = .ok (.aload_n 0, 1) := by decide +kernel
theorem dX1_countDown_41 : decode cX1_countDown 41 = .ok (.getfield 31, 3) := by decide +kernel
theorem dX1_countDown_44 : decode cX1_countDown 44 = .ok (.iaload, 1) := by decide +kernel
theorem dX1_countDown_45 : decode cX1_countDown 45 = .ok (.putfield 31, 3) := by decide +kernel
theorem dX1_countDown_48 : decode cX1_countDown 48 = .ok (.iconst 1, 1) := by decide +kernel
theorem dX1_countDown_49 : decode cX1_countDown 49 = .ok (.ireturn, 1) := by decide +kernel
theorem dX2_init_0 : decode cX2_init 0 = .ok (.aload_n 0, 1) := by decide +kernel
theorem dX2_init_1 : decode cX2_init 1 = .ok (.invokespecial 3, 3) := by decide +kernel
theorem dX2_init_4 : decode cX2_init 4 = .ok (.aload_n 0, 1) := by decide +kernel
theorem dX2_init_5 : decode cX2_init 5 = .ok (.iload_n 1, 1) := by decide +kernel
theorem dX2_init_6 : decode cX2_init 6 = .ok (.iconst 0, 1) := by decide +kernel
theorem dX2_init_7 : decode cX2_init 7 = .ok (.invokestatic 9, 3) := by decide +kernel
theorem dX2_init_10 : decode cX2_init 10 = .ok (.newarray .int, 2) := by decide +kernel
theorem dX2_init_12 : decode cX2_init 12 = .ok (.putfield 15, 3) := by decide +kernel
theorem dX2_init_15 : decode cX2_init 15 = .ok (.return_, 1) := by decide +kernel
theorem dX2_empty_0 : decode cX2_empty 0 = .ok (.aload_n 0, 1) := by decide +kernel
theorem dX2_empty_1 : decode cX2_empty 1 = .ok (.iconst 0, 1) := by decide +kernel
theorem dX2_empty_2 : decode cX2_empty 2 = .ok (.putfield 21, 3) := by decide +kernel
theorem dX2_empty_5 : decode cX2_empty 5 = .ok (.aload_n 0, 1) := by decide +kernel
theorem dX2_empty_6 : decode cX2_empty 6 = .ok (.iconst 0, 1) := by decide +kernel
theorem dX2_empty_7 : decode cX2_empty 7 = .ok (.putfield 25, 3) := by decide +kernel
theorem dX2_empty_10 : decode cX2_empty 10 = .ok (.return_, 1) := by decide +kernel
set_option maxRecDepth 20000 in
theorem ggX2_get_X6_outside : GoodIn wsX2_get wsX6_outside := goodIn_r _ [6] (by decide +kernel) (by decide +kernel)
set_option maxRecDepth 20000 in
theorem gX2_get_X6_outside_n28 : GoodIn wsX2_get (wsX6_outside) := ggX2_get_X6_outside
set_option maxRecDepth 20000 in
theorem ggX2_get_X2_wrapped : GoodIn wsX2_get wsX2_wrapped := goodIn_r _ [11, 2, 12, 13, 14] (by decide +kernel) (by decide +kernel)
set_option maxRecDepth 20000 in
theorem gX2_get_X2_wrapped : GoodIn wsX2_get (wsV RX2 32 RX2 yX2_wrapped wsX2_wrapped) := goodIn_app (goodIn_of _ (by decide +kernel)) ggX2_get_X2_wrapped
theorem dX2_get_0 : decode cX2_get 0 = .ok (.iload_n 1, 1) := by decide +kernel
theorem dX2_get_1 : decode cX2_get 1 = .ok (.iconst 0, 1) := by decide +kernel
theorem dX2_get_2 : decode cX2_get 2 = .ok (.aload_n 0, 1) := by decide +kernel
theorem dX2_get_3 : decode cX2_get 3 = .ok (.getfield 25, 3) := by decide +kernel
theorem dX2_get_6 : decode cX2_get 6 = .ok (.iconst 1, 1) := by decide +kernel
theorem dX2_get_7 : decode cX2_get 7 = .ok (.isub, 1) := by decide +kernel
theorem dX2_get_8 : decode cX2_get 8 = .ok (.invokestatic 28, 3) := by decide +kernel
theorem dX2_get_11 : decode cX2_get 11 = .ok (.ifCond .eq 8, 3) := by decide +kernel
theorem dX2_get_14 : decode cX2_get 14 = .ok (.bipush (-9), 2) := by decide +kernel
theorem dX2_get_16 : decode cX2_get 16 = .ok (.goto 18, 3) := by decide +kernel
theorem dX2_get_19 : decode cX2_get 19 = .ok (.aload_n 0, 1) := by decide +kernel
theorem dX2_get_20 : decode cX2_get 20 = .ok (.getfield 15, 3) := by decide +kernel
theorem dX2_get_23 : decode cX2_get 23 = .ok (.aload_n 0, 1) := by decide +kernel
theorem dX2_get_24 : decode cX2_get 24 = .ok (.aload_n 0, 1) := by decide +kernel
theorem dX2_get_25 : decode cX2_get 25 = .ok (.getfield 21, 3) := by decide +kernel
theorem dX2_get_28 : decode cX2_get 28 = .ok (.iload_n 1, 1) := by decide +kernel
theorem dX2_get_29 : decode cX2_get 29 = .ok (.iadd, 1) := by decide +kernel
theorem dX2_get_30 : decode cX2_get 30 = .ok (.invokevirtual 32, 3) := by decide +kernel
theorem dX2_get_33 : decode cX2_get 33 = .ok (.iaload, 1) := by decide +kernel
theorem dX2_get_34 : decode cX2_get 34 = .ok (.ireturn, 1) := by decide +kernel
set_option maxRecDepth 20000 in
theorem ggX2_append_X2_wrapped : GoodIn wsX2_append wsX2_wrapped := goodIn_r _ [8, 2, 9, 10, 11] (by decide +kernel) (by decide +kernel)
set_option maxRecDepth 20000 in
theorem gX2_append_X2_wrapped : GoodIn wsX2_append (wsV RX2 32 RX2 yX2_wrapped wsX2_wrapped) := goodIn_app (goodIn_of _ (by decide +kernel)) ggX2_append_X2_wrapped
theorem dX2_append_0 : decode cX2_append 0 = .ok (.aload_n 0, 1) := by decide +kernel
theorem dX2_append_1 : decode cX2_append 1 = .ok (.getfield 25, 3) := by decide +kernel
theorem dX2_append_4 : decode cX2_append 4 = .ok (.aload_n 0, 1) := by decide +kernel
theorem dX2_append_5 : decode cX2_append 5 = .ok (.getfield 15, 3) := by decide +kernel
theorem dX2_append_8 : decode cX2_append 8 = .ok (.arraylength, 1) := by decide +kernel
theorem dX2_append_9 : decode cX2_append 9 = .ok (.if_icmp .ge 32, 3) := by decide +kernel
theorem dX2_append_12 : decode cX2_append 12 = .ok (.aload_n 0, 1) := by decide +kernel
theorem dX2_append_13 : decode cX2_append 13 = .ok (.getfield 15, 3) := by decide +kernel
theorem dX2_append_16 : decode cX2_append 16 = .ok (.aload_n 0, 1) := by decide +kernel
theorem dX2_append_17 : decode cX2_append 17 = .ok (.aload_n 0, 1) := by decide +kernel
theorem dX2_append_18 : decode cX2_append 18 = .ok (.getfield 21, 3) := by decide +kernel
theorem dX2_append_21 : decode cX2_append 21 = .ok (.aload_n 0, 1) := by decide +kernel
theorem dX2_append_22 : decode cX2_append 22 = .ok (.getfield 25, 3) := by decide +kernel
theorem dX2_append_25 : decode cX2_append 25 = .ok (.iadd, 1) := by decide +kernel
theorem dX2_append_26 : decode cX2_append 26 = .ok (.invokevirtual 32, 3) := by decide +kernel
theorem dX2_append_29 : decode cX2_append 29 = .ok (.iload_n 1, 1) := by decide +kernel
theorem dX2_append_30 : decode cX2_append 30 = .ok (.iastore, 1) := by decide +kernel
theorem dX2_append_31 : decode cX2_append 31 = .ok (.aload_n 0, 1) := by decide +kernel
theorem dX2_append_32 : decode cX2_append 32 = .ok (.dup, 1) := by decide +kernel
theorem dX2_append_33 : decode cX2_append 33 = .ok (.getfield 25, 3) := by decide +kernel
theorem dX2_append_36 : decode cX2_append 36 = .ok (.iconst 1, 1) := by decide +kernel
theorem dX2_append_37 : decode cX2_append 37 = .ok (.iadd, 1) := by decide +kernel
theorem dX2_append_38 : decode cX2_append 38 = .ok (.putfield 25, 3) := by decide +kernel
theorem dX2_append_41 : decode cX2_append 41 = .ok (.return_, 1) := by decide +kernel
set_option maxRecDepth 20000 in
theorem ggX2_drop_X2_wrapped : GoodIn wsX2_drop wsX2_wrapped := goodIn_r _ [11, 12, 13, 14, 15] (by decide +kernel) (by decide +kernel)
set_option maxRecDepth 20000 in
theorem gX2_drop_X2_wrapped : GoodIn wsX2_drop (wsV RX2 32 RX2 yX2_wrapped wsX2_wrapped) := goodIn_app (goodIn_of _ (by decide +kernel)) ggX2_drop_X2_wrapped
theorem dX2_drop_0 : decode cX2_drop 0 = .ok (.iload_n 1, 1) := by decide +kernel
theorem dX2_drop_1 : decode cX2_drop 1 = .ok (.aload_n 0, 1) := by decide +kernel
theorem dX2_drop_2 : decode cX2_drop 2 = .ok (.getfield 25, 3) := by decide +kernel
theorem dX2_drop_5 : decode cX2_drop 5 = .ok (.invokestatic 36, 3) := by decide +kernel
theorem dX2_drop_8 : decode cX2_drop 8 = .ok (.istore_n 2, 1) := by decide +kernel
theorem dX2_drop_9 : decode cX2_drop 9 = .ok (.aload_n 0, 1) := by decide +kernel
theorem dX2_drop_10 : decode cX2_drop 10 = .ok (.aload_n 0, 1) := by decide +kernel
theorem dX2_drop_11 : decode cX2_drop 11 = .ok (.aload_n 0, 1) := by decide +kernel
theorem dX2_drop_12 : decode cX2_drop 12 = .ok (.getfield 21, 3) := by decide +kernel
theorem dX2_drop_15 : decode cX2_drop 15 = .ok (.iload_n 2, 1) := by decide +kernel
theorem dX2_drop_16 : decode cX2_drop 16 = .ok (.iadd, 1) := by decide +kernel
theorem dX2_drop_17 : decode cX2_drop 17 = .ok (.invokevirtual 32, 3) := by decide +kernel
theorem dX2_drop_20 : decode cX2_drop 20 = .ok (.putfield 21, 3) := by decide +kernel
theorem dX2_drop_23 : decode cX2_drop 23 = .ok (.aload_n 0, 1) := by decide +kernel
theorem dX2_drop_24 : decode cX2_drop 24 = .ok (.dup, 1) := by decide +kernel
theorem dX2_drop_25 : decode cX2_drop 25 = .ok (.getfield 25, 3) := by decide +kernel
theorem dX2_drop_28 : decode cX2_drop 28 = .ok (.iload_n 2, 1) := by decide +kernel
theorem dX2_drop_29 : decode cX2_drop 29 = .ok (.isub, 1) := by decide +kernel
theorem dX2_drop_30 : decode cX2_drop 30 = .ok (.putfield 25, 3) := by decide +kernel
theorem dX2_drop_33 : decode cX2_drop 33 = .ok (.return_, 1) := by decide +kernel
set_option maxRecDepth 20000 in
theorem ggX2_become_X2_empty : GoodIn wsX2_become wsX2_empty := goodIn_r _ [6, 7, 1, 24, 25, 26] (by decide +kernel) (by decide +kernel)
set_option maxRecDepth 20000 in
theorem gX2_become_X2_empty : GoodIn wsX2_become (wsV RX2 39 RX2 yX2_empty wsX2_empty) := goodIn_app (goodIn_of _ (by decide +kernel)) ggX2_become_X2_empty
set_option maxRecDepth 20000 in
theorem ggX2_become_X2_get : GoodIn wsX2_become wsX2_get := goodIn_r _ [11, 1, 12, 7, 13, 14, 15, 16, 17, 18, 5, 19, 24, 25, 26] (by decide +kernel) (by decide +kernel)
set_option maxRecDepth 20000 in
theorem gX2_become_X2_get : GoodIn wsX2_become (wsV RX2 42 RX2 yX2_get wsX2_get) := goodIn_app (goodIn_of _ (by decide +kernel)) ggX2_become_X2_get
set_option maxRecDepth 20000 in
theorem ggX2_become_X2_append : GoodIn wsX2_become wsX2_append := goodIn_r _ [23, 1, 12, 7, 16, 17, 18, 5, 19, 24, 25, 26] (by decide +kernel) (by decide +kernel)
set_option maxRecDepth 20000 in
theorem gX2_become_X2_append : GoodIn wsX2_become (wsV RX2 45 RX2 yX2_append wsX2_append) := goodIn_app (goodIn_of _ (by decide +kernel)) ggX2_become_X2_append
theorem dX2_become_0 : decode cX2_become 0 = .ok (.aload_n 0, 1) := by decide +kernel
theorem dX2_become_1 : decode cX2_become 1 = .ok (.invokevirtual 39, 3) := by decide +kernel
theorem dX2_become_4 : decode cX2_become 4 = .ok (.iconst 0, 1) := by decide +kernel
theorem dX2_become_5 : decode cX2_become 5 = .ok (.istore_n 2, 1) := by decide +kernel
theorem dX2_become_6 : decode cX2_become 6 = .ok (.iload_n 2, 1) := by decide +kernel
theorem dX2_become_7 : decode cX2_become 7 = .ok (.aload_n 1, 1) := by decide +kernel
theorem dX2_become_8 : decode cX2_become 8 = .ok (.getfield 25, 3) := by decide +kernel
theorem dX2_become_11 : decode cX2_become 11 = .ok (.if_icmp .ge 18, 3) := by decide +kernel
theorem dX2_become_14 : decode cX2_become 14 = .ok (.aload_n 0, 1) := by decide +kernel
theorem dX2_become_15 : decode cX2_become 15 = .ok (.aload_n 1, 1) := by decide +kernel
theorem dX2_become_16 : decode cX2_become 16 = .ok (.iload_n 2, 1) := by decide +kernel
theorem dX2_become_17 : decode cX2_become 17 = .ok (.invokevirtual 42, 3) := by decide +kernel
theorem dX2_become_20 : decode cX2_become 20 = .ok (.invokevirtual 45, 3) := by decide +kernel
theorem dX2_become_23 : decode cX2_become 23 = .ok (.iinc 2 1, 3) := by decide +kernel
theorem dX2_become_26 : decode cX2_become 26 = .ok (.goto (-20), 3) := by decide +kernel
theorem dX2_become_29 : decode cX2_become 29 = .ok (.return_, 1) := by decide +kernel
theorem dX2_wrapped_0 : decode cX2_wrapped 0 = .ok (.iload_n 1, 1) := by decide +kernel
theorem dX2_wrapped_1 : decode cX2_wrapped 1 = .ok (.aload_n 0, 1) := by decide +kernel
theorem dX2_wrapped_2 : decode cX2_wrapped 2 = .ok (.getfield 15, 3) := by decide +kernel
theorem dX2_wrapped_5 : decode cX2_wrapped 5 = .ok (.arraylength, 1) := by decide +kernel
theorem dX2_wrapped_6 : decode cX2_wrapped 6 = .ok (.if_icmp .ge 7, 3) := by decide +kernel
theorem dX2_wrapped_9 : decode cX2_wrapped 9 = .ok (.iload_n 1, 1) := by decide +kernel
theorem dX2_wrapped_10 : decode cX2_wrapped 10 = .ok (.goto 10, 3) := by decide +kernel
theorem dX2_wrapped_13 : decode cX2_wrapped 13 = .ok (.iload_n 1, 1) := by decide +kernel
theorem dX2_wrapped_14 : decode cX2_wrapped 14 = .ok (.aload_n 0, 1) := by decide +kernel
theorem dX2_wrapped_15 : decode cX2_wrapped 15 = .ok (.getfield 15, 3) := by decide +kernel
theorem dX2_wrapped_18 : decode cX2_wrapped 18 = .ok (.arraylength, 1) := by decide +kernel
theorem dX2_wrapped_19 : decode cX2_wrapped 19 = .ok (.isub, 1) := by decide +kernel
theorem dX2_wrapped_20 : decode cX2_wrapped 20 = .ok (.ireturn, 1) := by decide +kernel
theorem dX3_init_0 : decode cX3_init 0 = .ok (.aload_n 0, 1) := by decide +kernel
theorem dX3_init_1 : decode cX3_init 1 = .ok (.invokespecial 3, 3) := by decide +kernel
theorem dX3_init_4 : decode cX3_init 4 = .ok (.aload_n 0, 1) := by decide +kernel
theorem dX3_init_5 : decode cX3_init 5 = .ok (.bipush 6, 2) := by decide +kernel
theorem dX3_init_7 : decode cX3_init 7 = .ok (.newarray .boolean, 2) := by decide +kernel
theorem dX3_init_9 : decode cX3_init 9 = .ok (.putfield 9, 3) := by decide +kernel
theorem dX3_init_12 : decode cX3_init 12 = .ok (.aload_n 0, 1) := by decide +kernel
theorem dX3_init_13 : decode cX3_init 13 = .ok (.bipush 6, 2) := by decide +kernel
theorem dX3_init_15 : decode cX3_init 15 = .ok (.newarray .int, 2) := by decide +kernel
theorem dX3_init_17 : decode cX3_init 17 = .ok (.putfield 15, 3) := by decide +kernel
theorem dX3_init_20 : decode cX3_init 20 = .ok (.aload_n 0, 1) := by decide +kernel
theorem dX3_init_21 : decode cX3_init 21 = .ok (.bipush 6, 2) := by decide +kernel
theorem dX3_init_23 : decode cX3_init 23 = .ok (.newarray .int, 2) := by decide +kernel
theorem dX3_init_25 : decode cX3_init 25 = .ok (.putfield 19, 3) := by decide +kernel
theorem dX3_init_28 : decode cX3_init 28 = .ok (.aload_n 0, 1) := by decide +kernel
theorem dX3_init_29 : decode cX3_init 29 = .ok (.bipush 6, 2) := by decide +kernel
theorem dX3_init_31 : decode cX3_init 31 = .ok (.newarray .int, 2) := by decide +kernel
theorem dX3_init_33 : decode cX3_init 33 = .ok (.putfield 22, 3) := by decide +kernel
theorem dX3_init_36 : decode cX3_init 36 = .ok (.return_, 1) := by decide +kernel
theorem dX3_putRule_0 : decode cX3_putRule 0 = .ok (.aload_n 0, 1) := by decide +kernel
theorem dX3_putRule_1 : decode cX3_putRule 1 = .ok (.getfield 9, 3) := by decide +kernel
theorem dX3_putRule_4 : decode cX3_putRule 4 = .ok (.iload_n 1, 1) := by decide +kernel
theorem dX3_putRule_5 : decode cX3_putRule 5 = .ok (.baload, 1) := by decide +kernel
theorem dX3_putRule_6 : decode cX3_putRule 6 = .ok (.ifCond .ne 20, 3) := by decide +kernel
theorem dX3_putRule_9 : decode cX3_putRule 9 = .ok (.aload_n 0, 1) := by decide +kernel
theorem dX3_putRule_10 : decode cX3_putRule 10 = .ok (.getfield 9, 3) := by decide +kernel
theorem dX3_putRule_13 : decode cX3_putRule 13 = .ok (.iload_n 1, 1) := by decide +kernel
theorem dX3_putRule_14 : decode cX3_putRule 14 = .ok (.iconst 1, 1) := by decide +kernel
theorem dX3_putRule_15 : decode cX3_putRule 15 = .ok (.bastore, 1) := by decide +kernel
theorem dX3_putRule_16 : decode cX3_putRule 16 = .ok (.aload_n 0, 1) := by decide +kernel
theorem dX3_putRule_17 : decode cX3_putRule 17 = .ok (.dup, 1) := by decide +kernel
theorem dX3_putRule_18 : decode cX3_putRule 18 = .ok (.getfield 25, 3) := by decide +kernel
theorem dX3_putRule_21 : decode cX3_putRule 21 = .ok (.iconst 1, 1) := by decide +kernel
theorem dX3_putRule_22 : decode cX3_putRule 22 = .ok (.iadd, 1) := by decide +kernel
theorem dX3_putRule_23 : decode cX3_putRule 23 = .ok (.putfield 25, 3) := by decide +kernel
theorem dX3_putRule_26 : decode cX3_putRule 26 = .ok (.aload_n 0, 1) := by decide +kernel
theorem dX3_putRule_27 : decode cX3_putRule 27 = .ok (.getfield 15, 3) := by decide +kernel
theorem dX3_putRule_30 : decode cX3_putRule 30 = .ok (.iload_n 1, 1) := by decide +kernel
theorem dX3_putRule_31 : decode cX3_putRule 31 = .ok (.iload_n 2, 1) := by decide +kernel
theorem dX3_putRule_32 : decode cX3_putRule 32 = .ok (.iastore, 1) := by decide +kernel
theorem dX3_putRule_33 : decode cX3_putRule 33 = .ok (.aload_n 0, 1) := by decide +kernel
theorem dX3_putRule_34 : decode cX3_putRule 34 = .ok (.getfield 19, 3) := by decide +kernel
theorem dX3_putRule_37 : decode cX3_putRule 37 = .ok (.iload_n 1, 1) := by decide +kernel
theorem dX3_putRule_38 : decode cX3_putRule 38 = .ok (.iload_n 3, 1) := by decide +kernel
theorem dX3_putRule_39 : decode cX3_putRule 39 = .ok (.iastore, 1) := by decide +kernel
theorem dX3_putRule_40 : decode cX3_putRule 40 = .ok (.aload_n 0, 1) := by decide +kernel
theorem dX3_putRule_41 : decode cX3_putRule 41 = .ok (.getfield 22, 3) := by decide +kernel
theorem dX3_putRule_44 : decode cX3_putRule 44 = .ok (.iload_n 1, 1) := by decide +kernel
theorem dX3_putRule_45 : decode cX3_putRule 45 = .ok (.iload 4, 2) := by decide +kernel
theorem dX3_putRule_47 : decode cX3_putRule 47 = .ok (.iastore, 1) := by decide +kernel
theorem dX3_putRule_48 : decode cX3_putRule 48 = .ok (.aload_n 0, 1) := by decide +kernel
theorem dX3_putRule_49 : decode cX3_putRule 49 = .ok (.getfield 25, 3) := by decide +kernel
theorem dX3_putRule_52 : decode cX3_putRule 52 = .ok (.ireturn, 1) := by decide +kernel
theorem dX3_dropRule_0 : decode cX3_dropRule 0 = .ok (.aload_n 0, 1) := by decide +kernel
theorem dX3_dropRule_1 : decode cX3_dropRule 1 = .ok (.getfield 9, 3) := by decide +kernel
theorem dX3_dropRule_4 : decode cX3_dropRule 4 = .ok (.iload_n 1, 1) := by decide +kernel
theorem dX3_dropRule_5 : decode cX3_dropRule 5 = .ok (.baload, 1) := by decide +kernel
theorem dX3_dropRule_6 : decode cX3_dropRule 6 = .ok (.ifCond .ne 5, 3) := by decide +kernel
theorem dX3_dropRule_9 : decode cX3_dropRule 9 = .ok (.iconst 0, 1) := by decide +kernel
theorem dX3_dropRule_10 : decode cX3_dropRule 10 = .ok (.ireturn, 1) := by decide +kernel
theorem dX3_dropRule_11 : decode cX3_dropRule 11 = .ok (.aload_n 0, 1) := by decide +kernel
theorem dX3_dropRule_12 : decode cX3_dropRule 12 = .ok (.getfield 9, 3) := by decide +kernel
theorem dX3_dropRule_15 : decode cX3_dropRule 15 = .ok (.iload_n 1, 1) := by decide +kernel
theorem dX3_dropRule_16 : decode cX3_dropRule 16 = .ok (.iconst 0, 1) := by decide +kernel
theorem dX3_dropRule_17 : decode cX3_dropRule 17 = .ok (.bastore, 1) := by decide +kernel
theorem dX3_dropRule_18 : decode cX3_dropRule 18 = .ok (.aload_n 0, 1) := by decide +kernel
theorem dX3_dropRule_19 : decode cX3_dropRule 19 = .ok (.dup, 1) := by decide +kernel
theorem dX3_dropRule_20 : decode cX3_dropRule 20 = .ok (.getfield 25, 3) := by decide +kernel
theorem dX3_dropRule_23 : decode cX3_dropRule 23 = .ok (.iconst 1, 1) := by decide +kernel
theorem dX3_dropRule_24 : decode cX3_dropRule 24 = .ok (.isub, 1) := by decide +kernel
theorem dX3_dropRule_25 : decode cX3_dropRule 25 = .ok (.putfield 25, 3) := by decide +kernel
theorem dX3_dropRule_28 : decode cX3_dropRule 28 = .ok (.iconst 1, 1) := by decide +kernel
theorem dX3_dropRule_29 : decode cX3_dropRule 29 = .ok (.ireturn, 1) := by decide +kernel
theorem dX3_putPlace_0 : decode cX3_putPlace 0 = .ok (.aload_n 0, 1) := by decide +kernel
theorem dX3_putPlace_1 : decode cX3_putPlace 1 = .ok (.iload_n 1, 1) := by decide +kernel
theorem dX3_putPlace_2 : decode cX3_putPlace 2 = .ok (.putfield 29, 3) := by decide +kernel
theorem dX3_putPlace_5 : decode cX3_putPlace 5 = .ok (.aload_n 0, 1) := by decide +kernel
theorem dX3_putPlace_6 : decode cX3_putPlace 6 = .ok (.iload_n 2, 1) := by decide +kernel
theorem dX3_putPlace_7 : decode cX3_putPlace 7 = .ok (.putfield 32, 3) := by decide +kernel
theorem dX3_putPlace_10 : decode cX3_putPlace 10 = .ok (.aload_n 0, 1) := by decide +kernel
theorem dX3_putPlace_11 : decode cX3_putPlace 11 = .ok (.iload_n 3, 1) := by decide +kernel
theorem dX3_putPlace_12 : decode cX3_putPlace 12 = .ok (.putfield 35, 3) := by decide +kernel
theorem dX3_putPlace_15 : decode cX3_putPlace 15 = .ok (.aload_n 0, 1) := by decide +kernel
theorem dX3_putPlace_16 : decode cX3_putPlace 16 = .ok (.iload 4, 2) := by decide +kernel
theorem dX3_putPlace_18 : decode cX3_putPlace 18 = .ok (.putfield 38, 3) := by decide +kernel
theorem dX3_putPlace_21 : decode cX3_putPlace 21 = .ok (.return_, 1) := by decide +kernel
set_option maxRecDepth 20000 in
theorem ggX3_isStill_X6_pairOf : GoodIn wsX3_isStill wsX6_pairOf := goodIn_r _ [6] (by decide +kernel) (by decide +kernel)
set_option maxRecDepth 20000 in
theorem gX3_isStill_X6_pairOf_n41 : GoodIn wsX3_isStill (wsX6_pairOf) := ggX3_isStill_X6_pairOf
theorem dX3_isStill_0 : decode cX3_isStill 0 = .ok (.aload_n 0, 1) := by decide +kernel
theorem dX3_isStill_1 : decode cX3_isStill 1 = .ok (.getfield 9, 3) := by decide +kernel
theorem dX3_isStill_4 : decode cX3_isStill 4 = .ok (.aload_n 0, 1) := by decide +kernel
theorem dX3_isStill_5 : decode cX3_isStill 5 = .ok (.getfield 29, 3) := by decide +kernel
theorem dX3_isStill_8 : decode cX3_isStill 8 = .ok (.aload_n 0, 1) := by decide +kernel
theorem dX3_isStill_9 : decode cX3_isStill 9 = .ok (.getfield 32, 3) := by decide +kernel
theorem dX3_isStill_12 : decode cX3_isStill 12 = .ok (.invokestatic 41, 3) := by decide +kernel
theorem dX3_isStill_15 : decode cX3_isStill 15 = .ok (.baload, 1) := by decide +kernel
theorem dX3_isStill_16 : decode cX3_isStill 16 = .ok (.ifCond .ne 7, 3) := by decide +kernel
theorem dX3_isStill_19 : decode cX3_isStill 19 = .ok (.iconst 1, 1) := by decide +kernel
theorem dX3_isStill_20 : decode cX3_isStill 20 = .ok (.goto 4, 3) := by decide +kernel
theorem dX3_isStill_23 : decode cX3_isStill 23 = .ok (.iconst 0, 1) := by decide +kernel
theorem dX3_isStill_24 : decode cX3_isStill 24 = .ok (.ireturn, 1) := by decide +kernel
set_option maxRecDepth 20000 in
theorem ggX3_doSteps_X3_doStep : GoodIn wsX3_doSteps wsX3_doStep := goodIn_r _ [5, 6, 7, 8, 9, 10, 11, 12, 13, 14, 15, 16, 4, 17, 18, 19, 20, 21, 22, 23, 24, 25, 26, 27, 28, 29, 30] (by decide +kernel) (by decide +kernel)
set_option maxRecDepth 20000 in
theorem gX3_doSteps_X3_doStep : GoodIn wsX3_doSteps (wsV RX3 45 RX3 yX3_doStep wsX3_doStep) := goodIn_app (goodIn_of _ (by decide +kernel)) ggX3_doSteps_X3_doStep
theorem dX3_doSteps_0 : decode cX3_doSteps 0 = .ok (.iconst 0, 1) := by decide +kernel
theorem dX3_doSteps_1 : decode cX3_doSteps 1 = .ok (.istore_n 2, 1) := by decide +kernel
theorem dX3_doSteps_2 : decode cX3_doSteps 2 = .ok (.iload_n 2, 1) := by decide +kernel
theorem dX3_doSteps_3 : decode cX3_doSteps 3 = .ok (.iload_n 1, 1) := by decide +kernel
theorem dX3_doSteps_4 : decode cX3_doSteps 4 = .ok (.if_icmp .ge 16, 3) := by decide +kernel
theorem dX3_doSteps_7 : decode cX3_doSteps 7 = .ok (.aload_n 0, 1) := by decide +kernel
theorem dX3_doSteps_8 : decode cX3_doSteps 8 = .ok (.invokevirtual 45, 3) := by decide +kernel
theorem dX3_doSteps_11 : decode cX3_doSteps 11 = .ok (.ifCond .eq 9, 3) := by decide +kernel
theorem dX3_doSteps_14 : decode cX3_doSteps 14 = .ok (.iinc 2 1, 3) := by decide +kernel
theorem dX3_doSteps_17 : decode cX3_doSteps 17 = .ok (.goto (-15), 3) := by decide +kernel
theorem dX3_doSteps_20 : decode cX3_doSteps 20 = .ok (.iload_n 2, 1) := by decide +kernel
theorem dX3_doSteps_21 : decode cX3_doSteps 21 = .ok (.ireturn, 1) := by decide +kernel
set_option maxRecDepth 20000 in
theorem ggX3_doStep_X3_isStill : GoodIn wsX3_doStep wsX3_isStill := goodIn_r _ [13, 14, 1, 2, 15, 16, 17, 18, 19, 20, 21, 22, 23, 24, 25, 26] (by decide +kernel) (by decide +kernel)
set_option maxRecDepth 20000 in
theorem gX3_doStep_X3_isStill : GoodIn wsX3_doStep (wsV RX3 49 RX3 yX3_isStill wsX3_isStill) := goodIn_app (goodIn_of _ (by decide +kernel)) ggX3_doStep_X3_isStill
set_option maxRecDepth 20000 in
theorem ggX3_doStep_X6_pairOf : GoodIn wsX3_doStep wsX6_pairOf := goodIn_r _ [17] (by decide +kernel) (by decide +kernel)
set_option maxRecDepth 20000 in
theorem gX3_doStep_X6_pairOf_n41 : GoodIn wsX3_doStep (wsX6_pairOf) := ggX3_doStep_X6_pairOf
theorem dX3_doStep_0 : decode cX3_doStep 0 = .ok (.aload_n 0, 1) := by decide +kernel
theorem dX3_doStep_1 : decode cX3_doStep 1 = .ok (.invokevirtual 49, 3) := by decide +kernel
theorem dX3_doStep_4 : decode cX3_doStep 4 = .ok (.ifCond .eq 5, 3) := by decide +kernel
theorem dX3_doStep_7 : decode cX3_doStep 7 = .ok (.iconst 0, 1) := by decide +kernel
theorem dX3_doStep_8 : decode cX3_doStep 8 = .ok (.ireturn, 1) := by decide +kernel
theorem dX3_doStep_9 : decode cX3_doStep 9 = .ok (.aload_n 0, 1) := by decide +kernel
theorem dX3_doStep_10 : decode cX3_doStep 10 = .ok (.getfield 29, 3) := by decide +kernel
theorem dX3_doStep_13 : decode cX3_doStep 13 = .ok (.aload_n 0, 1) := by decide +kernel
theorem dX3_doStep_14 : decode cX3_doStep 14 = .ok (.getfield 32, 3) := by decide +kernel
theorem dX3_doStep_17 : decode cX3_doStep 17 = .ok (.invokestatic 41, 3) := by decide +kernel
theorem dX3_doStep_20 : decode cX3_doStep 20 = .ok (.istore_n 1, 1) := by decide +kernel
theorem dX3_doStep_21 : decode cX3_doStep 21 = .ok (.aload_n 0, 1) := by decide +kernel
theorem dX3_doStep_22 : decode cX3_doStep 22 = .ok (.getfield 19, 3) := by decide +kernel
theorem dX3_doStep_25 : decode cX3_doStep 25 = .ok (.iload_n 1, 1) := by decide +kernel
theorem dX3_doStep_26 : decode cX3_doStep 26 = .ok (.iaload, 1) := by decide +kernel
theorem dX3_doStep_27 : decode cX3_doStep 27 = .ok (.iconst 1, 1) := by decide +kernel
theorem dX3_doStep_28 : decode cX3_doStep 28 = .ok (.if_icmp .ne 7, 3) := by decide +kernel
theorem dX3_doStep_31 : decode cX3_doStep 31 = .ok (.iconst 1, 1) := by decide +kernel
theorem dX3_doStep_32 : decode cX3_doStep 32 = .ok (.goto 4, 3) := by decide +kernel
theorem dX3_doStep_35 : decode cX3_doStep 35 = .ok (.iconst 0, 1) := by decide +kernel
theorem dX3_doStep_36 : decode cX3_doStep 36 = .ok (.istore_n 2, 1) := by decide +kernel
theorem dX3_doStep_37 : decode cX3_doStep 37 = .ok (.iconst 2, 1) := by decide +kernel
theorem dX3_doStep_38 : decode cX3_doStep 38 = .ok (.iload_n 2, 1) := by decide +kernel
theorem dX3_doStep_39 : decode cX3_doStep 39 = .ok (.ifCond .eq 10, 3) := by decide +kernel
theorem dX3_doStep_42 : decode cX3_doStep 42 = .ok (.aload_n 0, 1) := by decide +kernel
theorem dX3_doStep_43 : decode cX3_doStep 43 = .ok (.getfield 35, 3) := by decide +kernel
theorem dX3_doStep_46 : decode cX3_doStep 46 = .ok (.goto 7, 3) := by decide +kernel
theorem dX3_doStep_49 : decode cX3_doStep 49 = .ok (.aload_n 0, 1) := by decide +kernel
theorem dX3_doStep_50 : decode cX3_doStep 50 = .ok (.getfield 38, 3) := by decide +kernel
theorem dX3_doStep_53 : decode cX3_doStep 53 = .ok (.imul, 1) := by decide +kernel
theorem dX3_doStep_54 : decode cX3_doStep 54 = .ok (.aload_n 0, 1) := by decide +kernel
theorem dX3_doStep_55 : decode cX3_doStep 55 = .ok (.getfield 15, 3) := by decide +kernel
theorem dX3_doStep_58 : decode cX3_doStep 58 = .ok (.iload_n 1, 1) := by decide +kernel
theorem dX3_doStep_59 : decode cX3_doStep 59 = .ok (.iaload, 1) := by decide +kernel
theorem dX3_doStep_60 : decode cX3_doStep 60 = .ok (.iadd, 1) := by decide +kernel
theorem dX3_doStep_61 : decode cX3_doStep 61 = .ok (.istore_n 3, 1) := by decide +kernel
theorem dX3_doStep_62 : decode cX3_doStep 62 = .ok (.iload_n 2, 1) := by decide +kernel
theorem dX3_doStep_63 : decode cX3_doStep 63 = .ok (.ifCond .eq 10, 3) := by decide +kernel
theorem dX3_doStep_66 : decode cX3_doStep 66 = .ok (.aload_n 0, 1) := by decide +kernel
theorem dX3_doStep_67 : decode cX3_doStep 67 = .ok (.getfield 38, 3) := by decide +kernel
theorem dX3_doStep_70 : decode cX3_doStep 70 = .ok (.goto 7, 3) := by decide +kernel
theorem dX3_doStep_73 : decode cX3_doStep 73 = .ok (.aload_n 0, 1) := by decide +kernel
theorem dX3_doStep_74 : decode cX3_doStep 74 = .ok (.getfield 35, 3) := by decide +kernel
theorem dX3_doStep_77 : decode cX3_doStep 77 = .ok (.istore 4, 2) := by decide +kernel
theorem dX3_doStep_79 : decode cX3_doStep 79 = .ok (.iload_n 3, 1) := by decide +kernel
theorem dX3_doStep_80 : decode cX3_doStep 80 = .ok (.ldc 52, 2) := by decide +kernel
theorem dX3_doStep_82 : decode cX3_doStep 82 = .ok (.if_icmp .le 5, 3) := by decide +kernel
theorem dX3_doStep_85 : decode cX3_doStep 85 = .ok (.iconst 0, 1) := by decide +kernel
theorem dX3_doStep_86 : decode cX3_doStep 86 = .ok (.ireturn, 1) := by decide +kernel
theorem dX3_doStep_87 : decode cX3_doStep 87 = .ok (.aload_n 0, 1) := by decide +kernel
theorem dX3_doStep_88 : decode cX3_doStep 88 = .ok (.iload_n 2, 1) := by decide +kernel
theorem dX3_doStep_89 : decode cX3_doStep 89 = .ok (.ifCond .eq 7, 3) := by decide +kernel
theorem dX3_doStep_92 : decode cX3_doStep 92 = .ok (.iload_n 3, 1) := by decide +kernel
theorem dX3_doStep_93 : decode cX3_doStep 93 = .ok (.goto 7, 3) := by decide +kernel
theorem dX3_doStep_96 : decode cX3_doStep 96 = .ok (.iload 4, 2) := by decide +kernel
theorem dX3_doStep_98 : decode cX3_doStep 98 = .ok (.iconst 2, 1) := by decide +kernel
theorem dX3_doStep_99 : decode cX3_doStep 99 = .ok (.idiv, 1) := by decide +kernel
theorem dX3_doStep_100 : decode cX3_doStep 100 = .ok (.putfield 35, 3) := by decide +kernel
theorem dX3_doStep_103 : decode cX3_doStep 103 = .ok (.aload_n 0, 1) := by decide +kernel
theorem dX3_doStep_104 : decode cX3_doStep 104 = .ok (.iload_n 2, 1) := by decide +kernel
theorem dX3_doStep_105 : decode cX3_doStep 105 = .ok (.ifCond .eq 10, 3) := by decide +kernel
theorem dX3_doStep_108 : decode cX3_doStep 108 = .ok (.iload 4, 2) := by decide +kernel
theorem dX3_doStep_110 : decode cX3_doStep 110 = .ok (.iconst 2, 1) := by decide +kernel
theorem dX3_doStep_111 : decode cX3_doStep 111 = .ok (.idiv, 1) := by decide +kernel
theorem dX3_doStep_112 : decode cX3_doStep 112 = .ok (.goto 4, 3) := by decide +kernel
theorem dX3_doStep_115 : decode cX3_doStep 115 = .ok (.iload_n 3, 1) := by decide +kernel
theorem dX3_doStep_116 : decode cX3_doStep 116 = .ok (.putfield 38, 3) := by decide +kernel
theorem dX3_doStep_119 : decode cX3_doStep 119 = .ok (.aload_n 0, 1) := by decide +kernel
theorem dX3_doStep_120 : decode cX3_doStep 120 = .ok (.iload 4, 2) := by decide +kernel
theorem dX3_doStep_122 : decode cX3_doStep 122 = .ok (.iconst 2, 1) := by decide +kernel
theorem dX3_doStep_123 : decode cX3_doStep 123 = .ok (.irem, 1) := by decide +kernel
theorem dX3_doStep_124 : decode cX3_doStep 124 = .ok (.putfield 32, 3) := by decide +kernel
theorem dX3_doStep_127 : decode cX3_doStep 127 = .ok (.aload_n 0, 1) := by decide +kernel
theorem dX3_doStep_128 : decode cX3_doStep 128 = .ok (.aload_n 0, 1) := by decide +kernel
theorem dX3_doStep_129 : decode cX3_doStep 129 = .ok (.getfield 22, 3) := by decide +kernel
theorem dX3_doStep_132 : decode cX3_doStep 132 = .ok (.iload_n 1, 1) := by decide +kernel
theorem dX3_doStep_133 : decode cX3_doStep 133 = .ok (.iaload, 1) := by decide +kernel
theorem dX3_doStep_134 : decode cX3_doStep 134 = .ok (.putfield 29, 3) := by decide +kernel
theorem dX3_doStep_137 : decode cX3_doStep 137 = .ok (.iconst 1, 1) := by decide +kernel
theorem dX3_doStep_138 : decode cX3_doStep 138 = .ok (.ireturn, 1) := by decide +kernel
set_option maxRecDepth 20000 in
theorem ggX4_init_X4_followNone : GoodIn wsX4_init wsX4_followNone := goodIn_r _ [11, 5, 12, 13, 14, 10, 15, 16, 17, 18, 19, 20, 21, 22, 23, 24, 25, 26, 27, 28, 29, 30, 31, 32, 33, 34, 35, 36, 37, 38, 39, 40, 41, 42, 43, 44, 45, 46, 47, 48, 49, 50, 51, 52, 53, 54, 55, 56, 57, 58, 59, 60, 61, 62, 63, 64, 65, 66, 67, 68, 69, 70, 71, 72, 73, 74, 75, 76, 77, 78, 79, 80, 81, 82, 83, 84, 85, 86, 87, 88, 89, 90, 91, 92, 93, 94, 95, 96, 97, 98, 99, 100, 101, 102, 103, 104, 105, 106, 107, 108, 109, 110, 111, 112, 113, 114, 115, 116, 117, 118, 119, 120, 121, 122, 123, 124, 125, 126, 127, 128, 129, 130, 131, 132, 133, 134, 135, 136, 137, 138, 6, 139, 140] (by decide +kernel) (by decide +kernel)
set_option maxRecDepth 20000 in
theorem gX4_init_X4_followNone : GoodIn wsX4_init (wsV RX4 18 RX4 yX4_followNone wsX4_followNone) := goodIn_app (goodIn_of _ (by decide +kernel)) ggX4_init_X4_followNone
theorem dX4_init_0 : decode cX4_init 0 = .ok (.aload_n 0, 1) := by decide +kernel
theorem dX4_init_1 : decode cX4_init 1 = .ok (.invokespecial 3, 3) := by decide +kernel
theorem dX4_init_4 : decode cX4_init 4 = .ok (.aload_n 0, 1) := by decide +kernel
theorem dX4_init_5 : decode cX4_init 5 = .ok (.bipush 121, 2) := by decide +kernel
theorem dX4_init_7 : decode cX4_init 7 = .ok (.newarray .int, 2) := by decide +kernel
theorem dX4_init_9 : decode cX4_init 9 = .ok (.putfield 9, 3) := by decide +kernel
theorem dX4_init_12 : decode cX4_init 12 = .ok (.aload_n 0, 1) := by decide +kernel
theorem dX4_init_13 : decode cX4_init 13 = .ok (.sipush 484, 3) := by decide +kernel
theorem dX4_init_16 : decode cX4_init 16 = .ok (.newarray .int, 2) := by decide +kernel
theorem dX4_init_18 : decode cX4_init 18 = .ok (.putfield 15, 3) := by decide +kernel
theorem dX4_init_21 : decode cX4_init 21 = .ok (.iconst 0, 1) := by decide +kernel
theorem dX4_init_22 : decode cX4_init 22 = .ok (.istore_n 1, 1) := by decide +kernel
theorem dX4_init_23 : decode cX4_init 23 = .ok (.iload_n 1, 1) := by decide +kernel
theorem dX4_init_24 : decode cX4_init 24 = .ok (.bipush 6, 2) := by decide +kernel
theorem dX4_init_26 : decode cX4_init 26 = .ok (.if_icmp .ge 14, 3) := by decide +kernel
theorem dX4_init_29 : decode cX4_init 29 = .ok (.aload_n 0, 1) := by decide +kernel
theorem dX4_init_30 : decode cX4_init 30 = .ok (.iload_n 1, 1) := by decide +kernel
theorem dX4_init_31 : decode cX4_init 31 = .ok (.invokevirtual 18, 3) := by decide +kernel
theorem dX4_init_34 : decode cX4_init 34 = .ok (.iinc 1 1, 3) := by decide +kernel
theorem dX4_init_37 : decode cX4_init 37 = .ok (.goto (-14), 3) := by decide +kernel
theorem dX4_init_40 : decode cX4_init 40 = .ok (.return_, 1) := by decide +kernel
set_option maxRecDepth 20000 in
theorem ggX4_followNone_X4_write : GoodIn wsX4_followNone wsX4_write := goodIn_r _ [6, 7, 8, 9, 10, 11, 12, 13, 14, 15, 16, 17, 18, 19, 20, 21, 22, 23, 24, 25, 26, 27, 28, 29, 30, 31, 32, 33, 34, 35, 36, 37, 38, 39, 40, 41, 42, 43, 44, 45, 46, 47, 48, 49, 50, 51, 52, 53, 54, 55, 56, 57, 58, 59, 60, 61, 62, 63, 64, 65, 66, 67, 68, 69, 70, 71, 72, 73, 74, 75, 76, 77, 78, 79, 80, 81, 82, 83, 84, 85, 86, 87, 88, 89, 90, 91, 92, 93, 94, 95, 96, 97, 98, 99, 100, 101, 102, 103, 104, 105, 106, 107, 108, 109, 110, 111, 112, 113, 114, 115, 116, 117, 118, 5, 119, 120, 121, 122, 123, 124, 125, 126, 127, 128, 129, 1, 130, 131, 132] (by decide +kernel) (by decide +kernel)
set_option maxRecDepth 20000 in
theorem gX4_followNone_X4_write : GoodIn wsX4_followNone (wsV RX4 24 RX4 yX4_write wsX4_write) := goodIn_app (goodIn_of _ (by decide +kernel)) ggX4_followNone_X4_write
theorem dX4_followNone_0 : decode cX4_followNone 0 = .ok (.iconst 1, 1) := by decide +kernel
theorem dX4_followNone_1 : decode cX4_followNone 1 = .ok (.istore_n 2, 1) := by decide +kernel
theorem dX4_followNone_2 : decode cX4_followNone 2 = .ok (.iload_n 2, 1) := by decide +kernel
theorem dX4_followNone_3 : decode cX4_followNone 3 = .ok (.bipush 20, 2) := by decide +kernel
theorem dX4_followNone_5 : decode cX4_followNone 5 = .ok (.if_icmp .gt 21, 3) := by decide +kernel
theorem dX4_followNone_8 : decode cX4_followNone 8 = .ok (.aload_n 0, 1) := by decide +kernel
theorem dX4_followNone_9 : decode cX4_followNone 9 = .ok (.getfield 9, 3) := by decide +kernel
theorem dX4_followNone_12 : decode cX4_followNone 12 = .ok (.iload_n 1, 1) := by decide +kernel
theorem dX4_followNone_13 : decode cX4_followNone 13 = .ok (.bipush 20, 2) := by decide +kernel
theorem dX4_followNone_15 : decode cX4_followNone 15 = .ok (.imul, 1) := by decide +kernel
theorem dX4_followNone_16 : decode cX4_followNone 16 = .ok (.iload_n 2, 1) := by decide +kernel
theorem dX4_followNone_17 : decode cX4_followNone 17 = .ok (.iadd, 1) := by decide +kernel
theorem dX4_followNone_18 : decode cX4_followNone 18 = .ok (.iconst 0, 1) := by decide +kernel
theorem dX4_followNone_19 : decode cX4_followNone 19 = .ok (.iastore, 1) := by decide +kernel
theorem dX4_followNone_20 : decode cX4_followNone 20 = .ok (.iinc 2 1, 3) := by decide +kernel
theorem dX4_followNone_23 : decode cX4_followNone 23 = .ok (.goto (-21), 3) := by decide +kernel
theorem dX4_followNone_26 : decode cX4_followNone 26 = .ok (.aload_n 0, 1) := by decide +kernel
theorem dX4_followNone_27 : decode cX4_followNone 27 = .ok (.ldc 22, 2) := by decide +kernel
theorem dX4_followNone_29 : decode cX4_followNone 29 = .ok (.iload_n 1, 1) := by decide +kernel
theorem dX4_followNone_30 : decode cX4_followNone 30 = .ok (.iconst 0, 1) := by decide +kernel
theorem dX4_followNone_31 : decode cX4_followNone 31 = .ok (.invokevirtual 24, 3) := by decide +kernel
theorem dX4_followNone_34 : decode cX4_followNone 34 = .ok (.return_, 1) := by decide +kernel
set_option maxRecDepth 20000 in
theorem ggX4_follow_X4_followNone : GoodIn wsX4_follow wsX4_followNone := goodIn_r _ [5, 6, 7, 8, 9, 4, 10, 11, 12, 13, 14, 15, 16, 17, 18, 19, 20, 21, 22, 23, 24, 25, 26, 27, 28, 29, 30, 31, 32, 33, 34, 35, 36, 37, 38, 39, 40, 41, 42, 43, 44, 45, 46, 47, 48, 49, 50, 51, 52, 53, 54, 55, 56, 57, 58, 59, 60, 61, 62, 63, 64, 65, 66, 67, 68, 69, 70, 71, 72, 73, 74, 75, 76, 77, 78, 79, 80, 81, 82, 83, 84, 85, 86, 87, 88, 89, 90, 91, 92, 93, 94, 95, 96, 97, 98, 99, 100, 101, 102, 103, 104, 105, 106, 107, 108, 109, 110, 111, 112, 113, 114, 115, 116, 117, 118, 119, 120, 121, 122, 123, 124, 125, 126, 127, 128, 129, 130, 131, 132, 133, 134, 135, 136] (by decide +kernel) (by decide +kernel)
set_option maxRecDepth 20000 in
theorem gX4_follow_X4_followNone : GoodIn wsX4_follow (wsV RX4 18 RX4 yX4_followNone wsX4_followNone) := goodIn_app (goodIn_of _ (by decide +kernel)) ggX4_follow_X4_followNone
set_option maxRecDepth 20000 in
theorem ggX4_follow_X4_write : GoodIn wsX4_follow wsX4_write := goodIn_r _ [10, 11, 12, 13, 14, 15, 16, 17, 18, 19, 20, 21, 22, 23, 24, 25, 26, 27, 28, 29, 30, 31, 32, 33, 34, 35, 36, 37, 38, 39, 40, 41, 42, 43, 44, 45, 46, 47, 48, 49, 50, 51, 52, 53, 54, 55, 56, 57, 58, 59, 60, 61, 62, 63, 64, 65, 66, 67, 68, 69, 70, 71, 72, 73, 74, 75, 76, 77, 78, 79, 80, 81, 82, 83, 84, 85, 86, 87, 88, 89, 90, 91, 92, 93, 94, 95, 96, 97, 98, 99, 100, 101, 102, 103, 104, 105, 106, 107, 108, 109, 110, 111, 112, 113, 114, 115, 116, 117, 118, 119, 120, 121, 122, 4, 123, 124, 125, 126, 127, 128, 129, 130, 131, 132, 133, 6, 134, 135, 136] (by decide +kernel) (by decide +kernel)
set_option maxRecDepth 20000 in
theorem gX4_follow_X4_write : GoodIn wsX4_follow (wsV RX4 24 RX4 yX4_write wsX4_write) := goodIn_app (goodIn_of _ (by decide +kernel)) ggX4_follow_X4_write
theorem dX4_follow_0 : decode cX4_follow 0 = .ok (.iload_n 3, 1) := by decide +kernel
theorem dX4_follow_1 : decode cX4_follow 1 = .ok (.iconst 1, 1) := by decide +kernel
theorem dX4_follow_2 : decode cX4_follow 2 = .ok (.if_icmp .ne 7, 3) := by decide +kernel
theorem dX4_follow_5 : decode cX4_follow 5 = .ok (.iconst 1, 1) := by decide +kernel
theorem dX4_follow_6 : decode cX4_follow 6 = .ok (.goto 4, 3) := by decide +kernel
theorem dX4_follow_9 : decode cX4_follow 9 = .ok (.iconst 0, 1) := by decide +kernel
theorem dX4_follow_10 : decode cX4_follow 10 = .ok (.istore 5, 2) := by decide +kernel
theorem dX4_follow_12 : decode cX4_follow 12 = .ok (.aload_n 0, 1) := by decide +kernel
theorem dX4_follow_13 : decode cX4_follow 13 = .ok (.iload_n 1, 1) := by decide +kernel
theorem dX4_follow_14 : decode cX4_follow 14 = .ok (.invokevirtual 18, 3) := by decide +kernel
theorem dX4_follow_17 : decode cX4_follow 17 = .ok (.aload_n 0, 1) := by decide +kernel
theorem dX4_follow_18 : decode cX4_follow 18 = .ok (.ldc 30, 2) := by decide +kernel
theorem dX4_follow_20 : decode cX4_follow 20 = .ok (.iload_n 1, 1) := by decide +kernel
theorem dX4_follow_21 : decode cX4_follow 21 = .ok (.iload 4, 2) := by decide +kernel
theorem dX4_follow_23 : decode cX4_follow 23 = .ok (.invokevirtual 24, 3) := by decide +kernel
theorem dX4_follow_26 : decode cX4_follow 26 = .ok (.aload_n 0, 1) := by decide +kernel
theorem dX4_follow_27 : decode cX4_follow 27 = .ok (.iload 5, 2) := by decide +kernel
theorem dX4_follow_29 : decode cX4_follow 29 = .ok (.ifCond .eq 8, 3) := by decide +kernel
theorem dX4_follow_32 : decode cX4_follow 32 = .ok (.ldc 32, 2) := by decide +kernel
theorem dX4_follow_34 : decode cX4_follow 34 = .ok (.goto 5, 3) := by decide +kernel
theorem dX4_follow_37 : decode cX4_follow 37 = .ok (.ldc 34, 2) := by decide +kernel
theorem dX4_follow_39 : decode cX4_follow 39 = .ok (.iload_n 1, 1) := by decide +kernel
theorem dX4_follow_40 : decode cX4_follow 40 = .ok (.iload 4, 2) := by decide +kernel
theorem dX4_follow_42 : decode cX4_follow 42 = .ok (.invokevirtual 24, 3) := by decide +kernel
theorem dX4_follow_45 : decode cX4_follow 45 = .ok (.iload_n 2, 1) := by decide +kernel
theorem dX4_follow_46 : decode cX4_follow 46 = .ok (.iconst 1, 1) := by decide +kernel
theorem dX4_follow_47 : decode cX4_follow 47 = .ok (.if_icmp .ne 22, 3) := by decide +kernel
theorem dX4_follow_50 : decode cX4_follow 50 = .ok (.aload_n 0, 1) := by decide +kernel
theorem dX4_follow_51 : decode cX4_follow 51 = .ok (.iload 5, 2) := by decide +kernel
theorem dX4_follow_53 : decode cX4_follow 53 = .ok (.ifCond .eq 8, 3) := by decide +kernel
theorem dX4_follow_56 : decode cX4_follow 56 = .ok (.ldc 36, 2) := by decide +kernel
theorem dX4_follow_58 : decode cX4_follow 58 = .ok (.goto 5, 3) := by decide +kernel
theorem dX4_follow_61 : decode cX4_follow 61 = .ok (.ldc 38, 2) := by decide +kernel
theorem dX4_follow_63 : decode cX4_follow 63 = .ok (.iload_n 1, 1) := by decide +kernel
theorem dX4_follow_64 : decode cX4_follow 64 = .ok (.iload 4, 2) := by decide +kernel
theorem dX4_follow_66 : decode cX4_follow 66 = .ok (.invokevirtual 24, 3) := by decide +kernel
theorem dX4_follow_69 : decode cX4_follow 69 = .ok (.return_, 1) := by decide +kernel
set_option maxRecDepth 20000 in
theorem ggX4_write_J0_length_8abf5 : GoodIn wsX4_write wsJ0_length_8abf5 := goodIn_r _ [5, 6, 7, 8, 9, 4, 10, 11, 12] (by decide +kernel) (by decide +kernel)
set_option maxRecDepth 20000 in
theorem gX4_write_J0_length_8abf5 : GoodIn wsX4_write (wsV RX4 40 RJ0 yJ0_length_8abf5 wsJ0_length_8abf5) := goodIn_app (goodIn_of _ (by decide +kernel)) ggX4_write_J0_length_8abf5
set_option maxRecDepth 20000 in
theorem ggX4_write_J0_charAt_5068e : GoodIn wsX4_write wsJ0_charAt_5068e := goodIn_r _ [16, 6, 17, 18, 19, 4, 20, 11, 12, 21, 22, 23, 24, 25, 26, 27, 28, 29, 30, 31, 32, 33, 34, 35, 36, 37, 38, 39, 40, 41, 42, 43, 44, 45, 46, 47, 48, 49] (by decide +kernel) (by decide +kernel)
set_option maxRecDepth 20000 in
theorem gX4_write_J0_charAt_5068e : GoodIn wsX4_write (wsV RX4 46 RJ0 yJ0_charAt_5068e wsJ0_charAt_5068e) := goodIn_app (goodIn_of _ (by decide +kernel)) ggX4_write_J0_charAt_5068e
set_option maxRecDepth 20000 in
theorem ggX4_write_J0_indexOf_0f7a4 : GoodIn wsX4_write wsJ0_indexOf_0f7a4 := goodIn_r _ [53, 54, 55, 56, 4, 57, 6, 17, 18, 19, 20, 11, 12, 58, 2, 3, 5, 7, 8, 9, 10, 59, 60, 23, 61, 62, 63, 64, 65, 66, 67, 68, 69, 70, 71, 72, 73, 74, 75, 76, 35, 77, 78, 79, 80, 81, 82, 83, 84, 85, 86, 40, 41, 42, 87, 88, 89, 28, 90, 91, 31, 92, 93, 94, 95, 44, 45, 46, 47, 48, 49, 96, 97, 98, 99, 100, 101, 102, 103, 104, 105, 106, 107, 108, 109, 110] (by decide +kernel) (by decide +kernel)
set_option maxRecDepth 20000 in
theorem gX4_write_J0_indexOf_0f7a4 : GoodIn wsX4_write (wsV RX4 52 RJ0 yJ0_indexOf_0f7a4 wsJ0_indexOf_0f7a4) := goodIn_app (goodIn_of _ (by decide +kernel)) ggX4_write_J0_indexOf_0f7a4
set_option maxRecDepth 20000 in
theorem ggX4_write_X4_number : GoodIn wsX4_write wsX4_number := goodIn_r _ [114] (by decide +kernel) (by decide +kernel)
set_option maxRecDepth 20000 in
theorem gX4_write_X4_number : GoodIn wsX4_write (va_wsS RX4 56 yX4_number wsX4_number) := goodIn_app (goodIn_of _ (by decide +kernel)) ggX4_write_X4_number
set_option maxRecDepth 20000 in
theorem ggX4_write_X4_pairMarked : GoodIn wsX4_write wsX4_pairMarked := goodIn_r _ [117, 118, 119, 120] (by decide +kernel) (by decide +kernel)
set_option maxRecDepth 20000 in
theorem gX4_write_X4_pairMarked : GoodIn wsX4_write (va_wsS RX4 60 yX4_pairMarked wsX4_pairMarked) := goodIn_app (goodIn_of _ (by decide +kernel)) ggX4_write_X4_pairMarked
set_option maxRecDepth 20000 in
theorem ggX4_write_X4_append : GoodIn wsX4_write wsX4_append := goodIn_r _ [124, 125, 126, 127, 128] (by decide +kernel) (by decide +kernel)
set_option maxRecDepth 20000 in
theorem gX4_write_X4_append : GoodIn wsX4_write (wsV RX4 64 RX4 yX4_append wsX4_append) := goodIn_app (goodIn_of _ (by decide +kernel)) ggX4_write_X4_append
theorem dX4_write_0 : decode cX4_write 0 = .ok (.iconst 0, 1) := by decide +kernel
theorem dX4_write_1 : decode cX4_write 1 = .ok (.istore 4, 2) := by decide +kernel
theorem dX4_write_3 : decode cX4_write 3 = .ok (.iconst 0, 1) := by decide +kernel
theorem dX4_write_4 : decode cX4_write 4 = .ok (.istore 5, 2) := by decide +kernel
theorem dX4_write_6 : decode cX4_write 6 = .ok (.iload 5, 2) := by decide +kernel
theorem dX4_write_8 : decode cX4_write 8 = .ok (.aload_n 1, 1) := by decide +kernel
theorem dX4_write_9 : decode cX4_write 9 = .ok (.invokevirtual 40, 3) := by decide +kernel
theorem dX4_write_12 : decode cX4_write 12 = .ok (.if_icmp .ge 89, 3) := by decide +kernel
theorem dX4_write_15 : decode cX4_write 15 = .ok (.iload 5, 2) := by decide +kernel
theorem dX4_write_17 : decode cX4_write 17 = .ok (.iconst 1, 1) := by decide +kernel
theorem dX4_write_18 : decode cX4_write 18 = .ok (.iadd, 1) := by decide +kernel
theorem dX4_write_19 : decode cX4_write 19 = .ok (.aload_n 1, 1) := by decide +kernel
theorem dX4_write_20 : decode cX4_write 20 = .ok (.invokevirtual 40, 3) := by decide +kernel
theorem dX4_write_23 : decode cX4_write 23 = .ok (.if_icmp .ge 14, 3) := by decide +kernel
theorem dX4_write_26 : decode cX4_write 26 = .ok (.aload_n 1, 1) := by decide +kernel
theorem dX4_write_27 : decode cX4_write 27 = .ok (.iload 5, 2) := by decide +kernel
theorem dX4_write_29 : decode cX4_write 29 = .ok (.iconst 1, 1) := by decide +kernel
theorem dX4_write_30 : decode cX4_write 30 = .ok (.iadd, 1) := by decide +kernel
theorem dX4_write_31 : decode cX4_write 31 = .ok (.invokevirtual 46, 3) := by decide +kernel
theorem dX4_write_34 : decode cX4_write 34 = .ok (.goto 5, 3) := by decide +kernel
theorem dX4_write_37 : decode cX4_write 37 = .ok (.bipush 32, 2) := by decide +kernel
theorem dX4_write_39 : decode cX4_write 39 = .ok (.istore 6, 2) := by decide +kernel
theorem dX4_write_41 : decode cX4_write 41 = .ok (.ldc 50, 2) := by decide +kernel
theorem dX4_write_43 : decode cX4_write 43 = .ok (.aload_n 1, 1) := by decide +kernel
theorem dX4_write_44 : decode cX4_write 44 = .ok (.iload 5, 2) := by decide +kernel
theorem dX4_write_46 : decode cX4_write 46 = .ok (.invokevirtual 46, 3) := by decide +kernel
theorem dX4_write_49 : decode cX4_write 49 = .ok (.invokevirtual 52, 3) := by decide +kernel
theorem dX4_write_52 : decode cX4_write 52 = .ok (.istore 7, 2) := by decide +kernel
theorem dX4_write_54 : decode cX4_write 54 = .ok (.iload 6, 2) := by decide +kernel
theorem dX4_write_56 : decode cX4_write 56 = .ok (.bipush 58, 2) := by decide +kernel
theorem dX4_write_58 : decode cX4_write 58 = .ok (.if_icmp .ne 14, 3) := by decide +kernel
theorem dX4_write_61 : decode cX4_write 61 = .ok (.iload 7, 2) := by decide +kernel
theorem dX4_write_63 : decode cX4_write 63 = .ok (.iload_n 2, 1) := by decide +kernel
theorem dX4_write_64 : decode cX4_write 64 = .ok (.invokestatic 56, 3) := by decide +kernel
theorem dX4_write_67 : decode cX4_write 67 = .ok (.istore 4, 2) := by decide +kernel
theorem dX4_write_69 : decode cX4_write 69 = .ok (.goto 26, 3) := by decide +kernel
theorem dX4_write_72 : decode cX4_write 72 = .ok (.iload 7, 2) := by decide +kernel
theorem dX4_write_74 : decode cX4_write 74 = .ok (.ifCond .lt 21, 3) := by decide +kernel
theorem dX4_write_77 : decode cX4_write 77 = .ok (.aload_n 0, 1) := by decide +kernel
theorem dX4_write_78 : decode cX4_write 78 = .ok (.iload 4, 2) := by decide +kernel
theorem dX4_write_80 : decode cX4_write 80 = .ok (.iload 7, 2) := by decide +kernel
theorem dX4_write_82 : decode cX4_write 82 = .ok (.iload 6, 2) := by decide +kernel
theorem dX4_write_84 : decode cX4_write 84 = .ok (.iload_n 2, 1) := by decide +kernel
theorem dX4_write_85 : decode cX4_write 85 = .ok (.iload_n 3, 1) := by decide +kernel
theorem dX4_write_86 : decode cX4_write 86 = .ok (.invokestatic 60, 3) := by decide +kernel
theorem dX4_write_89 : decode cX4_write 89 = .ok (.invokestatic 56, 3) := by decide +kernel
theorem dX4_write_92 : decode cX4_write 92 = .ok (.invokevirtual 64, 3) := by decide +kernel
theorem dX4_write_95 : decode cX4_write 95 = .ok (.iinc 5 1, 3) := by decide +kernel
theorem dX4_write_98 : decode cX4_write 98 = .ok (.goto (-92), 3) := by decide +kernel
theorem dX4_write_101 : decode cX4_write 101 = .ok (.return_, 1) := by decide +kernel
set_option maxRecDepth 20000 in
theorem ggX4_pairMarked_X6_pairOf : GoodIn wsX4_pairMarked wsX6_pairOf := goodIn_r _ [3] (by decide +kernel) (by decide +kernel)
set_option maxRecDepth 20000 in
theorem gX4_pairMarked_X6_pairOf_n68 : GoodIn wsX4_pairMarked (wsX6_pairOf) := ggX4_pairMarked_X6_pairOf
theorem dX4_pairMarked_0 : decode cX4_pairMarked 0 = .ok (.iload_n 0, 1) := by decide +kernel
theorem dX4_pairMarked_1 : decode cX4_pairMarked 1 = .ok (.bipush 48, 2) := by decide +kernel
theorem dX4_pairMarked_3 : decode cX4_pairMarked 3 = .ok (.if_icmp .ne 9, 3) := by decide +kernel
theorem dX4_pairMarked_6 : decode cX4_pairMarked 6 = .ok (.iload_n 2, 1) := by decide +kernel
theorem dX4_pairMarked_7 : decode cX4_pairMarked 7 = .ok (.iconst 0, 1) := by decide +kernel
theorem dX4_pairMarked_8 : decode cX4_pairMarked 8 = .ok (.invokestatic 68, 3) := by decide +kernel
theorem dX4_pairMarked_11 : decode cX4_pairMarked 11 = .ok (.ireturn, 1) := by decide +kernel
theorem dX4_pairMarked_12 : decode cX4_pairMarked 12 = .ok (.iload_n 0, 1) := by decide +kernel
theorem dX4_pairMarked_13 : decode cX4_pairMarked 13 = .ok (.bipush 49, 2) := by decide +kernel
theorem dX4_pairMarked_15 : decode cX4_pairMarked 15 = .ok (.if_icmp .ne 11, 3) := by decide +kernel
theorem dX4_pairMarked_18 : decode cX4_pairMarked 18 = .ok (.iload_n 2, 1) := by decide +kernel
theorem dX4_pairMarked_19 : decode cX4_pairMarked 19 = .ok (.iconst 1, 1) := by decide +kernel
theorem dX4_pairMarked_20 : decode cX4_pairMarked 20 = .ok (.invokestatic 68, 3) := by decide +kernel
theorem dX4_pairMarked_23 : decode cX4_pairMarked 23 = .ok (.goto 4, 3) := by decide +kernel
theorem dX4_pairMarked_26 : decode cX4_pairMarked 26 = .ok (.iload_n 1, 1) := by decide +kernel
theorem dX4_pairMarked_27 : decode cX4_pairMarked 27 = .ok (.ireturn, 1) := by decide +kernel
theorem dX4_number_0 : decode cX4_number 0 = .ok (.iload_n 0, 1) := by decide +kernel
theorem dX4_number_1 : decode cX4_number 1 = .ok (.ifCond .gt 7, 3) := by decide +kernel
theorem dX4_number_4 : decode cX4_number 4 = .ok (.iconst 0, 1) := by decide +kernel
theorem dX4_number_5 : decode cX4_number 5 = .ok (.goto 9, 3) := by decide +kernel
theorem dX4_number_8 : decode cX4_number 8 = .ok (.iload_n 1, 1) := by decide +kernel
theorem dX4_number_9 : decode cX4_number 9 = .ok (.bipush 20, 2) := by decide +kernel
theorem dX4_number_11 : decode cX4_number 11 = .ok (.imul, 1) := by decide +kernel
theorem dX4_number_12 : decode cX4_number 12 = .ok (.iload_n 0, 1) := by decide +kernel
theorem dX4_number_13 : decode cX4_number 13 = .ok (.iadd, 1) := by decide +kernel
theorem dX4_number_14 : decode cX4_number 14 = .ok (.ireturn, 1) := by decide +kernel
theorem dX4_append_0 : decode cX4_append 0 = .ok (.aload_n 0, 1) := by decide +kernel
theorem dX4_append_1 : decode cX4_append 1 = .ok (.getfield 9, 3) := by decide +kernel
theorem dX4_append_4 : decode cX4_append 4 = .ok (.iload_n 1, 1) := by decide +kernel
theorem dX4_append_5 : decode cX4_append 5 = .ok (.iaload, 1) := by decide +kernel
theorem dX4_append_6 : decode cX4_append 6 = .ok (.iconst 4, 1) := by decide +kernel
theorem dX4_append_7 : decode cX4_append 7 = .ok (.if_icmp .ge 29, 3) := by decide +kernel
theorem dX4_append_10 : decode cX4_append 10 = .ok (.aload_n 0, 1) := by decide +kernel
theorem dX4_append_11 : decode cX4_append 11 = .ok (.getfield 15, 3) := by decide +kernel
theorem dX4_append_14 : decode cX4_append 14 = .ok (.iload_n 1, 1) := by decide +kernel
theorem dX4_append_15 : decode cX4_append 15 = .ok (.iconst 4, 1) := by decide +kernel
theorem dX4_append_16 : decode cX4_append 16 = .ok (.imul, 1) := by decide +kernel
theorem dX4_append_17 : decode cX4_append 17 = .ok (.aload_n 0, 1) := by decide +kernel
theorem dX4_append_18 : decode cX4_append 18 = .ok (.getfield 9, 3) := by decide +kernel
theorem dX4_append_21 : decode cX4_append 21 = .ok (.iload_n 1, 1) := by decide +kernel
theorem dX4_append_22 : decode cX4_append 22 = .ok (.iaload, 1) := by decide +kernel
theorem dX4_append_23 : decode cX4_append 23 = .ok (.iadd, 1) := by decide +kernel
theorem dX4_append_24 : decode cX4_append 24 = .ok (.iload_n 2, 1) := by decide +kernel
theorem dX4_append_25 : decode cX4_append 25 = .ok (.iastore, 1) := by decide +kernel
theorem dX4_append_26 : decode cX4_append 26 = .ok (.aload_n 0, 1) := by decide +kernel
theorem dX4_append_27 : decode cX4_append 27 = .ok (.getfield 9, 3) := by decide +kernel
theorem dX4_append_30 : decode cX4_append 30 = .ok (.iload_n 1, 1) := by decide +kernel
theorem dX4_append_31 : decode cX4_append 31 = .ok (.dup2, 1) := by decide +kernel
theorem dX4_append_32 : decode cX4_append 32 = .ok (.iaload, 1) := by decide +kernel
theorem dX4_append_33 : decode cX4_append 33 = .ok (.iconst 1, 1) := by decide +kernel
theorem dX4_append_34 : decode cX4_append 34 = .ok (.iadd, 1) := by decide +kernel
theorem dX4_append_35 : decode cX4_append 35 = .ok (.iastore, 1) := by decide +kernel
theorem dX4_append_36 : decode cX4_append 36 = .ok (.return_, 1) := by decide +kernel
set_option maxRecDepth 20000 in
theorem ggX4_sizeOf_X6_outside : GoodIn wsX4_sizeOf wsX6_outside := goodIn_r _ [4] (by decide +kernel) (by decide +kernel)
set_option maxRecDepth 20000 in
theorem gX4_sizeOf_X6_outside_n71 : GoodIn wsX4_sizeOf (wsX6_outside) := ggX4_sizeOf_X6_outside
theorem dX4_sizeOf_0 : decode cX4_sizeOf 0 = .ok (.iload_n 1, 1) := by decide +kernel
theorem dX4_sizeOf_1 : decode cX4_sizeOf 1 = .ok (.iconst 0, 1) := by decide +kernel
theorem dX4_sizeOf_2 : decode cX4_sizeOf 2 = .ok (.bipush 120, 2) := by decide +kernel
theorem dX4_sizeOf_4 : decode cX4_sizeOf 4 = .ok (.invokestatic 71, 3) := by decide +kernel
theorem dX4_sizeOf_7 : decode cX4_sizeOf 7 = .ok (.ifCond .eq 7, 3) := by decide +kernel
theorem dX4_sizeOf_10 : decode cX4_sizeOf 10 = .ok (.iconst 0, 1) := by decide +kernel
theorem dX4_sizeOf_11 : decode cX4_sizeOf 11 = .ok (.goto 9, 3) := by decide +kernel
theorem dX4_sizeOf_14 : decode cX4_sizeOf 14 = .ok (.aload_n 0, 1) := by decide +kernel
theorem dX4_sizeOf_15 : decode cX4_sizeOf 15 = .ok (.getfield 9, 3) := by decide +kernel
theorem dX4_sizeOf_18 : decode cX4_sizeOf 18 = .ok (.iload_n 1, 1) := by decide +kernel
theorem dX4_sizeOf_19 : decode cX4_sizeOf 19 = .ok (.iaload, 1) := by decide +kernel
theorem dX4_sizeOf_20 : decode cX4_sizeOf 20 = .ok (.ireturn, 1) := by decide +kernel
set_option maxRecDepth 20000 in
theorem ggX4_letterAt_X4_sizeOf : GoodIn wsX4_letterAt wsX4_sizeOf := goodIn_r _ [6, 7, 8, 9, 10, 11, 12] (by decide +kernel) (by decide +kernel)
set_option maxRecDepth 20000 in
theorem gX4_letterAt_X4_sizeOf : GoodIn wsX4_letterAt (wsV RX4 75 RX4 yX4_sizeOf wsX4_sizeOf) := goodIn_app (goodIn_of _ (by decide +kernel)) ggX4_letterAt_X4_sizeOf
set_option maxRecDepth 20000 in
theorem ggX4_letterAt_X6_outside : GoodIn wsX4_letterAt wsX6_outside := goodIn_r _ [10] (by decide +kernel) (by decide +kernel)
set_option maxRecDepth 20000 in
theorem gX4_letterAt_X6_outside_n71 : GoodIn wsX4_letterAt (wsX6_outside) := ggX4_letterAt_X6_outside
theorem dX4_letterAt_0 : decode cX4_letterAt 0 = .ok (.iload_n 2, 1) := by decide +kernel
theorem dX4_letterAt_1 : decode cX4_letterAt 1 = .ok (.iconst 0, 1) := by decide +kernel
theorem dX4_letterAt_2 : decode cX4_letterAt 2 = .ok (.aload_n 0, 1) := by decide +kernel
theorem dX4_letterAt_3 : decode cX4_letterAt 3 = .ok (.iload_n 1, 1) := by decide +kernel
theorem dX4_letterAt_4 : decode cX4_letterAt 4 = .ok (.invokevirtual 75, 3) := by decide +kernel
theorem dX4_letterAt_7 : decode cX4_letterAt 7 = .ok (.iconst 1, 1) := by decide +kernel
theorem dX4_letterAt_8 : decode cX4_letterAt 8 = .ok (.isub, 1) := by decide +kernel
theorem dX4_letterAt_9 : decode cX4_letterAt 9 = .ok (.invokestatic 71, 3) := by decide +kernel
theorem dX4_letterAt_12 : decode cX4_letterAt 12 = .ok (.ifCond .eq 8, 3) := by decide +kernel
theorem dX4_letterAt_15 : decode cX4_letterAt 15 = .ok (.bipush (-9), 2) := by decide +kernel
theorem dX4_letterAt_17 : decode cX4_letterAt 17 = .ok (.goto 13, 3) := by decide +kernel
theorem dX4_letterAt_20 : decode cX4_letterAt 20 = .ok (.aload_n 0, 1) := by decide +kernel
theorem dX4_letterAt_21 : decode cX4_letterAt 21 = .ok (.getfield 15, 3) := by decide +kernel
theorem dX4_letterAt_24 : decode cX4_letterAt 24 = .ok (.iload_n 1, 1) := by decide +kernel
theorem dX4_letterAt_25 : decode cX4_letterAt 25 = .ok (.iconst 4, 1) := by decide +kernel
theorem dX4_letterAt_26 : decode cX4_letterAt 26 = .ok (.imul, 1) := by decide +kernel
theorem dX4_letterAt_27 : decode cX4_letterAt 27 = .ok (.iload_n 2, 1) := by decide +kernel
theorem dX4_letterAt_28 : decode cX4_letterAt 28 = .ok (.iadd, 1) := by decide +kernel
theorem dX4_letterAt_29 : decode cX4_letterAt 29 = .ok (.iaload, 1) := by decide +kernel
theorem dX4_letterAt_30 : decode cX4_letterAt 30 = .ok (.ireturn, 1) := by decide +kernel
set_option maxRecDepth 20000 in
theorem ggX4_bitAt_X4_sizeOf : GoodIn wsX4_bitAt wsX4_sizeOf := goodIn_r _ [5, 6, 7, 8, 9, 17, 18] (by decide +kernel) (by decide +kernel)
set_option maxRecDepth 20000 in
theorem gX4_bitAt_X4_sizeOf : GoodIn wsX4_bitAt (wsV RX4 75 RX4 yX4_sizeOf wsX4_sizeOf) := goodIn_app (goodIn_of _ (by decide +kernel)) ggX4_bitAt_X4_sizeOf
set_option maxRecDepth 20000 in
theorem ggX4_bitAt_X6_outside : GoodIn wsX4_bitAt wsX6_outside := goodIn_r _ [9] (by decide +kernel) (by decide +kernel)
set_option maxRecDepth 20000 in
theorem gX4_bitAt_X6_outside_n71 : GoodIn wsX4_bitAt (wsX6_outside) := ggX4_bitAt_X6_outside
set_option maxRecDepth 20000 in
theorem ggX4_bitAt_X4_letterAt : GoodIn wsX4_bitAt wsX4_letterAt := goodIn_r _ [13, 14, 1, 2, 3, 4, 5, 6, 7, 8, 9, 17, 18] (by decide +kernel) (by decide +kernel)
set_option maxRecDepth 20000 in
theorem gX4_bitAt_X4_letterAt : GoodIn wsX4_bitAt (wsV RX4 78 RX4 yX4_letterAt wsX4_letterAt) := goodIn_app (goodIn_of _ (by decide +kernel)) ggX4_bitAt_X4_letterAt
set_option maxRecDepth 20000 in
theorem ggX4_bitAt_X6_oneIf : GoodIn wsX4_bitAt wsX6_oneIf := goodIn_r _ [16] (by decide +kernel) (by decide +kernel)
set_option maxRecDepth 20000 in
theorem gX4_bitAt_X6_oneIf_n81 : GoodIn wsX4_bitAt (wsX6_oneIf) := ggX4_bitAt_X6_oneIf
theorem dX4_bitAt_0 : decode cX4_bitAt 0 = .ok (.iload_n 2, 1) := by decide +kernel
theorem dX4_bitAt_1 : decode cX4_bitAt 1 = .ok (.iconst 0, 1) := by decide +kernel
theorem dX4_bitAt_2 : decode cX4_bitAt 2 = .ok (.aload_n 0, 1) := by decide +kernel
theorem dX4_bitAt_3 : decode cX4_bitAt 3 = .ok (.iload_n 1, 1) := by decide +kernel
theorem dX4_bitAt_4 : decode cX4_bitAt 4 = .ok (.invokevirtual 75, 3) := by decide +kernel
theorem dX4_bitAt_7 : decode cX4_bitAt 7 = .ok (.bipush 121, 2) := by decide +kernel
theorem dX4_bitAt_9 : decode cX4_bitAt 9 = .ok (.imul, 1) := by decide +kernel
theorem dX4_bitAt_10 : decode cX4_bitAt 10 = .ok (.iconst 1, 1) := by decide +kernel
theorem dX4_bitAt_11 : decode cX4_bitAt 11 = .ok (.isub, 1) := by decide +kernel
theorem dX4_bitAt_12 : decode cX4_bitAt 12 = .ok (.invokestatic 71, 3) := by decide +kernel
theorem dX4_bitAt_15 : decode cX4_bitAt 15 = .ok (.ifCond .eq 6, 3) := by decide +kernel
theorem dX4_bitAt_18 : decode cX4_bitAt 18 = .ok (.bipush (-9), 2) := by decide +kernel
theorem dX4_bitAt_20 : decode cX4_bitAt 20 = .ok (.ireturn, 1) := by decide +kernel
theorem dX4_bitAt_21 : decode cX4_bitAt 21 = .ok (.aload_n 0, 1) := by decide +kernel
theorem dX4_bitAt_22 : decode cX4_bitAt 22 = .ok (.iload_n 1, 1) := by decide +kernel
theorem dX4_bitAt_23 : decode cX4_bitAt 23 = .ok (.iload_n 2, 1) := by decide +kernel
theorem dX4_bitAt_24 : decode cX4_bitAt 24 = .ok (.bipush 121, 2) := by decide +kernel
theorem dX4_bitAt_26 : decode cX4_bitAt 26 = .ok (.idiv, 1) := by decide +kernel
theorem dX4_bitAt_27 : decode cX4_bitAt 27 = .ok (.invokevirtual 78, 3) := by decide +kernel
theorem dX4_bitAt_30 : decode cX4_bitAt 30 = .ok (.iload_n 2, 1) := by decide +kernel
theorem dX4_bitAt_31 : decode cX4_bitAt 31 = .ok (.bipush 121, 2) := by decide +kernel
theorem dX4_bitAt_33 : decode cX4_bitAt 33 = .ok (.irem, 1) := by decide +kernel
theorem dX4_bitAt_34 : decode cX4_bitAt 34 = .ok (.if_icmp .ne 7, 3) := by decide +kernel
theorem dX4_bitAt_37 : decode cX4_bitAt 37 = .ok (.iconst 1, 1) := by decide +kernel
theorem dX4_bitAt_38 : decode cX4_bitAt 38 = .ok (.goto 4, 3) := by decide +kernel
theorem dX4_bitAt_41 : decode cX4_bitAt 41 = .ok (.iconst 0, 1) := by decide +kernel
theorem dX4_bitAt_42 : decode cX4_bitAt 42 = .ok (.invokestatic 81, 3) := by decide +kernel
theorem dX4_bitAt_45 : decode cX4_bitAt 45 = .ok (.ireturn, 1) := by decide +kernel
set_option maxRecDepth 20000 in
theorem ggX4_appendTo_X4_sizeOf : GoodIn wsX4_appendTo wsX4_sizeOf := goodIn_r _ [6, 7, 8, 9, 10, 23, 24] (by decide +kernel) (by decide +kernel)
set_option maxRecDepth 20000 in
theorem gX4_appendTo_X4_sizeOf : GoodIn wsX4_appendTo (wsV RX4 75 RX4 yX4_sizeOf wsX4_sizeOf) := goodIn_app (goodIn_of _ (by decide +kernel)) ggX4_appendTo_X4_sizeOf
set_option maxRecDepth 20000 in
theorem ggX4_appendTo_X2_append : GoodIn wsX4_appendTo wsX2_append := goodIn_r _ [15, 16, 17, 18, 19, 20, 21, 14, 22, 25, 26, 27] (by decide +kernel) (by decide +kernel)
set_option maxRecDepth 20000 in
theorem gX4_appendTo_X2_append : GoodIn wsX4_appendTo (wsV RX4 85 RX2 yX2_append wsX2_append) := goodIn_app (goodIn_of _ (by decide +kernel)) ggX4_appendTo_X2_append
theorem dX4_appendTo_0 : decode cX4_appendTo 0 = .ok (.iload_n 2, 1) := by decide +kernel
theorem dX4_appendTo_1 : decode cX4_appendTo 1 = .ok (.iconst 4, 1) := by decide +kernel
theorem dX4_appendTo_2 : decode cX4_appendTo 2 = .ok (.imul, 1) := by decide +kernel
theorem dX4_appendTo_3 : decode cX4_appendTo 3 = .ok (.istore_n 3, 1) := by decide +kernel
theorem dX4_appendTo_4 : decode cX4_appendTo 4 = .ok (.iload_n 3, 1) := by decide +kernel
theorem dX4_appendTo_5 : decode cX4_appendTo 5 = .ok (.aload_n 0, 1) := by decide +kernel
theorem dX4_appendTo_6 : decode cX4_appendTo 6 = .ok (.iload_n 2, 1) := by decide +kernel
theorem dX4_appendTo_7 : decode cX4_appendTo 7 = .ok (.invokevirtual 75, 3) := by decide +kernel
theorem dX4_appendTo_10 : decode cX4_appendTo 10 = .ok (.iadd, 1) := by decide +kernel
theorem dX4_appendTo_11 : decode cX4_appendTo 11 = .ok (.istore 4, 2) := by decide +kernel
theorem dX4_appendTo_13 : decode cX4_appendTo 13 = .ok (.iload_n 3, 1) := by decide +kernel
theorem dX4_appendTo_14 : decode cX4_appendTo 14 = .ok (.istore 5, 2) := by decide +kernel
theorem dX4_appendTo_16 : decode cX4_appendTo 16 = .ok (.iload 5, 2) := by decide +kernel
theorem dX4_appendTo_18 : decode cX4_appendTo 18 = .ok (.iload 4, 2) := by decide +kernel
theorem dX4_appendTo_20 : decode cX4_appendTo 20 = .ok (.if_icmp .ge 20, 3) := by decide +kernel
theorem dX4_appendTo_23 : decode cX4_appendTo 23 = .ok (.aload_n 1, 1) := by decide +kernel
theorem dX4_appendTo_24 : decode cX4_appendTo 24 = .ok (.aload_n 0, 1) := by decide +kernel
theorem dX4_appendTo_25 : decode cX4_appendTo 25 = .ok (.getfield 15, 3) := by decide +kernel
theorem dX4_appendTo_28 : decode cX4_appendTo 28 = .ok (.iload 5, 2) := by decide +kernel
theorem dX4_appendTo_30 : decode cX4_appendTo 30 = .ok (.iaload, 1) := by decide +kernel
theorem dX4_appendTo_31 : decode cX4_appendTo 31 = .ok (.invokevirtual 85, 3) := by decide +kernel
theorem dX4_appendTo_34 : decode cX4_appendTo 34 = .ok (.iinc 5 1, 3) := by decide +kernel
theorem dX4_appendTo_37 : decode cX4_appendTo 37 = .ok (.goto (-21), 3) := by decide +kernel
theorem dX4_appendTo_40 : decode cX4_appendTo 40 = .ok (.return_, 1) := by decide +kernel
set_option maxRecDepth 20000 in
theorem ggX5_init_X2_init : GoodIn wsX5_init wsX2_init := goodIn_r _ [11, 12, 2, 3, 13, 14, 15, 16, 17, 18, 19, 20, 21] (by decide +kernel) (by decide +kernel)
set_option maxRecDepth 20000 in
theorem gX5_init_X2_init : GoodIn wsX5_init (wsX2_init) := ggX5_init_X2_init
theorem dX5_init_0 : decode cX5_init 0 = .ok (.aload_n 0, 1) := by decide +kernel
theorem dX5_init_1 : decode cX5_init 1 = .ok (.invokespecial 3, 3) := by decide +kernel
theorem dX5_init_4 : decode cX5_init 4 = .ok (.aload_n 0, 1) := by decide +kernel
theorem dX5_init_5 : decode cX5_init 5 = .ok (.new 9, 3) := by decide +kernel
theorem dX5_init_8 : decode cX5_init 8 = .ok (.dup, 1) := by decide +kernel
theorem dX5_init_9 : decode cX5_init 9 = .ok (.sipush 600, 3) := by decide +kernel
theorem dX5_init_12 : decode cX5_init 12 = .ok (.invokespecial 11, 3) := by decide +kernel
theorem dX5_init_15 : decode cX5_init 15 = .ok (.putfield 14, 3) := by decide +kernel
theorem dX5_init_18 : decode cX5_init 18 = .ok (.aload_n 0, 1) := by decide +kernel
theorem dX5_init_19 : decode cX5_init 19 = .ok (.new 9, 3) := by decide +kernel
theorem dX5_init_22 : decode cX5_init 22 = .ok (.dup, 1) := by decide +kernel
theorem dX5_init_23 : decode cX5_init 23 = .ok (.sipush 600, 3) := by decide +kernel
theorem dX5_init_26 : decode cX5_init 26 = .ok (.invokespecial 11, 3) := by decide +kernel
theorem dX5_init_29 : decode cX5_init 29 = .ok (.putfield 20, 3) := by decide +kernel
theorem dX5_init_32 : decode cX5_init 32 = .ok (.return_, 1) := by decide +kernel
set_option maxRecDepth 20000 in
theorem ggX5_layPlace_X2_empty : GoodIn wsX5_layPlace wsX2_empty := goodIn_r _ [6, 7, 8, 25, 26, 27] (by decide +kernel) (by decide +kernel)
set_option maxRecDepth 20000 in
theorem gX5_layPlace_X2_empty : GoodIn wsX5_layPlace (wsV RX5 23 RX2 yX2_empty wsX2_empty) := goodIn_app (goodIn_of _ (by decide +kernel)) ggX5_layPlace_X2_empty
set_option maxRecDepth 20000 in
theorem ggX5_layPlace_X5_appendTwos : GoodIn wsX5_layPlace wsX5_appendTwos := goodIn_r _ [13, 1, 14, 15, 16, 5, 17, 8, 18, 7, 19, 20, 21, 22, 23, 24, 25, 26, 27] (by decide +kernel) (by decide +kernel)
set_option maxRecDepth 20000 in
theorem gX5_layPlace_X5_appendTwos : GoodIn wsX5_layPlace (wsV RX5 26 RX5 yX5_appendTwos wsX5_appendTwos) := goodIn_app (goodIn_of _ (by decide +kernel)) ggX5_layPlace_X5_appendTwos
theorem dX5_layPlace_0 : decode cX5_layPlace 0 = .ok (.iconst 4, 1) := by decide +kernel
theorem dX5_layPlace_1 : decode cX5_layPlace 1 = .ok (.iconst 2, 1) := by decide +kernel
theorem dX5_layPlace_2 : decode cX5_layPlace 2 = .ok (.iload_n 2, 1) := by decide +kernel
theorem dX5_layPlace_3 : decode cX5_layPlace 3 = .ok (.iload_n 3, 1) := by decide +kernel
theorem dX5_layPlace_4 : decode cX5_layPlace 4 = .ok (.iadd, 1) := by decide +kernel
theorem dX5_layPlace_5 : decode cX5_layPlace 5 = .ok (.imul, 1) := by decide +kernel
theorem dX5_layPlace_6 : decode cX5_layPlace 6 = .ok (.iadd, 1) := by decide +kernel
theorem dX5_layPlace_7 : decode cX5_layPlace 7 = .ok (.sipush 600, 3) := by decide +kernel
theorem dX5_layPlace_10 : decode cX5_layPlace 10 = .ok (.if_icmp .le 6, 3) := by decide +kernel
theorem dX5_layPlace_13 : decode cX5_layPlace 13 = .ok (.bipush (-3), 2) := by decide +kernel
theorem dX5_layPlace_15 : decode cX5_layPlace 15 = .ok (.ireturn, 1) := by decide +kernel
theorem dX5_layPlace_16 : decode cX5_layPlace 16 = .ok (.iload_n 1, 1) := by decide +kernel
theorem dX5_layPlace_17 : decode cX5_layPlace 17 = .ok (.bipush 20, 2) := by decide +kernel
theorem dX5_layPlace_19 : decode cX5_layPlace 19 = .ok (.imul, 1) := by decide +kernel
theorem dX5_layPlace_20 : decode cX5_layPlace 20 = .ok (.istore 4, 2) := by decide +kernel
theorem dX5_layPlace_22 : decode cX5_layPlace 22 = .ok (.aload_n 0, 1) := by decide +kernel
theorem dX5_layPlace_23 : decode cX5_layPlace 23 = .ok (.getfield 14, 3) := by decide +kernel
theorem dX5_layPlace_26 : decode cX5_layPlace 26 = .ok (.invokevirtual 23, 3) := by decide +kernel
theorem dX5_layPlace_29 : decode cX5_layPlace 29 = .ok (.aload_n 0, 1) := by decide +kernel
theorem dX5_layPlace_30 : decode cX5_layPlace 30 = .ok (.iload 4, 2) := by decide +kernel
theorem dX5_layPlace_32 : decode cX5_layPlace 32 = .ok (.iconst 1, 1) := by decide +kernel
theorem dX5_layPlace_33 : decode cX5_layPlace 33 = .ok (.iadd, 1) := by decide +kernel
theorem dX5_layPlace_34 : decode cX5_layPlace 34 = .ok (.iconst 1, 1) := by decide +kernel
theorem dX5_layPlace_35 : decode cX5_layPlace 35 = .ok (.invokevirtual 26, 3) := by decide +kernel
theorem dX5_layPlace_38 : decode cX5_layPlace 38 = .ok (.aload_n 0, 1) := by decide +kernel
theorem dX5_layPlace_39 : decode cX5_layPlace 39 = .ok (.iload 4, 2) := by decide +kernel
theorem dX5_layPlace_41 : decode cX5_layPlace 41 = .ok (.iconst 2, 1) := by decide +kernel
theorem dX5_layPlace_42 : decode cX5_layPlace 42 = .ok (.iadd, 1) := by decide +kernel
theorem dX5_layPlace_43 : decode cX5_layPlace 43 = .ok (.iload_n 2, 1) := by decide +kernel
theorem dX5_layPlace_44 : decode cX5_layPlace 44 = .ok (.invokevirtual 26, 3) := by decide +kernel
theorem dX5_layPlace_47 : decode cX5_layPlace 47 = .ok (.aload_n 0, 1) := by decide +kernel
theorem dX5_layPlace_48 : decode cX5_layPlace 48 = .ok (.iload 4, 2) := by decide +kernel
theorem dX5_layPlace_50 : decode cX5_layPlace 50 = .ok (.iconst 5, 1) := by decide +kernel
theorem dX5_layPlace_51 : decode cX5_layPlace 51 = .ok (.iadd, 1) := by decide +kernel
theorem dX5_layPlace_52 : decode cX5_layPlace 52 = .ok (.iconst 1, 1) := by decide +kernel
theorem dX5_layPlace_53 : decode cX5_layPlace 53 = .ok (.invokevirtual 26, 3) := by decide +kernel
theorem dX5_layPlace_56 : decode cX5_layPlace 56 = .ok (.aload_n 0, 1) := by decide +kernel
theorem dX5_layPlace_57 : decode cX5_layPlace 57 = .ok (.iload 4, 2) := by decide +kernel
theorem dX5_layPlace_59 : decode cX5_layPlace 59 = .ok (.bipush 6, 2) := by decide +kernel
theorem dX5_layPlace_61 : decode cX5_layPlace 61 = .ok (.iadd, 1) := by decide +kernel
theorem dX5_layPlace_62 : decode cX5_layPlace 62 = .ok (.iload_n 3, 1) := by decide +kernel
theorem dX5_layPlace_63 : decode cX5_layPlace 63 = .ok (.invokevirtual 26, 3) := by decide +kernel
theorem dX5_layPlace_66 : decode cX5_layPlace 66 = .ok (.aload_n 0, 1) := by decide +kernel
theorem dX5_layPlace_67 : decode cX5_layPlace 67 = .ok (.getfield 14, 3) := by decide +kernel
theorem dX5_layPlace_70 : decode cX5_layPlace 70 = .ok (.getfield 30, 3) := by decide +kernel
theorem dX5_layPlace_73 : decode cX5_layPlace 73 = .ok (.ireturn, 1) := by decide +kernel
set_option maxRecDepth 20000 in
theorem ggX5_appendTwos_X2_append : GoodIn wsX5_appendTwos wsX2_append := goodIn_r _ [6, 7, 8, 9, 10, 11, 12, 5, 13, 16, 17, 18] (by decide +kernel) (by decide +kernel)
set_option maxRecDepth 20000 in
theorem gX5_appendTwos_X2_append : GoodIn wsX5_appendTwos (wsV RX5 34 RX2 yX2_append wsX2_append) := goodIn_app (goodIn_of _ (by decide +kernel)) ggX5_appendTwos_X2_append
theorem dX5_appendTwos_0 : decode cX5_appendTwos 0 = .ok (.iconst 0, 1) := by decide +kernel
theorem dX5_appendTwos_1 : decode cX5_appendTwos 1 = .ok (.istore_n 3, 1) := by decide +kernel
theorem dX5_appendTwos_2 : decode cX5_appendTwos 2 = .ok (.iload_n 3, 1) := by decide +kernel
theorem dX5_appendTwos_3 : decode cX5_appendTwos 3 = .ok (.iload_n 2, 1) := by decide +kernel
theorem dX5_appendTwos_4 : decode cX5_appendTwos 4 = .ok (.if_icmp .ge 25, 3) := by decide +kernel
theorem dX5_appendTwos_7 : decode cX5_appendTwos 7 = .ok (.aload_n 0, 1) := by decide +kernel
theorem dX5_appendTwos_8 : decode cX5_appendTwos 8 = .ok (.getfield 14, 3) := by decide +kernel
theorem dX5_appendTwos_11 : decode cX5_appendTwos 11 = .ok (.iload_n 1, 1) := by decide +kernel
theorem dX5_appendTwos_12 : decode cX5_appendTwos 12 = .ok (.invokevirtual 34, 3) := by decide +kernel
theorem dX5_appendTwos_15 : decode cX5_appendTwos 15 = .ok (.aload_n 0, 1) := by decide +kernel
theorem dX5_appendTwos_16 : decode cX5_appendTwos 16 = .ok (.getfield 14, 3) := by decide +kernel
theorem dX5_appendTwos_19 : decode cX5_appendTwos 19 = .ok (.iconst 0, 1) := by decide +kernel
theorem dX5_appendTwos_20 : decode cX5_appendTwos 20 = .ok (.invokevirtual 34, 3) := by decide +kernel
theorem dX5_appendTwos_23 : decode cX5_appendTwos 23 = .ok (.iinc 3 1, 3) := by decide +kernel
theorem dX5_appendTwos_26 : decode cX5_appendTwos 26 = .ok (.goto (-24), 3) := by decide +kernel
theorem dX5_appendTwos_29 : decode cX5_appendTwos 29 = .ok (.return_, 1) := by decide +kernel
set_option maxRecDepth 20000 in
theorem ggX5_addLetter_X2_append : GoodIn wsX5_addLetter wsX2_append := goodIn_r _ [6, 7, 8, 9, 10, 11, 12, 5, 13, 16, 17, 18] (by decide +kernel) (by decide +kernel)
set_option maxRecDepth 20000 in
theorem gX5_addLetter_X2_append : GoodIn wsX5_addLetter (wsV RX5 34 RX2 yX2_append wsX2_append) := goodIn_app (goodIn_of _ (by decide +kernel)) ggX5_addLetter_X2_append
theorem dX5_addLetter_0 : decode cX5_addLetter 0 = .ok (.aload_n 0, 1) := by decide +kernel
theorem dX5_addLetter_1 : decode cX5_addLetter 1 = .ok (.getfield 14, 3) := by decide +kernel
theorem dX5_addLetter_4 : decode cX5_addLetter 4 = .ok (.getfield 30, 3) := by decide +kernel
theorem dX5_addLetter_7 : decode cX5_addLetter 7 = .ok (.sipush 600, 3) := by decide +kernel
theorem dX5_addLetter_10 : decode cX5_addLetter 10 = .ok (.if_icmp .lt 6, 3) := by decide +kernel
theorem dX5_addLetter_13 : decode cX5_addLetter 13 = .ok (.bipush (-3), 2) := by decide +kernel
theorem dX5_addLetter_15 : decode cX5_addLetter 15 = .ok (.ireturn, 1) := by decide +kernel
theorem dX5_addLetter_16 : decode cX5_addLetter 16 = .ok (.aload_n 0, 1) := by decide +kernel
theorem dX5_addLetter_17 : decode cX5_addLetter 17 = .ok (.getfield 14, 3) := by decide +kernel
theorem dX5_addLetter_20 : decode cX5_addLetter 20 = .ok (.iload_n 1, 1) := by decide +kernel
theorem dX5_addLetter_21 : decode cX5_addLetter 21 = .ok (.invokevirtual 34, 3) := by decide +kernel
theorem dX5_addLetter_24 : decode cX5_addLetter 24 = .ok (.aload_n 0, 1) := by decide +kernel
theorem dX5_addLetter_25 : decode cX5_addLetter 25 = .ok (.getfield 14, 3) := by decide +kernel
theorem dX5_addLetter_28 : decode cX5_addLetter 28 = .ok (.getfield 30, 3) := by decide +kernel
theorem dX5_addLetter_31 : decode cX5_addLetter 31 = .ok (.ireturn, 1) := by decide +kernel
set_option maxRecDepth 20000 in
theorem ggX5_doSteps_X5_doStep : GoodIn wsX5_doSteps wsX5_doStep := goodIn_r _ [5, 6, 7, 8, 9, 10, 11, 12, 13, 14, 15, 16, 17, 18, 19, 20, 21, 22, 23, 24, 25, 26, 27, 28, 29, 30, 31, 32, 33, 34, 35, 36, 37, 38, 39, 40, 41, 42, 43, 44, 45, 46, 47, 48, 49, 50, 51, 52] (by decide +kernel) (by decide +kernel)
set_option maxRecDepth 20000 in
theorem gX5_doSteps_X5_doStep : GoodIn wsX5_doSteps (wsV RX5 37 RX5 yX5_doStep wsX5_doStep) := goodIn_app (goodIn_of _ (by decide +kernel)) ggX5_doSteps_X5_doStep
theorem dX5_doSteps_0 : decode cX5_doSteps 0 = .ok (.iconst 0, 1) := by decide +kernel
theorem dX5_doSteps_1 : decode cX5_doSteps 1 = .ok (.istore_n 3, 1) := by decide +kernel
theorem dX5_doSteps_2 : decode cX5_doSteps 2 = .ok (.iload_n 3, 1) := by decide +kernel
theorem dX5_doSteps_3 : decode cX5_doSteps 3 = .ok (.iload_n 1, 1) := by decide +kernel
theorem dX5_doSteps_4 : decode cX5_doSteps 4 = .ok (.if_icmp .ge 17, 3) := by decide +kernel
theorem dX5_doSteps_7 : decode cX5_doSteps 7 = .ok (.aload_n 0, 1) := by decide +kernel
theorem dX5_doSteps_8 : decode cX5_doSteps 8 = .ok (.aload_n 2, 1) := by decide +kernel
theorem dX5_doSteps_9 : decode cX5_doSteps 9 = .ok (.invokevirtual 37, 3) := by decide +kernel
theorem dX5_doSteps_12 : decode cX5_doSteps 12 = .ok (.ifCond .eq 9, 3) := by decide +kernel
theorem dX5_doSteps_15 : decode cX5_doSteps 15 = .ok (.iinc 3 1, 3) := by decide +kernel
theorem dX5_doSteps_18 : decode cX5_doSteps 18 = .ok (.goto (-16), 3) := by decide +kernel
theorem dX5_doSteps_21 : decode cX5_doSteps 21 = .ok (.iload_n 3, 1) := by decide +kernel
theorem dX5_doSteps_22 : decode cX5_doSteps 22 = .ok (.ireturn, 1) := by decide +kernel
set_option maxRecDepth 20000 in
theorem ggX5_stepsToPlace_X2_become : GoodIn wsX5_stepsToPlace wsX2_become := goodIn_r _ [7, 8, 9, 10, 11, 6, 12, 13, 14, 15, 16, 17, 18, 19, 20, 21, 22, 23, 24, 25, 26, 27, 28, 29, 67, 68, 69] (by decide +kernel) (by decide +kernel)
set_option maxRecDepth 20000 in
theorem gX5_stepsToPlace_X2_become : GoodIn wsX5_stepsToPlace (wsV RX5 41 RX2 yX2_become wsX2_become) := goodIn_app (goodIn_of _ (by decide +kernel)) ggX5_stepsToPlace_X2_become
set_option maxRecDepth 20000 in
theorem ggX5_stepsToPlace_X5_doStep : GoodIn wsX5_stepsToPlace wsX5_doStep := goodIn_r _ [34, 2, 35, 15, 16, 6, 17, 8, 18, 13, 19, 20, 21, 22, 23, 24, 25, 36, 37, 38, 39, 40, 41, 42, 43, 44, 45, 46, 47, 48, 49, 50, 51, 52, 53, 54, 55, 56, 27, 28, 29, 65, 66, 67, 68, 69, 70, 71] (by decide +kernel) (by decide +kernel)
set_option maxRecDepth 20000 in
theorem gX5_stepsToPlace_X5_doStep : GoodIn wsX5_stepsToPlace (wsV RX5 37 RX5 yX5_doStep wsX5_doStep) := goodIn_app (goodIn_of _ (by decide +kernel)) ggX5_stepsToPlace_X5_doStep
set_option maxRecDepth 20000 in
theorem ggX5_stepsToPlace_X5_middle : GoodIn wsX5_stepsToPlace wsX5_middle := goodIn_r _ [60, 2, 35, 15, 16, 6, 17, 8, 18, 13, 19, 20, 21, 22, 23, 24, 25, 61, 62, 63, 33, 64, 65, 66, 67, 68, 69] (by decide +kernel) (by decide +kernel)
set_option maxRecDepth 20000 in
theorem gX5_stepsToPlace_X5_middle : GoodIn wsX5_stepsToPlace (wsV RX5 45 RX5 yX5_middle wsX5_middle) := goodIn_app (goodIn_of _ (by decide +kernel)) ggX5_stepsToPlace_X5_middle
theorem dX5_stepsToPlace_0 : decode cX5_stepsToPlace 0 = .ok (.aload_n 0, 1) := by decide +kernel
theorem dX5_stepsToPlace_1 : decode cX5_stepsToPlace 1 = .ok (.getfield 20, 3) := by decide +kernel
theorem dX5_stepsToPlace_4 : decode cX5_stepsToPlace 4 = .ok (.aload_n 0, 1) := by decide +kernel
theorem dX5_stepsToPlace_5 : decode cX5_stepsToPlace 5 = .ok (.getfield 14, 3) := by decide +kernel
theorem dX5_stepsToPlace_8 : decode cX5_stepsToPlace 8 = .ok (.invokevirtual 41, 3) := by decide +kernel
theorem dX5_stepsToPlace_11 : decode cX5_stepsToPlace 11 = .ok (.iconst 0, 1) := by decide +kernel
theorem dX5_stepsToPlace_12 : decode cX5_stepsToPlace 12 = .ok (.istore_n 2, 1) := by decide +kernel
theorem dX5_stepsToPlace_13 : decode cX5_stepsToPlace 13 = .ok (.iload_n 2, 1) := by decide +kernel
theorem dX5_stepsToPlace_14 : decode cX5_stepsToPlace 14 = .ok (.sipush 20000, 3) := by decide +kernel
theorem dX5_stepsToPlace_17 : decode cX5_stepsToPlace 17 = .ok (.if_icmp .ge 25, 3) := by decide +kernel
theorem dX5_stepsToPlace_20 : decode cX5_stepsToPlace 20 = .ok (.aload_n 0, 1) := by decide +kernel
theorem dX5_stepsToPlace_21 : decode cX5_stepsToPlace 21 = .ok (.aload_n 1, 1) := by decide +kernel
theorem dX5_stepsToPlace_22 : decode cX5_stepsToPlace 22 = .ok (.invokevirtual 37, 3) := by decide +kernel
theorem dX5_stepsToPlace_25 : decode cX5_stepsToPlace 25 = .ok (.ifCond .eq 17, 3) := by decide +kernel
theorem dX5_stepsToPlace_28 : decode cX5_stepsToPlace 28 = .ok (.iinc 2 1, 3) := by decide +kernel
theorem dX5_stepsToPlace_31 : decode cX5_stepsToPlace 31 = .ok (.aload_n 0, 1) := by decide +kernel
theorem dX5_stepsToPlace_32 : decode cX5_stepsToPlace 32 = .ok (.invokevirtual 45, 3) := by decide +kernel
theorem dX5_stepsToPlace_35 : decode cX5_stepsToPlace 35 = .ok (.bipush (-9), 2) := by decide +kernel
theorem dX5_stepsToPlace_37 : decode cX5_stepsToPlace 37 = .ok (.if_icmp .eq (-24), 3) := by decide +kernel
theorem dX5_stepsToPlace_40 : decode cX5_stepsToPlace 40 = .ok (.iload_n 2, 1) := by decide +kernel
theorem dX5_stepsToPlace_41 : decode cX5_stepsToPlace 41 = .ok (.ireturn, 1) := by decide +kernel
theorem dX5_stepsToPlace_42 : decode cX5_stepsToPlace 42 = .ok (.aload_n 0, 1) := by decide +kernel
theorem dX5_stepsToPlace_43 : decode cX5_stepsToPlace 43 = .ok (.getfield 14, 3) := by decide +kernel
theorem dX5_stepsToPlace_46 : decode cX5_stepsToPlace 46 = .ok (.aload_n 0, 1) := by decide +kernel
theorem dX5_stepsToPlace_47 : decode cX5_stepsToPlace 47 = .ok (.getfield 20, 3) := by decide +kernel
theorem dX5_stepsToPlace_50 : decode cX5_stepsToPlace 50 = .ok (.invokevirtual 41, 3) := by decide +kernel
theorem dX5_stepsToPlace_53 : decode cX5_stepsToPlace 53 = .ok (.bipush (-2), 2) := by decide +kernel
theorem dX5_stepsToPlace_55 : decode cX5_stepsToPlace 55 = .ok (.ireturn, 1) := by decide +kernel
set_option maxRecDepth 20000 in
theorem ggX5_doStep_X2_get : GoodIn wsX5_doStep wsX2_get := goodIn_r _ [6, 7, 8, 9, 10, 11, 12, 13, 14, 15, 5, 16, 43, 44, 45] (by decide +kernel) (by decide +kernel)
set_option maxRecDepth 20000 in
theorem gX5_doStep_X2_get : GoodIn wsX5_doStep (wsV RX5 49 RX2 yX2_get wsX2_get) := goodIn_app (goodIn_of _ (by decide +kernel)) ggX5_doStep_X2_get
set_option maxRecDepth 20000 in
theorem ggX5_doStep_X4_sizeOf : GoodIn wsX5_doStep wsX4_sizeOf := goodIn_r _ [21, 22, 10, 11, 12, 46, 47] (by decide +kernel) (by decide +kernel)
set_option maxRecDepth 20000 in
theorem gX5_doStep_X4_sizeOf : GoodIn wsX5_doStep (wsV RX5 53 RX4 yX4_sizeOf wsX4_sizeOf) := goodIn_app (goodIn_of _ (by decide +kernel)) ggX5_doStep_X4_sizeOf
set_option maxRecDepth 20000 in
theorem ggX5_doStep_X2_drop : GoodIn wsX5_doStep wsX2_drop := goodIn_r _ [26, 7, 27, 28, 29, 30, 9, 13, 14, 15, 5, 16, 8, 43, 44, 45] (by decide +kernel) (by decide +kernel)
set_option maxRecDepth 20000 in
theorem gX5_doStep_X2_drop : GoodIn wsX5_doStep (wsV RX5 58 RX2 yX2_drop wsX2_drop) := goodIn_app (goodIn_of _ (by decide +kernel)) ggX5_doStep_X2_drop
set_option maxRecDepth 20000 in
theorem ggX5_doStep_X4_appendTo : GoodIn wsX5_doStep wsX4_appendTo := goodIn_r _ [34, 35, 36, 18, 19, 20, 21, 22, 10, 11, 12, 37, 38, 39, 5, 40, 7, 8, 9, 13, 14, 15, 16, 46, 47, 43, 44, 45] (by decide +kernel) (by decide +kernel)
set_option maxRecDepth 20000 in
theorem gX5_doStep_X4_appendTo : GoodIn wsX5_doStep (wsV RX5 61 RX4 yX4_appendTo wsX4_appendTo) := goodIn_app (goodIn_of _ (by decide +kernel)) ggX5_doStep_X4_appendTo
theorem dX5_doStep_0 : decode cX5_doStep 0 = .ok (.aload_n 0, 1) := by decide +kernel
theorem dX5_doStep_1 : decode cX5_doStep 1 = .ok (.getfield 14, 3) := by decide +kernel
theorem dX5_doStep_4 : decode cX5_doStep 4 = .ok (.iconst 0, 1) := by decide +kernel
theorem dX5_doStep_5 : decode cX5_doStep 5 = .ok (.invokevirtual 49, 3) := by decide +kernel
theorem dX5_doStep_8 : decode cX5_doStep 8 = .ok (.istore_n 2, 1) := by decide +kernel
theorem dX5_doStep_9 : decode cX5_doStep 9 = .ok (.aload_n 1, 1) := by decide +kernel
theorem dX5_doStep_10 : decode cX5_doStep 10 = .ok (.iload_n 2, 1) := by decide +kernel
theorem dX5_doStep_11 : decode cX5_doStep 11 = .ok (.invokevirtual 53, 3) := by decide +kernel
theorem dX5_doStep_14 : decode cX5_doStep 14 = .ok (.istore_n 3, 1) := by decide +kernel
theorem dX5_doStep_15 : decode cX5_doStep 15 = .ok (.aload_n 0, 1) := by decide +kernel
theorem dX5_doStep_16 : decode cX5_doStep 16 = .ok (.getfield 14, 3) := by decide +kernel
theorem dX5_doStep_19 : decode cX5_doStep 19 = .ok (.getfield 30, 3) := by decide +kernel
theorem dX5_doStep_22 : decode cX5_doStep 22 = .ok (.iconst 2, 1) := by decide +kernel
theorem dX5_doStep_23 : decode cX5_doStep 23 = .ok (.if_icmp .lt 24, 3) := by decide +kernel
theorem dX5_doStep_26 : decode cX5_doStep 26 = .ok (.iload_n 3, 1) := by decide +kernel
theorem dX5_doStep_27 : decode cX5_doStep 27 = .ok (.ifCond .eq 20, 3) := by decide +kernel
theorem dX5_doStep_30 : decode cX5_doStep 30 = .ok (.aload_n 0, 1) := by decide +kernel
theorem dX5_doStep_31 : decode cX5_doStep 31 = .ok (.getfield 14, 3) := by decide +kernel
theorem dX5_doStep_34 : decode cX5_doStep 34 = .ok (.getfield 30, 3) := by decide +kernel
theorem dX5_doStep_37 : decode cX5_doStep 37 = .ok (.iconst 2, 1) := by decide +kernel
theorem dX5_doStep_38 : decode cX5_doStep 38 = .ok (.isub, 1) := by decide +kernel
theorem dX5_doStep_39 : decode cX5_doStep 39 = .ok (.iload_n 3, 1) := by decide +kernel
theorem dX5_doStep_40 : decode cX5_doStep 40 = .ok (.iadd, 1) := by decide +kernel
theorem dX5_doStep_41 : decode cX5_doStep 41 = .ok (.sipush 600, 3) := by decide +kernel
theorem dX5_doStep_44 : decode cX5_doStep 44 = .ok (.if_icmp .le 5, 3) := by decide +kernel
theorem dX5_doStep_47 : decode cX5_doStep 47 = .ok (.iconst 0, 1) := by decide +kernel
theorem dX5_doStep_48 : decode cX5_doStep 48 = .ok (.ireturn, 1) := by decide +kernel
theorem dX5_doStep_49 : decode cX5_doStep 49 = .ok (.aload_n 0, 1) := by decide +kernel
theorem dX5_doStep_50 : decode cX5_doStep 50 = .ok (.getfield 14, 3) := by decide +kernel
theorem dX5_doStep_53 : decode cX5_doStep 53 = .ok (.iconst 2, 1) := by decide +kernel
theorem dX5_doStep_54 : decode cX5_doStep 54 = .ok (.invokevirtual 58, 3) := by decide +kernel
theorem dX5_doStep_57 : decode cX5_doStep 57 = .ok (.aload_n 1, 1) := by decide +kernel
theorem dX5_doStep_58 : decode cX5_doStep 58 = .ok (.aload_n 0, 1) := by decide +kernel
theorem dX5_doStep_59 : decode cX5_doStep 59 = .ok (.getfield 14, 3) := by decide +kernel
theorem dX5_doStep_62 : decode cX5_doStep 62 = .ok (.iload_n 2, 1) := by decide +kernel
theorem dX5_doStep_63 : decode cX5_doStep 63 = .ok (.invokevirtual 61, 3) := by decide +kernel
theorem dX5_doStep_66 : decode cX5_doStep 66 = .ok (.iconst 1, 1) := by decide +kernel
theorem dX5_doStep_67 : decode cX5_doStep 67 = .ok (.ireturn, 1) := by decide +kernel
set_option maxRecDepth 20000 in
theorem ggX5_tellPlace_X5_middle : GoodIn wsX5_tellPlace wsX5_middle := goodIn_r _ [6, 1, 7, 8, 9, 10, 11, 12, 13, 14, 15, 16, 17, 18, 19, 20, 21, 22, 23, 24, 5, 25, 26, 27, 28, 29, 30] (by decide +kernel) (by decide +kernel)
set_option maxRecDepth 20000 in
theorem gX5_tellPlace_X5_middle : GoodIn wsX5_tellPlace (wsV RX5 45 RX5 yX5_middle wsX5_middle) := goodIn_app (goodIn_of _ (by decide +kernel)) ggX5_tellPlace_X5_middle
set_option maxRecDepth 20000 in
theorem ggX5_tellPlace_X2_get : GoodIn wsX5_tellPlace wsX2_get := goodIn_r _ [11, 12, 13, 14, 15, 16, 17, 18, 19, 20, 10, 21, 28, 29, 30] (by decide +kernel) (by decide +kernel)
set_option maxRecDepth 20000 in
theorem gX5_tellPlace_X2_get : GoodIn wsX5_tellPlace (wsV RX5 49 RX2 yX2_get wsX2_get) := goodIn_app (goodIn_of _ (by decide +kernel)) ggX5_tellPlace_X2_get
theorem dX5_tellPlace_0 : decode cX5_tellPlace 0 = .ok (.aload_n 0, 1) := by decide +kernel
theorem dX5_tellPlace_1 : decode cX5_tellPlace 1 = .ok (.invokevirtual 45, 3) := by decide +kernel
theorem dX5_tellPlace_4 : decode cX5_tellPlace 4 = .ok (.istore_n 2, 1) := by decide +kernel
theorem dX5_tellPlace_5 : decode cX5_tellPlace 5 = .ok (.iload_n 2, 1) := by decide +kernel
theorem dX5_tellPlace_6 : decode cX5_tellPlace 6 = .ok (.bipush (-9), 2) := by decide +kernel
theorem dX5_tellPlace_8 : decode cX5_tellPlace 8 = .ok (.if_icmp .ne 6, 3) := by decide +kernel
theorem dX5_tellPlace_11 : decode cX5_tellPlace 11 = .ok (.bipush (-9), 2) := by decide +kernel
theorem dX5_tellPlace_13 : decode cX5_tellPlace 13 = .ok (.ireturn, 1) := by decide +kernel
theorem dX5_tellPlace_14 : decode cX5_tellPlace 14 = .ok (.aload_n 0, 1) := by decide +kernel
theorem dX5_tellPlace_15 : decode cX5_tellPlace 15 = .ok (.getfield 14, 3) := by decide +kernel
theorem dX5_tellPlace_18 : decode cX5_tellPlace 18 = .ok (.iconst 0, 1) := by decide +kernel
theorem dX5_tellPlace_19 : decode cX5_tellPlace 19 = .ok (.invokevirtual 49, 3) := by decide +kernel
theorem dX5_tellPlace_22 : decode cX5_tellPlace 22 = .ok (.bipush 20, 2) := by decide +kernel
theorem dX5_tellPlace_24 : decode cX5_tellPlace 24 = .ok (.idiv, 1) := by decide +kernel
theorem dX5_tellPlace_25 : decode cX5_tellPlace 25 = .ok (.istore_n 3, 1) := by decide +kernel
theorem dX5_tellPlace_26 : decode cX5_tellPlace 26 = .ok (.iload_n 1, 1) := by decide +kernel
theorem dX5_tellPlace_27 : decode cX5_tellPlace 27 = .ok (.tableswitch 39 0 2 #[25, 29, 33], 25) := by decide +kernel
theorem dX5_tellPlace_52 : decode cX5_tellPlace 52 = .ok (.iload_n 3, 1) := by decide +kernel
theorem dX5_tellPlace_53 : decode cX5_tellPlace 53 = .ok (.iconst 2, 1) := by decide +kernel
theorem dX5_tellPlace_54 : decode cX5_tellPlace 54 = .ok (.idiv, 1) := by decide +kernel
theorem dX5_tellPlace_55 : decode cX5_tellPlace 55 = .ok (.ireturn, 1) := by decide +kernel
theorem dX5_tellPlace_56 : decode cX5_tellPlace 56 = .ok (.iload_n 3, 1) := by decide +kernel
theorem dX5_tellPlace_57 : decode cX5_tellPlace 57 = .ok (.iconst 2, 1) := by decide +kernel
theorem dX5_tellPlace_58 : decode cX5_tellPlace 58 = .ok (.irem, 1) := by decide +kernel
theorem dX5_tellPlace_59 : decode cX5_tellPlace 59 = .ok (.ireturn, 1) := by decide +kernel
theorem dX5_tellPlace_60 : decode cX5_tellPlace 60 = .ok (.iload_n 2, 1) := by decide +kernel
theorem dX5_tellPlace_61 : decode cX5_tellPlace 61 = .ok (.iconst 2, 1) := by decide +kernel
theorem dX5_tellPlace_62 : decode cX5_tellPlace 62 = .ok (.isub, 1) := by decide +kernel
theorem dX5_tellPlace_63 : decode cX5_tellPlace 63 = .ok (.iconst 2, 1) := by decide +kernel
theorem dX5_tellPlace_64 : decode cX5_tellPlace 64 = .ok (.idiv, 1) := by decide +kernel
theorem dX5_tellPlace_65 : decode cX5_tellPlace 65 = .ok (.ireturn, 1) := by decide +kernel
theorem dX5_tellPlace_66 : decode cX5_tellPlace 66 = .ok (.aload_n 0, 1) := by decide +kernel
theorem dX5_tellPlace_67 : decode cX5_tellPlace 67 = .ok (.getfield 14, 3) := by decide +kernel
theorem dX5_tellPlace_70 : decode cX5_tellPlace 70 = .ok (.getfield 30, 3) := by decide +kernel
theorem dX5_tellPlace_73 : decode cX5_tellPlace 73 = .ok (.iload_n 2, 1) := by decide +kernel
theorem dX5_tellPlace_74 : decode cX5_tellPlace 74 = .ok (.isub, 1) := by decide +kernel
theorem dX5_tellPlace_75 : decode cX5_tellPlace 75 = .ok (.iconst 2, 1) := by decide +kernel
theorem dX5_tellPlace_76 : decode cX5_tellPlace 76 = .ok (.isub, 1) := by decide +kernel
theorem dX5_tellPlace_77 : decode cX5_tellPlace 77 = .ok (.iconst 2, 1) := by decide +kernel
theorem dX5_tellPlace_78 : decode cX5_tellPlace 78 = .ok (.idiv, 1) := by decide +kernel
theorem dX5_tellPlace_79 : decode cX5_tellPlace 79 = .ok (.ireturn, 1) := by decide +kernel
set_option maxRecDepth 20000 in
theorem ggX5_middle_X2_get : GoodIn wsX5_middle wsX2_get := goodIn_r _ [6, 7, 8, 9, 10, 11, 12, 13, 14, 15, 5, 16, 24, 25, 26] (by decide +kernel) (by decide +kernel)
set_option maxRecDepth 20000 in
theorem gX5_middle_X2_get : GoodIn wsX5_middle (wsV RX5 49 RX2 yX2_get wsX2_get) := goodIn_app (goodIn_of _ (by decide +kernel)) ggX5_middle_X2_get
set_option maxRecDepth 20000 in
theorem ggX5_middle_X5_behindTwos : GoodIn wsX5_middle wsX5_behindTwos := goodIn_r _ [21, 1, 2, 3, 4, 5, 6, 7, 8, 9, 10, 11, 12, 13, 14, 15, 16, 22, 23, 24, 25, 26] (by decide +kernel) (by decide +kernel)
set_option maxRecDepth 20000 in
theorem gX5_middle_X5_behindTwos : GoodIn wsX5_middle (wsV RX5 65 RX5 yX5_behindTwos wsX5_behindTwos) := goodIn_app (goodIn_of _ (by decide +kernel)) ggX5_middle_X5_behindTwos
theorem dX5_middle_0 : decode cX5_middle 0 = .ok (.aload_n 0, 1) := by decide +kernel
theorem dX5_middle_1 : decode cX5_middle 1 = .ok (.getfield 14, 3) := by decide +kernel
theorem dX5_middle_4 : decode cX5_middle 4 = .ok (.iconst 0, 1) := by decide +kernel
theorem dX5_middle_5 : decode cX5_middle 5 = .ok (.invokevirtual 49, 3) := by decide +kernel
theorem dX5_middle_8 : decode cX5_middle 8 = .ok (.istore_n 1, 1) := by decide +kernel
theorem dX5_middle_9 : decode cX5_middle 9 = .ok (.iload_n 1, 1) := by decide +kernel
theorem dX5_middle_10 : decode cX5_middle 10 = .ok (.bipush 20, 2) := by decide +kernel
theorem dX5_middle_12 : decode cX5_middle 12 = .ok (.irem, 1) := by decide +kernel
theorem dX5_middle_13 : decode cX5_middle 13 = .ok (.iconst 1, 1) := by decide +kernel
theorem dX5_middle_14 : decode cX5_middle 14 = .ok (.if_icmp .ne 14, 3) := by decide +kernel
theorem dX5_middle_17 : decode cX5_middle 17 = .ok (.aload_n 0, 1) := by decide +kernel
theorem dX5_middle_18 : decode cX5_middle 18 = .ok (.getfield 14, 3) := by decide +kernel
theorem dX5_middle_21 : decode cX5_middle 21 = .ok (.iconst 1, 1) := by decide +kernel
theorem dX5_middle_22 : decode cX5_middle 22 = .ok (.invokevirtual 49, 3) := by decide +kernel
theorem dX5_middle_25 : decode cX5_middle 25 = .ok (.ifCond .eq 6, 3) := by decide +kernel
theorem dX5_middle_28 : decode cX5_middle 28 = .ok (.bipush (-9), 2) := by decide +kernel
theorem dX5_middle_30 : decode cX5_middle 30 = .ok (.ireturn, 1) := by decide +kernel
theorem dX5_middle_31 : decode cX5_middle 31 = .ok (.iload_n 1, 1) := by decide +kernel
theorem dX5_middle_32 : decode cX5_middle 32 = .ok (.iconst 1, 1) := by decide +kernel
theorem dX5_middle_33 : decode cX5_middle 33 = .ok (.isub, 1) := by decide +kernel
theorem dX5_middle_34 : decode cX5_middle 34 = .ok (.istore_n 2, 1) := by decide +kernel
theorem dX5_middle_35 : decode cX5_middle 35 = .ok (.aload_n 0, 1) := by decide +kernel
theorem dX5_middle_36 : decode cX5_middle 36 = .ok (.iload_n 2, 1) := by decide +kernel
theorem dX5_middle_37 : decode cX5_middle 37 = .ok (.iconst 2, 1) := by decide +kernel
theorem dX5_middle_38 : decode cX5_middle 38 = .ok (.iadd, 1) := by decide +kernel
theorem dX5_middle_39 : decode cX5_middle 39 = .ok (.iconst 2, 1) := by decide +kernel
theorem dX5_middle_40 : decode cX5_middle 40 = .ok (.invokevirtual 65, 3) := by decide +kernel
theorem dX5_middle_43 : decode cX5_middle 43 = .ok (.istore_n 3, 1) := by decide +kernel
theorem dX5_middle_44 : decode cX5_middle 44 = .ok (.aload_n 0, 1) := by decide +kernel
theorem dX5_middle_45 : decode cX5_middle 45 = .ok (.getfield 14, 3) := by decide +kernel
theorem dX5_middle_48 : decode cX5_middle 48 = .ok (.iload_n 3, 1) := by decide +kernel
theorem dX5_middle_49 : decode cX5_middle 49 = .ok (.invokevirtual 49, 3) := by decide +kernel
theorem dX5_middle_52 : decode cX5_middle 52 = .ok (.iload_n 2, 1) := by decide +kernel
theorem dX5_middle_53 : decode cX5_middle 53 = .ok (.iconst 5, 1) := by decide +kernel
theorem dX5_middle_54 : decode cX5_middle 54 = .ok (.iadd, 1) := by decide +kernel
theorem dX5_middle_55 : decode cX5_middle 55 = .ok (.if_icmp .ne 16, 3) := by decide +kernel
theorem dX5_middle_58 : decode cX5_middle 58 = .ok (.aload_n 0, 1) := by decide +kernel
theorem dX5_middle_59 : decode cX5_middle 59 = .ok (.getfield 14, 3) := by decide +kernel
theorem dX5_middle_62 : decode cX5_middle 62 = .ok (.iload_n 3, 1) := by decide +kernel
theorem dX5_middle_63 : decode cX5_middle 63 = .ok (.iconst 1, 1) := by decide +kernel
theorem dX5_middle_64 : decode cX5_middle 64 = .ok (.iadd, 1) := by decide +kernel
theorem dX5_middle_65 : decode cX5_middle 65 = .ok (.invokevirtual 49, 3) := by decide +kernel
theorem dX5_middle_68 : decode cX5_middle 68 = .ok (.ifCond .eq 6, 3) := by decide +kernel
theorem dX5_middle_71 : decode cX5_middle 71 = .ok (.bipush (-9), 2) := by decide +kernel
theorem dX5_middle_73 : decode cX5_middle 73 = .ok (.ireturn, 1) := by decide +kernel
theorem dX5_middle_74 : decode cX5_middle 74 = .ok (.aload_n 0, 1) := by decide +kernel
theorem dX5_middle_75 : decode cX5_middle 75 = .ok (.iload_n 2, 1) := by decide +kernel
theorem dX5_middle_76 : decode cX5_middle 76 = .ok (.bipush 6, 2) := by decide +kernel
theorem dX5_middle_78 : decode cX5_middle 78 = .ok (.iadd, 1) := by decide +kernel
theorem dX5_middle_79 : decode cX5_middle 79 = .ok (.iload_n 3, 1) := by decide +kernel
theorem dX5_middle_80 : decode cX5_middle 80 = .ok (.iconst 2, 1) := by decide +kernel
theorem dX5_middle_81 : decode cX5_middle 81 = .ok (.iadd, 1) := by decide +kernel
theorem dX5_middle_82 : decode cX5_middle 82 = .ok (.invokevirtual 65, 3) := by decide +kernel
theorem dX5_middle_85 : decode cX5_middle 85 = .ok (.aload_n 0, 1) := by decide +kernel
theorem dX5_middle_86 : decode cX5_middle 86 = .ok (.getfield 14, 3) := by decide +kernel
theorem dX5_middle_89 : decode cX5_middle 89 = .ok (.getfield 30, 3) := by decide +kernel
theorem dX5_middle_92 : decode cX5_middle 92 = .ok (.if_icmp .ne 7, 3) := by decide +kernel
theorem dX5_middle_95 : decode cX5_middle 95 = .ok (.iload_n 3, 1) := by decide +kernel
theorem dX5_middle_96 : decode cX5_middle 96 = .ok (.goto 5, 3) := by decide +kernel
theorem dX5_middle_99 : decode cX5_middle 99 = .ok (.bipush (-9), 2) := by decide +kernel
theorem dX5_middle_101 : decode cX5_middle 101 = .ok (.ireturn, 1) := by decide +kernel
set_option maxRecDepth 20000 in
theorem ggX5_behindTwos_X2_get : GoodIn wsX5_behindTwos wsX2_get := goodIn_r _ [6, 7, 8, 9, 10, 11, 12, 13, 14, 15, 5, 16, 19, 20, 21] (by decide +kernel) (by decide +kernel)
set_option maxRecDepth 20000 in
theorem gX5_behindTwos_X2_get : GoodIn wsX5_behindTwos (wsV RX5 49 RX2 yX2_get wsX2_get) := goodIn_app (goodIn_of _ (by decide +kernel)) ggX5_behindTwos_X2_get
theorem dX5_behindTwos_0 : decode cX5_behindTwos 0 = .ok (.iload_n 2, 1) := by decide +kernel
theorem dX5_behindTwos_1 : decode cX5_behindTwos 1 = .ok (.istore_n 3, 1) := by decide +kernel
theorem dX5_behindTwos_2 : decode cX5_behindTwos 2 = .ok (.iload_n 3, 1) := by decide +kernel
theorem dX5_behindTwos_3 : decode cX5_behindTwos 3 = .ok (.aload_n 0, 1) := by decide +kernel
theorem dX5_behindTwos_4 : decode cX5_behindTwos 4 = .ok (.getfield 14, 3) := by decide +kernel
theorem dX5_behindTwos_7 : decode cX5_behindTwos 7 = .ok (.getfield 30, 3) := by decide +kernel
theorem dX5_behindTwos_10 : decode cX5_behindTwos 10 = .ok (.if_icmp .ge 34, 3) := by decide +kernel
theorem dX5_behindTwos_13 : decode cX5_behindTwos 13 = .ok (.aload_n 0, 1) := by decide +kernel
theorem dX5_behindTwos_14 : decode cX5_behindTwos 14 = .ok (.getfield 14, 3) := by decide +kernel
theorem dX5_behindTwos_17 : decode cX5_behindTwos 17 = .ok (.iload_n 3, 1) := by decide +kernel
theorem dX5_behindTwos_18 : decode cX5_behindTwos 18 = .ok (.invokevirtual 49, 3) := by decide +kernel
theorem dX5_behindTwos_21 : decode cX5_behindTwos 21 = .ok (.iload_n 1, 1) := by decide +kernel
theorem dX5_behindTwos_22 : decode cX5_behindTwos 22 = .ok (.if_icmp .ne 22, 3) := by decide +kernel
theorem dX5_behindTwos_25 : decode cX5_behindTwos 25 = .ok (.aload_n 0, 1) := by decide +kernel
theorem dX5_behindTwos_26 : decode cX5_behindTwos 26 = .ok (.getfield 14, 3) := by decide +kernel
theorem dX5_behindTwos_29 : decode cX5_behindTwos 29 = .ok (.iload_n 3, 1) := by decide +kernel
theorem dX5_behindTwos_30 : decode cX5_behindTwos 30 = .ok (.iconst 1, 1) := by decide +kernel
theorem dX5_behindTwos_31 : decode cX5_behindTwos 31 = .ok (.iadd, 1) := by decide +kernel
theorem dX5_behindTwos_32 : decode cX5_behindTwos 32 = .ok (.invokevirtual 49, 3) := by decide +kernel
theorem dX5_behindTwos_35 : decode cX5_behindTwos 35 = .ok (.ifCond .ne 9, 3) := by decide +kernel
theorem dX5_behindTwos_38 : decode cX5_behindTwos 38 = .ok (.iinc 3 2, 3) := by decide +kernel
theorem dX5_behindTwos_41 : decode cX5_behindTwos 41 = .ok (.goto (-39), 3) := by decide +kernel
theorem dX5_behindTwos_44 : decode cX5_behindTwos 44 = .ok (.iload_n 3, 1) := by decide +kernel
theorem dX5_behindTwos_45 : decode cX5_behindTwos 45 = .ok (.ireturn, 1) := by decide +kernel
set_option maxRecDepth 20000 in
theorem ggX6_init_X1_init : GoodIn wsX6_init wsX1_init := goodIn_r _ [25, 26, 2, 3, 27, 28, 29, 30, 31, 32, 198, 199, 200, 201, 202, 203, 204] (by decide +kernel) (by decide +kernel)
set_option maxRecDepth 20000 in
theorem gX6_init_X1_init_n11 : GoodIn wsX6_init (wsX1_init) := ggX6_init_X1_init
set_option maxRecDepth 20000 in
theorem ggX6_init_X3_init : GoodIn wsX6_init wsX3_init := goodIn_r _ [34, 35, 2, 3, 36, 37, 27, 38, 39, 40, 210, 211, 212, 213, 214, 215, 216, 217, 218] (by decide +kernel) (by decide +kernel)
set_option maxRecDepth 20000 in
theorem gX6_init_X3_init_n18 : GoodIn wsX6_init (wsX3_init) := ggX6_init_X3_init
set_option maxRecDepth 20000 in
theorem ggX6_init_X4_init : GoodIn wsX6_init wsX4_init := goodIn_r _ [43, 44, 2, 3, 27, 45, 46, 47, 48, 49, 14, 50, 51, 52, 53, 54, 55, 56, 57, 58, 59, 60, 61, 62, 63, 64, 65, 66, 67, 68, 69, 70, 71, 72, 73, 74, 75, 76, 77, 78, 79, 80, 81, 82, 83, 84, 85, 86, 87, 88, 89, 90, 91, 92, 93, 94, 95, 96, 97, 98, 99, 100, 101, 102, 103, 104, 105, 106, 107, 108, 109, 110, 111, 112, 113, 114, 115, 116, 117, 118, 119, 120, 121, 122, 123, 124, 125, 126, 127, 128, 129, 130, 131, 132, 133, 134, 135, 136, 137, 138, 139, 140, 141, 142, 143, 144, 145, 146, 147, 148, 149, 150, 151, 152, 153, 154, 155, 156, 157, 158, 159, 160, 161, 162, 163, 164, 165, 166, 167, 168, 169, 170, 171, 172, 173, 174, 175, 176, 177, 219, 220] (by decide +kernel) (by decide +kernel)
set_option maxRecDepth 20000 in
theorem gX6_init_X4_init : GoodIn wsX6_init (wsX4_init) := ggX6_init_X4_init
set_option maxRecDepth 20000 in
theorem ggX6_init_X5_init : GoodIn wsX6_init wsX5_init := goodIn_r _ [179, 180, 2, 3, 181, 182, 183, 184, 185, 186, 187, 188, 189, 190, 117, 118, 119, 27, 191, 225, 226, 227, 221, 222] (by decide +kernel) (by decide +kernel)
set_option maxRecDepth 20000 in
theorem gX6_init_X5_init_n32 : GoodIn wsX6_init (wsX5_init) := ggX6_init_X5_init
set_option maxRecDepth 20000 in
theorem ggX6_init_X0_init : GoodIn wsX6_init wsX0_init := goodIn_r _ [193, 194, 2, 3, 195, 182, 183, 196, 197, 187, 188, 189, 190, 117, 118, 119, 27, 191, 225, 226, 227, 223, 224] (by decide +kernel) (by decide +kernel)
set_option maxRecDepth 20000 in
theorem gX6_init_X0_init_n39 : GoodIn wsX6_init (wsX0_init) := ggX6_init_X0_init
theorem dX6_init_0 : decode cX6_init 0 = .ok (.aload_n 0, 1) := by decide +kernel
theorem dX6_init_1 : decode cX6_init 1 = .ok (.invokespecial 3, 3) := by decide +kernel
theorem dX6_init_4 : decode cX6_init 4 = .ok (.aload_n 0, 1) := by decide +kernel
theorem dX6_init_5 : decode cX6_init 5 = .ok (.new 9, 3) := by decide +kernel
theorem dX6_init_8 : decode cX6_init 8 = .ok (.dup, 1) := by decide +kernel
theorem dX6_init_9 : decode cX6_init 9 = .ok (.invokespecial 11, 3) := by decide +kernel
theorem dX6_init_12 : decode cX6_init 12 = .ok (.putfield 12, 3) := by decide +kernel
theorem dX6_init_15 : decode cX6_init 15 = .ok (.aload_n 0, 1) := by decide +kernel
theorem dX6_init_16 : decode cX6_init 16 = .ok (.new 16, 3) := by decide +kernel
theorem dX6_init_19 : decode cX6_init 19 = .ok (.dup, 1) := by decide +kernel
theorem dX6_init_20 : decode cX6_init 20 = .ok (.invokespecial 18, 3) := by decide +kernel
theorem dX6_init_23 : decode cX6_init 23 = .ok (.putfield 19, 3) := by decide +kernel
theorem dX6_init_26 : decode cX6_init 26 = .ok (.aload_n 0, 1) := by decide +kernel
theorem dX6_init_27 : decode cX6_init 27 = .ok (.new 23, 3) := by decide +kernel
theorem dX6_init_30 : decode cX6_init 30 = .ok (.dup, 1) := by decide +kernel
theorem dX6_init_31 : decode cX6_init 31 = .ok (.invokespecial 25, 3) := by decide +kernel
theorem dX6_init_34 : decode cX6_init 34 = .ok (.putfield 26, 3) := by decide +kernel
theorem dX6_init_37 : decode cX6_init 37 = .ok (.aload_n 0, 1) := by decide +kernel
theorem dX6_init_38 : decode cX6_init 38 = .ok (.new 30, 3) := by decide +kernel
theorem dX6_init_41 : decode cX6_init 41 = .ok (.dup, 1) := by decide +kernel
theorem dX6_init_42 : decode cX6_init 42 = .ok (.invokespecial 32, 3) := by decide +kernel
theorem dX6_init_45 : decode cX6_init 45 = .ok (.putfield 33, 3) := by decide +kernel
theorem dX6_init_48 : decode cX6_init 48 = .ok (.aload_n 0, 1) := by decide +kernel
theorem dX6_init_49 : decode cX6_init 49 = .ok (.new 37, 3) := by decide +kernel
theorem dX6_init_52 : decode cX6_init 52 = .ok (.dup, 1) := by decide +kernel
theorem dX6_init_53 : decode cX6_init 53 = .ok (.invokespecial 39, 3) := by decide +kernel
theorem dX6_init_56 : decode cX6_init 56 = .ok (.putfield 40, 3) := by decide +kernel
theorem dX6_init_59 : decode cX6_init 59 = .ok (.return_, 1) := by decide +kernel
set_option maxRecDepth 20000 in
theorem ggX6_line_X6_outside : GoodIn wsX6_line wsX6_outside := goodIn_r _ [5] (by decide +kernel) (by decide +kernel)
set_option maxRecDepth 20000 in
theorem gX6_line_X6_outside : GoodIn wsX6_line (va_wsS RX6 44 yX6_outside wsX6_outside) := goodIn_app (goodIn_of _ (by decide +kernel)) ggX6_line_X6_outside
set_option maxRecDepth 20000 in
theorem ggX6_line_X1_addLine : GoodIn wsX6_line wsX1_addLine := goodIn_r _ [10, 11, 12, 13, 14, 15, 21, 22, 23, 24, 25, 26, 27] (by decide +kernel) (by decide +kernel)
set_option maxRecDepth 20000 in
theorem gX6_line_X1_addLine : GoodIn wsX6_line (wsV RX6 48 RX1 yX1_addLine wsX1_addLine) := goodIn_app (goodIn_of _ (by decide +kernel)) ggX6_line_X1_addLine
theorem dX6_line_0 : decode cX6_line 0 = .ok (.iload_n 1, 1) := by decide +kernel
theorem dX6_line_1 : decode cX6_line 1 = .ok (.iconst 0, 1) := by decide +kernel
theorem dX6_line_2 : decode cX6_line 2 = .ok (.iconst 2, 1) := by decide +kernel
theorem dX6_line_3 : decode cX6_line 3 = .ok (.invokestatic 44, 3) := by decide +kernel
theorem dX6_line_6 : decode cX6_line 6 = .ok (.ifCond .ne 12, 3) := by decide +kernel
theorem dX6_line_9 : decode cX6_line 9 = .ok (.iload_n 2, 1) := by decide +kernel
theorem dX6_line_10 : decode cX6_line 10 = .ok (.iconst 0, 1) := by decide +kernel
theorem dX6_line_11 : decode cX6_line 11 = .ok (.iconst 3, 1) := by decide +kernel
theorem dX6_line_12 : decode cX6_line 12 = .ok (.invokestatic 44, 3) := by decide +kernel
theorem dX6_line_15 : decode cX6_line 15 = .ok (.ifCond .eq 5, 3) := by decide +kernel
theorem dX6_line_18 : decode cX6_line 18 = .ok (.iconst (-1), 1) := by decide +kernel
theorem dX6_line_19 : decode cX6_line 19 = .ok (.ireturn, 1) := by decide +kernel
theorem dX6_line_20 : decode cX6_line 20 = .ok (.iload_n 3, 1) := by decide +kernel
theorem dX6_line_21 : decode cX6_line 21 = .ok (.iconst 0, 1) := by decide +kernel
theorem dX6_line_22 : decode cX6_line 22 = .ok (.bipush 24, 2) := by decide +kernel
theorem dX6_line_24 : decode cX6_line 24 = .ok (.invokestatic 44, 3) := by decide +kernel
theorem dX6_line_27 : decode cX6_line 27 = .ok (.ifCond .ne 14, 3) := by decide +kernel
theorem dX6_line_30 : decode cX6_line 30 = .ok (.iload 4, 2) := by decide +kernel
theorem dX6_line_32 : decode cX6_line 32 = .ok (.iconst 0, 1) := by decide +kernel
theorem dX6_line_33 : decode cX6_line 33 = .ok (.bipush 24, 2) := by decide +kernel
theorem dX6_line_35 : decode cX6_line 35 = .ok (.invokestatic 44, 3) := by decide +kernel
theorem dX6_line_38 : decode cX6_line 38 = .ok (.ifCond .eq 5, 3) := by decide +kernel
theorem dX6_line_41 : decode cX6_line 41 = .ok (.iconst (-1), 1) := by decide +kernel
theorem dX6_line_42 : decode cX6_line 42 = .ok (.ireturn, 1) := by decide +kernel
theorem dX6_line_43 : decode cX6_line 43 = .ok (.aload_n 0, 1) := by decide +kernel
theorem dX6_line_44 : decode cX6_line 44 = .ok (.getfield 12, 3) := by decide +kernel
theorem dX6_line_47 : decode cX6_line 47 = .ok (.iload_n 1, 1) := by decide +kernel
theorem dX6_line_48 : decode cX6_line 48 = .ok (.iload_n 2, 1) := by decide +kernel
theorem dX6_line_49 : decode cX6_line 49 = .ok (.iload_n 3, 1) := by decide +kernel
theorem dX6_line_50 : decode cX6_line 50 = .ok (.iload 4, 2) := by decide +kernel
theorem dX6_line_52 : decode cX6_line 52 = .ok (.invokevirtual 48, 3) := by decide +kernel
theorem dX6_line_55 : decode cX6_line 55 = .ok (.ireturn, 1) := by decide +kernel
set_option maxRecDepth 20000 in
theorem ggX6_wipe_X1_forgetLines : GoodIn wsX6_wipe wsX1_forgetLines := goodIn_r _ [6, 7, 8, 14, 15, 16, 17, 18, 19, 20] (by decide +kernel) (by decide +kernel)
set_option maxRecDepth 20000 in
theorem gX6_wipe_X1_forgetLines : GoodIn wsX6_wipe (wsV RX6 52 RX1 yX1_forgetLines wsX1_forgetLines) := goodIn_app (goodIn_of _ (by decide +kernel)) ggX6_wipe_X1_forgetLines
theorem dX6_wipe_0 : decode cX6_wipe 0 = .ok (.aload_n 0, 1) := by decide +kernel
theorem dX6_wipe_1 : decode cX6_wipe 1 = .ok (.getfield 12, 3) := by decide +kernel
theorem dX6_wipe_4 : decode cX6_wipe 4 = .ok (.invokevirtual 52, 3) := by decide +kernel
theorem dX6_wipe_7 : decode cX6_wipe 7 = .ok (.ireturn, 1) := by decide +kernel
set_option maxRecDepth 20000 in
theorem ggX6_set_X6_outside : GoodIn wsX6_set wsX6_outside := goodIn_r _ [5] (by decide +kernel) (by decide +kernel)
set_option maxRecDepth 20000 in
theorem gX6_set_X6_outside : GoodIn wsX6_set (va_wsS RX6 44 yX6_outside wsX6_outside) := goodIn_app (goodIn_of _ (by decide +kernel)) ggX6_set_X6_outside
set_option maxRecDepth 20000 in
theorem ggX6_set_X1_putValue : GoodIn wsX6_set wsX1_putValue := goodIn_r _ [10, 11, 17, 18, 19, 20, 21, 22, 23] (by decide +kernel) (by decide +kernel)
set_option maxRecDepth 20000 in
theorem gX6_set_X1_putValue : GoodIn wsX6_set (wsV RX6 56 RX1 yX1_putValue wsX1_putValue) := goodIn_app (goodIn_of _ (by decide +kernel)) ggX6_set_X1_putValue
theorem dX6_set_0 : decode cX6_set 0 = .ok (.iload_n 1, 1) := by decide +kernel
theorem dX6_set_1 : decode cX6_set 1 = .ok (.iconst 0, 1) := by decide +kernel
theorem dX6_set_2 : decode cX6_set 2 = .ok (.iconst 3, 1) := by decide +kernel
theorem dX6_set_3 : decode cX6_set 3 = .ok (.invokestatic 44, 3) := by decide +kernel
theorem dX6_set_6 : decode cX6_set 6 = .ok (.ifCond .ne 14, 3) := by decide +kernel
theorem dX6_set_9 : decode cX6_set 9 = .ok (.iload_n 2, 1) := by decide +kernel
theorem dX6_set_10 : decode cX6_set 10 = .ok (.iconst 0, 1) := by decide +kernel
theorem dX6_set_11 : decode cX6_set 11 = .ok (.sipush 1000, 3) := by decide +kernel
theorem dX6_set_14 : decode cX6_set 14 = .ok (.invokestatic 44, 3) := by decide +kernel
theorem dX6_set_17 : decode cX6_set 17 = .ok (.ifCond .eq 5, 3) := by decide +kernel
theorem dX6_set_20 : decode cX6_set 20 = .ok (.iconst (-1), 1) := by decide +kernel
theorem dX6_set_21 : decode cX6_set 21 = .ok (.ireturn, 1) := by decide +kernel
theorem dX6_set_22 : decode cX6_set 22 = .ok (.aload_n 0, 1) := by decide +kernel
theorem dX6_set_23 : decode cX6_set 23 = .ok (.getfield 12, 3) := by decide +kernel
theorem dX6_set_26 : decode cX6_set 26 = .ok (.iload_n 1, 1) := by decide +kernel
theorem dX6_set_27 : decode cX6_set 27 = .ok (.iload_n 2, 1) := by decide +kernel
theorem dX6_set_28 : decode cX6_set 28 = .ok (.invokevirtual 56, 3) := by decide +kernel
theorem dX6_set_31 : decode cX6_set 31 = .ok (.ireturn, 1) := by decide +kernel
set_option maxRecDepth 20000 in
theorem ggX6_counter_X6_outside : GoodIn wsX6_counter wsX6_outside := goodIn_r _ [5] (by decide +kernel) (by decide +kernel)
set_option maxRecDepth 20000 in
theorem gX6_counter_X6_outside : GoodIn wsX6_counter (va_wsS RX6 44 yX6_outside wsX6_outside) := goodIn_app (goodIn_of _ (by decide +kernel)) ggX6_counter_X6_outside
set_option maxRecDepth 20000 in
theorem ggX6_counter_X1_value : GoodIn wsX6_counter wsX1_value := goodIn_r _ [10, 11, 17, 18, 19, 20, 21, 22, 23] (by decide +kernel) (by decide +kernel)
set_option maxRecDepth 20000 in
theorem gX6_counter_X1_value : GoodIn wsX6_counter (wsV RX6 60 RX1 yX1_value wsX1_value) := goodIn_app (goodIn_of _ (by decide +kernel)) ggX6_counter_X1_value
theorem dX6_counter_0 : decode cX6_counter 0 = .ok (.iload_n 1, 1) := by decide +kernel
theorem dX6_counter_1 : decode cX6_counter 1 = .ok (.iconst 0, 1) := by decide +kernel
theorem dX6_counter_2 : decode cX6_counter 2 = .ok (.iconst 3, 1) := by decide +kernel
theorem dX6_counter_3 : decode cX6_counter 3 = .ok (.invokestatic 44, 3) := by decide +kernel
theorem dX6_counter_6 : decode cX6_counter 6 = .ok (.ifCond .eq 5, 3) := by decide +kernel
theorem dX6_counter_9 : decode cX6_counter 9 = .ok (.iconst (-1), 1) := by decide +kernel
theorem dX6_counter_10 : decode cX6_counter 10 = .ok (.ireturn, 1) := by decide +kernel
theorem dX6_counter_11 : decode cX6_counter 11 = .ok (.aload_n 0, 1) := by decide +kernel
theorem dX6_counter_12 : decode cX6_counter 12 = .ok (.getfield 12, 3) := by decide +kernel
theorem dX6_counter_15 : decode cX6_counter 15 = .ok (.iload_n 1, 1) := by decide +kernel
theorem dX6_counter_16 : decode cX6_counter 16 = .ok (.invokevirtual 60, 3) := by decide +kernel
theorem dX6_counter_19 : decode cX6_counter 19 = .ok (.ireturn, 1) := by decide +kernel
set_option maxRecDepth 20000 in
theorem ggX6_count_X6_outside : GoodIn wsX6_count wsX6_outside := goodIn_r _ [5] (by decide +kernel) (by decide +kernel)
set_option maxRecDepth 20000 in
theorem gX6_count_X6_outside : GoodIn wsX6_count (va_wsS RX6 44 yX6_outside wsX6_outside) := goodIn_app (goodIn_of _ (by decide +kernel)) ggX6_count_X6_outside
set_option maxRecDepth 20000 in
theorem ggX6_count_X1_doLines : GoodIn wsX6_count wsX1_doLines := goodIn_r _ [10, 11, 12, 13, 9, 14, 15, 16, 17, 18, 3, 4, 5, 19, 20, 21, 22, 23, 24, 25, 26, 27, 28, 29, 35, 36, 37, 38, 39, 40, 41] (by decide +kernel) (by decide +kernel)
set_option maxRecDepth 20000 in
theorem gX6_count_X1_doLines : GoodIn wsX6_count (wsV RX6 64 RX1 yX1_doLines wsX1_doLines) := goodIn_app (goodIn_of _ (by decide +kernel)) ggX6_count_X1_doLines
theorem dX6_count_0 : decode cX6_count 0 = .ok (.iload_n 1, 1) := by decide +kernel
theorem dX6_count_1 : decode cX6_count 1 = .ok (.iconst 1, 1) := by decide +kernel
theorem dX6_count_2 : decode cX6_count 2 = .ok (.sipush 5000, 3) := by decide +kernel
theorem dX6_count_5 : decode cX6_count 5 = .ok (.invokestatic 44, 3) := by decide +kernel
theorem dX6_count_8 : decode cX6_count 8 = .ok (.ifCond .eq 5, 3) := by decide +kernel
theorem dX6_count_11 : decode cX6_count 11 = .ok (.iconst (-1), 1) := by decide +kernel
theorem dX6_count_12 : decode cX6_count 12 = .ok (.ireturn, 1) := by decide +kernel
theorem dX6_count_13 : decode cX6_count 13 = .ok (.aload_n 0, 1) := by decide +kernel
theorem dX6_count_14 : decode cX6_count 14 = .ok (.getfield 12, 3) := by decide +kernel
theorem dX6_count_17 : decode cX6_count 17 = .ok (.iload_n 1, 1) := by decide +kernel
theorem dX6_count_18 : decode cX6_count 18 = .ok (.invokevirtual 64, 3) := by decide +kernel
theorem dX6_count_21 : decode cX6_count 21 = .ok (.ireturn, 1) := by decide +kernel
set_option maxRecDepth 20000 in
theorem ggX6_at_X1_lineNow : GoodIn wsX6_at wsX1_lineNow := goodIn_r _ [6, 7, 13, 14, 15, 16, 17, 18, 19] (by decide +kernel) (by decide +kernel)
set_option maxRecDepth 20000 in
theorem gX6_at_X1_lineNow : GoodIn wsX6_at (wsV RX6 67 RX1 yX1_lineNow wsX1_lineNow) := goodIn_app (goodIn_of _ (by decide +kernel)) ggX6_at_X1_lineNow
theorem dX6_at_0 : decode cX6_at 0 = .ok (.aload_n 0, 1) := by decide +kernel
theorem dX6_at_1 : decode cX6_at 1 = .ok (.getfield 12, 3) := by decide +kernel
theorem dX6_at_4 : decode cX6_at 4 = .ok (.invokevirtual 67, 3) := by decide +kernel
theorem dX6_at_7 : decode cX6_at 7 = .ok (.ireturn, 1) := by decide +kernel
set_option maxRecDepth 20000 in
theorem ggX6_go_X6_outside : GoodIn wsX6_go wsX6_outside := goodIn_r _ [5] (by decide +kernel) (by decide +kernel)
set_option maxRecDepth 20000 in
theorem gX6_go_X6_outside : GoodIn wsX6_go (va_wsS RX6 44 yX6_outside wsX6_outside) := goodIn_app (goodIn_of _ (by decide +kernel)) ggX6_go_X6_outside
set_option maxRecDepth 20000 in
theorem ggX6_go_X1_jump : GoodIn wsX6_go wsX1_jump := goodIn_r _ [10, 11, 17, 18, 19, 20, 21, 22, 23] (by decide +kernel) (by decide +kernel)
set_option maxRecDepth 20000 in
theorem gX6_go_X1_jump : GoodIn wsX6_go (wsV RX6 70 RX1 yX1_jump wsX1_jump) := goodIn_app (goodIn_of _ (by decide +kernel)) ggX6_go_X1_jump
theorem dX6_go_0 : decode cX6_go 0 = .ok (.iload_n 1, 1) := by decide +kernel
theorem dX6_go_1 : decode cX6_go 1 = .ok (.iconst 0, 1) := by decide +kernel
theorem dX6_go_2 : decode cX6_go 2 = .ok (.bipush 24, 2) := by decide +kernel
theorem dX6_go_4 : decode cX6_go 4 = .ok (.invokestatic 44, 3) := by decide +kernel
theorem dX6_go_7 : decode cX6_go 7 = .ok (.ifCond .eq 5, 3) := by decide +kernel
theorem dX6_go_10 : decode cX6_go 10 = .ok (.iconst (-1), 1) := by decide +kernel
theorem dX6_go_11 : decode cX6_go 11 = .ok (.ireturn, 1) := by decide +kernel
theorem dX6_go_12 : decode cX6_go 12 = .ok (.aload_n 0, 1) := by decide +kernel
theorem dX6_go_13 : decode cX6_go 13 = .ok (.getfield 12, 3) := by decide +kernel
theorem dX6_go_16 : decode cX6_go 16 = .ok (.iload_n 1, 1) := by decide +kernel
theorem dX6_go_17 : decode cX6_go 17 = .ok (.invokevirtual 70, 3) := by decide +kernel
theorem dX6_go_20 : decode cX6_go 20 = .ok (.ireturn, 1) := by decide +kernel
set_option maxRecDepth 20000 in
theorem ggX6_rule_X6_outside : GoodIn wsX6_rule wsX6_outside := goodIn_r _ [6] (by decide +kernel) (by decide +kernel)
set_option maxRecDepth 20000 in
theorem gX6_rule_X6_outside : GoodIn wsX6_rule (va_wsS RX6 44 yX6_outside wsX6_outside) := goodIn_app (goodIn_of _ (by decide +kernel)) ggX6_rule_X6_outside
set_option maxRecDepth 20000 in
theorem ggX6_rule_X6_pairOf : GoodIn wsX6_rule wsX6_pairOf := goodIn_r _ [9] (by decide +kernel) (by decide +kernel)
set_option maxRecDepth 20000 in
theorem gX6_rule_X6_pairOf : GoodIn wsX6_rule (va_wsS RX6 73 yX6_pairOf wsX6_pairOf) := goodIn_app (goodIn_of _ (by decide +kernel)) ggX6_rule_X6_pairOf
set_option maxRecDepth 20000 in
theorem ggX6_rule_X4_follow : GoodIn wsX6_rule wsX4_follow := goodIn_r _ [14, 15, 16, 17, 13, 18, 19, 20, 21, 22, 23, 24, 25, 26, 27, 28, 29, 30, 31, 32, 33, 34, 35, 36, 37, 38, 39, 40, 41, 42, 43, 44, 45, 46, 47, 48, 49, 50, 51, 52, 53, 54, 55, 56, 57, 58, 59, 60, 61, 62, 63, 64, 65, 66, 67, 68, 69, 70, 71, 72, 73, 74, 75, 76, 77, 78, 79, 80, 81, 82, 83, 84, 85, 86, 87, 88, 89, 90, 91, 92, 93, 94, 95, 96, 97, 98, 99, 100, 101, 102, 103, 104, 105, 106, 107, 108, 109, 110, 111, 112, 113, 114, 115, 116, 117, 118, 119, 120, 121, 122, 123, 124, 125, 126, 127, 128, 129, 130, 131, 132, 133, 134, 135, 136, 137, 138, 139, 8, 5, 9, 140, 141, 142, 143, 144, 160, 161] (by decide +kernel) (by decide +kernel)
set_option maxRecDepth 20000 in
theorem gX6_rule_X4_follow : GoodIn wsX6_rule (wsV RX6 76 RX4 yX4_follow wsX4_follow) := goodIn_app (goodIn_of _ (by decide +kernel)) ggX6_rule_X4_follow
set_option maxRecDepth 20000 in
theorem ggX6_rule_X3_putRule : GoodIn wsX6_rule wsX3_putRule := goodIn_r _ [149, 150, 151, 152, 153, 154, 162, 163, 164, 165, 166, 167, 168, 169, 170] (by decide +kernel) (by decide +kernel)
set_option maxRecDepth 20000 in
theorem gX6_rule_X3_putRule : GoodIn wsX6_rule (wsV RX6 80 RX3 yX3_putRule wsX3_putRule) := goodIn_app (goodIn_of _ (by decide +kernel)) ggX6_rule_X3_putRule
theorem dX6_rule_0 : decode cX6_rule 0 = .ok (.iload_n 1, 1) := by decide +kernel
theorem dX6_rule_1 : decode cX6_rule 1 = .ok (.iconst 0, 1) := by decide +kernel
theorem dX6_rule_2 : decode cX6_rule 2 = .ok (.iconst 2, 1) := by decide +kernel
theorem dX6_rule_3 : decode cX6_rule 3 = .ok (.invokestatic 44, 3) := by decide +kernel
theorem dX6_rule_6 : decode cX6_rule 6 = .ok (.ifCond .ne 21, 3) := by decide +kernel
theorem dX6_rule_9 : decode cX6_rule 9 = .ok (.iload_n 2, 1) := by decide +kernel
theorem dX6_rule_10 : decode cX6_rule 10 = .ok (.iconst 0, 1) := by decide +kernel
theorem dX6_rule_11 : decode cX6_rule 11 = .ok (.iconst 1, 1) := by decide +kernel
theorem dX6_rule_12 : decode cX6_rule 12 = .ok (.invokestatic 44, 3) := by decide +kernel
theorem dX6_rule_15 : decode cX6_rule 15 = .ok (.ifCond .ne 12, 3) := by decide +kernel
theorem dX6_rule_18 : decode cX6_rule 18 = .ok (.iload_n 3, 1) := by decide +kernel
theorem dX6_rule_19 : decode cX6_rule 19 = .ok (.iconst 0, 1) := by decide +kernel
theorem dX6_rule_20 : decode cX6_rule 20 = .ok (.iconst 1, 1) := by decide +kernel
theorem dX6_rule_21 : decode cX6_rule 21 = .ok (.invokestatic 44, 3) := by decide +kernel
theorem dX6_rule_24 : decode cX6_rule 24 = .ok (.ifCond .eq 5, 3) := by decide +kernel
theorem dX6_rule_27 : decode cX6_rule 27 = .ok (.iconst (-1), 1) := by decide +kernel
theorem dX6_rule_28 : decode cX6_rule 28 = .ok (.ireturn, 1) := by decide +kernel
theorem dX6_rule_29 : decode cX6_rule 29 = .ok (.iload 4, 2) := by decide +kernel
theorem dX6_rule_31 : decode cX6_rule 31 = .ok (.iconst 0, 1) := by decide +kernel
theorem dX6_rule_32 : decode cX6_rule 32 = .ok (.iconst 1, 1) := by decide +kernel
theorem dX6_rule_33 : decode cX6_rule 33 = .ok (.invokestatic 44, 3) := by decide +kernel
theorem dX6_rule_36 : decode cX6_rule 36 = .ok (.ifCond .ne 13, 3) := by decide +kernel
theorem dX6_rule_39 : decode cX6_rule 39 = .ok (.iload 5, 2) := by decide +kernel
theorem dX6_rule_41 : decode cX6_rule 41 = .ok (.iconst 0, 1) := by decide +kernel
theorem dX6_rule_42 : decode cX6_rule 42 = .ok (.iconst 2, 1) := by decide +kernel
theorem dX6_rule_43 : decode cX6_rule 43 = .ok (.invokestatic 44, 3) := by decide +kernel
theorem dX6_rule_46 : decode cX6_rule 46 = .ok (.ifCond .eq 5, 3) := by decide +kernel
theorem dX6_rule_49 : decode cX6_rule 49 = .ok (.iconst (-1), 1) := by decide +kernel
theorem dX6_rule_50 : decode cX6_rule 50 = .ok (.ireturn, 1) := by decide +kernel
theorem dX6_rule_51 : decode cX6_rule 51 = .ok (.iload_n 1, 1) := by decide +kernel
theorem dX6_rule_52 : decode cX6_rule 52 = .ok (.iload_n 2, 1) := by decide +kernel
theorem dX6_rule_53 : decode cX6_rule 53 = .ok (.invokestatic 73, 3) := by decide +kernel
theorem dX6_rule_56 : decode cX6_rule 56 = .ok (.istore 6, 2) := by decide +kernel
theorem dX6_rule_58 : decode cX6_rule 58 = .ok (.aload_n 0, 1) := by decide +kernel
theorem dX6_rule_59 : decode cX6_rule 59 = .ok (.getfield 26, 3) := by decide +kernel
theorem dX6_rule_62 : decode cX6_rule 62 = .ok (.iload 6, 2) := by decide +kernel
theorem dX6_rule_64 : decode cX6_rule 64 = .ok (.iload_n 3, 1) := by decide +kernel
theorem dX6_rule_65 : decode cX6_rule 65 = .ok (.iload 4, 2) := by decide +kernel
theorem dX6_rule_67 : decode cX6_rule 67 = .ok (.iload 5, 2) := by decide +kernel
theorem dX6_rule_69 : decode cX6_rule 69 = .ok (.invokevirtual 76, 3) := by decide +kernel
theorem dX6_rule_72 : decode cX6_rule 72 = .ok (.aload_n 0, 1) := by decide +kernel
theorem dX6_rule_73 : decode cX6_rule 73 = .ok (.getfield 19, 3) := by decide +kernel
theorem dX6_rule_76 : decode cX6_rule 76 = .ok (.iload 6, 2) := by decide +kernel
theorem dX6_rule_78 : decode cX6_rule 78 = .ok (.iload_n 3, 1) := by decide +kernel
theorem dX6_rule_79 : decode cX6_rule 79 = .ok (.iload 4, 2) := by decide +kernel
theorem dX6_rule_81 : decode cX6_rule 81 = .ok (.iload 5, 2) := by decide +kernel
theorem dX6_rule_83 : decode cX6_rule 83 = .ok (.invokevirtual 80, 3) := by decide +kernel
theorem dX6_rule_86 : decode cX6_rule 86 = .ok (.ireturn, 1) := by decide +kernel
set_option maxRecDepth 20000 in
theorem ggX6_unrule_X6_outside : GoodIn wsX6_unrule wsX6_outside := goodIn_r _ [6] (by decide +kernel) (by decide +kernel)
set_option maxRecDepth 20000 in
theorem gX6_unrule_X6_outside : GoodIn wsX6_unrule (va_wsS RX6 44 yX6_outside wsX6_outside) := goodIn_app (goodIn_of _ (by decide +kernel)) ggX6_unrule_X6_outside
set_option maxRecDepth 20000 in
theorem ggX6_unrule_X6_pairOf : GoodIn wsX6_unrule wsX6_pairOf := goodIn_r _ [9] (by decide +kernel) (by decide +kernel)
set_option maxRecDepth 20000 in
theorem gX6_unrule_X6_pairOf : GoodIn wsX6_unrule (va_wsS RX6 73 yX6_pairOf wsX6_pairOf) := goodIn_app (goodIn_of _ (by decide +kernel)) ggX6_unrule_X6_pairOf
set_option maxRecDepth 20000 in
theorem ggX6_unrule_X4_followNone : GoodIn wsX6_unrule wsX4_followNone := goodIn_r _ [14, 15, 16, 17, 18, 13, 19, 20, 21, 22, 23, 24, 25, 26, 27, 28, 29, 30, 31, 32, 33, 34, 35, 36, 37, 38, 39, 40, 41, 42, 43, 44, 45, 46, 47, 48, 49, 50, 51, 52, 53, 54, 55, 56, 57, 58, 59, 60, 61, 62, 63, 64, 65, 66, 67, 68, 69, 70, 71, 72, 73, 74, 75, 76, 77, 78, 79, 80, 81, 82, 83, 84, 85, 86, 87, 88, 89, 90, 91, 92, 93, 94, 95, 96, 97, 98, 99, 100, 101, 102, 103, 104, 105, 106, 107, 108, 109, 110, 111, 112, 113, 114, 115, 116, 117, 118, 119, 120, 121, 122, 123, 124, 125, 126, 127, 128, 129, 130, 131, 132, 133, 134, 135, 8, 5, 9, 136, 137, 138, 139, 140, 153, 154] (by decide +kernel) (by decide +kernel)
set_option maxRecDepth 20000 in
theorem gX6_unrule_X4_followNone : GoodIn wsX6_unrule (wsV RX6 83 RX4 yX4_followNone wsX4_followNone) := goodIn_app (goodIn_of _ (by decide +kernel)) ggX6_unrule_X4_followNone
set_option maxRecDepth 20000 in
theorem ggX6_unrule_X3_dropRule : GoodIn wsX6_unrule wsX3_dropRule := goodIn_r _ [145, 146, 147, 155, 156, 157, 158, 159, 160, 161, 162, 163] (by decide +kernel) (by decide +kernel)
set_option maxRecDepth 20000 in
theorem gX6_unrule_X3_dropRule : GoodIn wsX6_unrule (wsV RX6 87 RX3 yX3_dropRule wsX3_dropRule) := goodIn_app (goodIn_of _ (by decide +kernel)) ggX6_unrule_X3_dropRule
theorem dX6_unrule_0 : decode cX6_unrule 0 = .ok (.iload_n 1, 1) := by decide +kernel
theorem dX6_unrule_1 : decode cX6_unrule 1 = .ok (.iconst 0, 1) := by decide +kernel
theorem dX6_unrule_2 : decode cX6_unrule 2 = .ok (.iconst 2, 1) := by decide +kernel
theorem dX6_unrule_3 : decode cX6_unrule 3 = .ok (.invokestatic 44, 3) := by decide +kernel
theorem dX6_unrule_6 : decode cX6_unrule 6 = .ok (.ifCond .ne 12, 3) := by decide +kernel
theorem dX6_unrule_9 : decode cX6_unrule 9 = .ok (.iload_n 2, 1) := by decide +kernel
theorem dX6_unrule_10 : decode cX6_unrule 10 = .ok (.iconst 0, 1) := by decide +kernel
theorem dX6_unrule_11 : decode cX6_unrule 11 = .ok (.iconst 1, 1) := by decide +kernel
theorem dX6_unrule_12 : decode cX6_unrule 12 = .ok (.invokestatic 44, 3) := by decide +kernel
theorem dX6_unrule_15 : decode cX6_unrule 15 = .ok (.ifCond .eq 5, 3) := by decide +kernel
theorem dX6_unrule_18 : decode cX6_unrule 18 = .ok (.iconst (-1), 1) := by decide +kernel
theorem dX6_unrule_19 : decode cX6_unrule 19 = .ok (.ireturn, 1) := by decide +kernel
theorem dX6_unrule_20 : decode cX6_unrule 20 = .ok (.iload_n 1, 1) := by decide +kernel
theorem dX6_unrule_21 : decode cX6_unrule 21 = .ok (.iload_n 2, 1) := by decide +kernel
theorem dX6_unrule_22 : decode cX6_unrule 22 = .ok (.invokestatic 73, 3) := by decide +kernel
theorem dX6_unrule_25 : decode cX6_unrule 25 = .ok (.istore_n 3, 1) := by decide +kernel
theorem dX6_unrule_26 : decode cX6_unrule 26 = .ok (.aload_n 0, 1) := by decide +kernel
theorem dX6_unrule_27 : decode cX6_unrule 27 = .ok (.getfield 26, 3) := by decide +kernel
theorem dX6_unrule_30 : decode cX6_unrule 30 = .ok (.iload_n 3, 1) := by decide +kernel
theorem dX6_unrule_31 : decode cX6_unrule 31 = .ok (.invokevirtual 83, 3) := by decide +kernel
theorem dX6_unrule_34 : decode cX6_unrule 34 = .ok (.aload_n 0, 1) := by decide +kernel
theorem dX6_unrule_35 : decode cX6_unrule 35 = .ok (.getfield 19, 3) := by decide +kernel
theorem dX6_unrule_38 : decode cX6_unrule 38 = .ok (.iload_n 3, 1) := by decide +kernel
theorem dX6_unrule_39 : decode cX6_unrule 39 = .ok (.invokevirtual 87, 3) := by decide +kernel
theorem dX6_unrule_42 : decode cX6_unrule 42 = .ok (.ireturn, 1) := by decide +kernel
set_option maxRecDepth 20000 in
theorem ggX6_place_X6_outside : GoodIn wsX6_place wsX6_outside := goodIn_r _ [6] (by decide +kernel) (by decide +kernel)
set_option maxRecDepth 20000 in
theorem gX6_place_X6_outside : GoodIn wsX6_place (va_wsS RX6 44 yX6_outside wsX6_outside) := goodIn_app (goodIn_of _ (by decide +kernel)) ggX6_place_X6_outside
set_option maxRecDepth 20000 in
theorem ggX6_place_X3_putPlace : GoodIn wsX6_place wsX3_putPlace := goodIn_r _ [11, 12, 13, 14, 15, 21, 22, 23, 24, 25, 26, 27, 28, 29] (by decide +kernel) (by decide +kernel)
set_option maxRecDepth 20000 in
theorem gX6_place_X3_putPlace : GoodIn wsX6_place (wsV RX6 91 RX3 yX3_putPlace wsX3_putPlace) := goodIn_app (goodIn_of _ (by decide +kernel)) ggX6_place_X3_putPlace
theorem dX6_place_0 : decode cX6_place 0 = .ok (.iload_n 1, 1) := by decide +kernel
theorem dX6_place_1 : decode cX6_place 1 = .ok (.iconst 0, 1) := by decide +kernel
theorem dX6_place_2 : decode cX6_place 2 = .ok (.iconst 2, 1) := by decide +kernel
theorem dX6_place_3 : decode cX6_place 3 = .ok (.invokestatic 44, 3) := by decide +kernel
theorem dX6_place_6 : decode cX6_place 6 = .ok (.ifCond .ne 12, 3) := by decide +kernel
theorem dX6_place_9 : decode cX6_place 9 = .ok (.iload_n 2, 1) := by decide +kernel
theorem dX6_place_10 : decode cX6_place 10 = .ok (.iconst 0, 1) := by decide +kernel
theorem dX6_place_11 : decode cX6_place 11 = .ok (.iconst 1, 1) := by decide +kernel
theorem dX6_place_12 : decode cX6_place 12 = .ok (.invokestatic 44, 3) := by decide +kernel
theorem dX6_place_15 : decode cX6_place 15 = .ok (.ifCond .eq 5, 3) := by decide +kernel
theorem dX6_place_18 : decode cX6_place 18 = .ok (.iconst (-1), 1) := by decide +kernel
theorem dX6_place_19 : decode cX6_place 19 = .ok (.ireturn, 1) := by decide +kernel
theorem dX6_place_20 : decode cX6_place 20 = .ok (.iload_n 3, 1) := by decide +kernel
theorem dX6_place_21 : decode cX6_place 21 = .ok (.iconst 0, 1) := by decide +kernel
theorem dX6_place_22 : decode cX6_place 22 = .ok (.ldc 90, 2) := by decide +kernel
theorem dX6_place_24 : decode cX6_place 24 = .ok (.invokestatic 44, 3) := by decide +kernel
theorem dX6_place_27 : decode cX6_place 27 = .ok (.ifCond .ne 14, 3) := by decide +kernel
theorem dX6_place_30 : decode cX6_place 30 = .ok (.iload 4, 2) := by decide +kernel
theorem dX6_place_32 : decode cX6_place 32 = .ok (.iconst 0, 1) := by decide +kernel
theorem dX6_place_33 : decode cX6_place 33 = .ok (.ldc 90, 2) := by decide +kernel
theorem dX6_place_35 : decode cX6_place 35 = .ok (.invokestatic 44, 3) := by decide +kernel
theorem dX6_place_38 : decode cX6_place 38 = .ok (.ifCond .eq 5, 3) := by decide +kernel
theorem dX6_place_41 : decode cX6_place 41 = .ok (.iconst (-1), 1) := by decide +kernel
theorem dX6_place_42 : decode cX6_place 42 = .ok (.ireturn, 1) := by decide +kernel
theorem dX6_place_43 : decode cX6_place 43 = .ok (.aload_n 0, 1) := by decide +kernel
theorem dX6_place_44 : decode cX6_place 44 = .ok (.getfield 19, 3) := by decide +kernel
theorem dX6_place_47 : decode cX6_place 47 = .ok (.iload_n 1, 1) := by decide +kernel
theorem dX6_place_48 : decode cX6_place 48 = .ok (.iload_n 2, 1) := by decide +kernel
theorem dX6_place_49 : decode cX6_place 49 = .ok (.iload_n 3, 1) := by decide +kernel
theorem dX6_place_50 : decode cX6_place 50 = .ok (.iload 4, 2) := by decide +kernel
theorem dX6_place_52 : decode cX6_place 52 = .ok (.invokevirtual 91, 3) := by decide +kernel
theorem dX6_place_55 : decode cX6_place 55 = .ok (.iconst 1, 1) := by decide +kernel
theorem dX6_place_56 : decode cX6_place 56 = .ok (.ireturn, 1) := by decide +kernel
set_option maxRecDepth 20000 in
theorem ggX6_move_X6_outside : GoodIn wsX6_move wsX6_outside := goodIn_r _ [5] (by decide +kernel) (by decide +kernel)
set_option maxRecDepth 20000 in
theorem gX6_move_X6_outside : GoodIn wsX6_move (va_wsS RX6 44 yX6_outside wsX6_outside) := goodIn_app (goodIn_of _ (by decide +kernel)) ggX6_move_X6_outside
set_option maxRecDepth 20000 in
theorem ggX6_move_X3_doSteps : GoodIn wsX6_move wsX3_doSteps := goodIn_r _ [10, 11, 12, 13, 9, 14, 15, 16, 17, 18, 19, 20, 21, 22, 23, 24, 25, 26, 27, 28, 4, 29, 35, 36, 37, 38, 39, 40, 41, 42, 43] (by decide +kernel) (by decide +kernel)
set_option maxRecDepth 20000 in
theorem gX6_move_X3_doSteps : GoodIn wsX6_move (wsV RX6 94 RX3 yX3_doSteps wsX3_doSteps) := goodIn_app (goodIn_of _ (by decide +kernel)) ggX6_move_X3_doSteps
theorem dX6_move_0 : decode cX6_move 0 = .ok (.iload_n 1, 1) := by decide +kernel
theorem dX6_move_1 : decode cX6_move 1 = .ok (.iconst 1, 1) := by decide +kernel
theorem dX6_move_2 : decode cX6_move 2 = .ok (.sipush 5000, 3) := by decide +kernel
theorem dX6_move_5 : decode cX6_move 5 = .ok (.invokestatic 44, 3) := by decide +kernel
theorem dX6_move_8 : decode cX6_move 8 = .ok (.ifCond .eq 5, 3) := by decide +kernel
theorem dX6_move_11 : decode cX6_move 11 = .ok (.iconst (-1), 1) := by decide +kernel
theorem dX6_move_12 : decode cX6_move 12 = .ok (.ireturn, 1) := by decide +kernel
theorem dX6_move_13 : decode cX6_move 13 = .ok (.aload_n 0, 1) := by decide +kernel
theorem dX6_move_14 : decode cX6_move 14 = .ok (.getfield 19, 3) := by decide +kernel
theorem dX6_move_17 : decode cX6_move 17 = .ok (.iload_n 1, 1) := by decide +kernel
theorem dX6_move_18 : decode cX6_move 18 = .ok (.invokevirtual 94, 3) := by decide +kernel
theorem dX6_move_21 : decode cX6_move 21 = .ok (.ireturn, 1) := by decide +kernel
set_option maxRecDepth 20000 in
theorem ggX6_where_X3_isStill : GoodIn wsX6_where wsX3_isStill := goodIn_r _ [6, 7, 8, 9, 10, 11, 12, 21, 22, 23, 24, 25, 26, 27, 28, 29] (by decide +kernel) (by decide +kernel)
set_option maxRecDepth 20000 in
theorem gX6_where_X3_isStill : GoodIn wsX6_where (wsV RX6 110 RX3 yX3_isStill wsX3_isStill) := goodIn_app (goodIn_of _ (by decide +kernel)) ggX6_where_X3_isStill
set_option maxRecDepth 20000 in
theorem ggX6_where_X6_oneIf : GoodIn wsX6_where wsX6_oneIf := goodIn_r _ [15] (by decide +kernel) (by decide +kernel)
set_option maxRecDepth 20000 in
theorem gX6_where_X6_oneIf : GoodIn wsX6_where (va_wsS RX6 114 yX6_oneIf wsX6_oneIf) := goodIn_app (goodIn_of _ (by decide +kernel)) ggX6_where_X6_oneIf
theorem dX6_where_0 : decode cX6_where 0 = .ok (.iload_n 1, 1) := by decide +kernel
theorem dX6_where_1 : decode cX6_where 1 = .ok (.tableswitch 78 0 4 #[35, 43, 51, 59, 67], 35) := by decide +kernel
theorem dX6_where_36 : decode cX6_where 36 = .ok (.aload_n 0, 1) := by decide +kernel
theorem dX6_where_37 : decode cX6_where 37 = .ok (.getfield 19, 3) := by decide +kernel
theorem dX6_where_40 : decode cX6_where 40 = .ok (.getfield 97, 3) := by decide +kernel
theorem dX6_where_43 : decode cX6_where 43 = .ok (.ireturn, 1) := by decide +kernel
theorem dX6_where_44 : decode cX6_where 44 = .ok (.aload_n 0, 1) := by decide +kernel
theorem dX6_where_45 : decode cX6_where 45 = .ok (.getfield 19, 3) := by decide +kernel
theorem dX6_where_48 : decode cX6_where 48 = .ok (.getfield 101, 3) := by decide +kernel
theorem dX6_where_51 : decode cX6_where 51 = .ok (.ireturn, 1) := by decide +kernel
theorem dX6_where_52 : decode cX6_where 52 = .ok (.aload_n 0, 1) := by decide +kernel
theorem dX6_where_53 : decode cX6_where 53 = .ok (.getfield 19, 3) := by decide +kernel
theorem dX6_where_56 : decode cX6_where 56 = .ok (.getfield 104, 3) := by decide +kernel
theorem dX6_where_59 : decode cX6_where 59 = .ok (.ireturn, 1) := by decide +kernel
theorem dX6_where_60 : decode cX6_where 60 = .ok (.aload_n 0, 1) := by decide +kernel
theorem dX6_where_61 : decode cX6_where 61 = .ok (.getfield 19, 3) := by decide +kernel
theorem dX6_where_64 : decode cX6_where 64 = .ok (.getfield 107, 3) := by decide +kernel
theorem dX6_where_67 : decode cX6_where 67 = .ok (.ireturn, 1) := by decide +kernel
theorem dX6_where_68 : decode cX6_where 68 = .ok (.aload_n 0, 1) := by decide +kernel
theorem dX6_where_69 : decode cX6_where 69 = .ok (.getfield 19, 3) := by decide +kernel
theorem dX6_where_72 : decode cX6_where 72 = .ok (.invokevirtual 110, 3) := by decide +kernel
theorem dX6_where_75 : decode cX6_where 75 = .ok (.invokestatic 114, 3) := by decide +kernel
theorem dX6_where_78 : decode cX6_where 78 = .ok (.ireturn, 1) := by decide +kernel
theorem dX6_where_79 : decode cX6_where 79 = .ok (.iconst (-1), 1) := by decide +kernel
theorem dX6_where_80 : decode cX6_where 80 = .ok (.ireturn, 1) := by decide +kernel
set_option maxRecDepth 20000 in
theorem ggX6_production_X6_outside : GoodIn wsX6_production wsX6_outside := goodIn_r _ [5] (by decide +kernel) (by decide +kernel)
set_option maxRecDepth 20000 in
theorem gX6_production_X6_outside : GoodIn wsX6_production (va_wsS RX6 44 yX6_outside wsX6_outside) := goodIn_app (goodIn_of _ (by decide +kernel)) ggX6_production_X6_outside
set_option maxRecDepth 20000 in
theorem ggX6_production_X4_letterAt : GoodIn wsX6_production wsX4_letterAt := goodIn_r _ [10, 11, 12, 13, 14, 9, 15, 16, 3, 4, 5, 22, 23] (by decide +kernel) (by decide +kernel)
set_option maxRecDepth 20000 in
theorem gX6_production_X4_letterAt : GoodIn wsX6_production (wsV RX6 118 RX4 yX4_letterAt wsX4_letterAt) := goodIn_app (goodIn_of _ (by decide +kernel)) ggX6_production_X4_letterAt
theorem dX6_production_0 : decode cX6_production 0 = .ok (.iload_n 1, 1) := by decide +kernel
theorem dX6_production_1 : decode cX6_production 1 = .ok (.iconst 0, 1) := by decide +kernel
theorem dX6_production_2 : decode cX6_production 2 = .ok (.bipush 120, 2) := by decide +kernel
theorem dX6_production_4 : decode cX6_production 4 = .ok (.invokestatic 44, 3) := by decide +kernel
theorem dX6_production_7 : decode cX6_production 7 = .ok (.ifCond .eq 5, 3) := by decide +kernel
theorem dX6_production_10 : decode cX6_production 10 = .ok (.iconst (-1), 1) := by decide +kernel
theorem dX6_production_11 : decode cX6_production 11 = .ok (.ireturn, 1) := by decide +kernel
theorem dX6_production_12 : decode cX6_production 12 = .ok (.aload_n 0, 1) := by decide +kernel
theorem dX6_production_13 : decode cX6_production 13 = .ok (.getfield 26, 3) := by decide +kernel
theorem dX6_production_16 : decode cX6_production 16 = .ok (.iload_n 1, 1) := by decide +kernel
theorem dX6_production_17 : decode cX6_production 17 = .ok (.iload_n 2, 1) := by decide +kernel
theorem dX6_production_18 : decode cX6_production 18 = .ok (.invokevirtual 118, 3) := by decide +kernel
theorem dX6_production_21 : decode cX6_production 21 = .ok (.ireturn, 1) := by decide +kernel
set_option maxRecDepth 20000 in
theorem ggX6_lay_X6_pairOf : GoodIn wsX6_lay wsX6_pairOf := goodIn_r _ [6] (by decide +kernel) (by decide +kernel)
set_option maxRecDepth 20000 in
theorem gX6_lay_X6_pairOf : GoodIn wsX6_lay (va_wsS RX6 73 yX6_pairOf wsX6_pairOf) := goodIn_app (goodIn_of _ (by decide +kernel)) ggX6_lay_X6_pairOf
set_option maxRecDepth 20000 in
theorem ggX6_lay_X5_layPlace : GoodIn wsX6_lay wsX5_layPlace := goodIn_r _ [11, 12, 13, 14, 15, 16, 17, 18, 19, 20, 21, 22, 10, 23, 24, 25, 26, 27, 28, 29, 30, 31, 32, 47, 48, 49, 50, 51] (by decide +kernel) (by decide +kernel)
set_option maxRecDepth 20000 in
theorem gX6_lay_X5_layPlace : GoodIn wsX6_lay (wsV RX6 121 RX5 yX5_layPlace wsX5_layPlace) := goodIn_app (goodIn_of _ (by decide +kernel)) ggX6_lay_X5_layPlace
theorem dX6_lay_0 : decode cX6_lay 0 = .ok (.aload_n 0, 1) := by decide +kernel
theorem dX6_lay_1 : decode cX6_lay 1 = .ok (.getfield 33, 3) := by decide +kernel
theorem dX6_lay_4 : decode cX6_lay 4 = .ok (.aload_n 0, 1) := by decide +kernel
theorem dX6_lay_5 : decode cX6_lay 5 = .ok (.getfield 19, 3) := by decide +kernel
theorem dX6_lay_8 : decode cX6_lay 8 = .ok (.getfield 97, 3) := by decide +kernel
theorem dX6_lay_11 : decode cX6_lay 11 = .ok (.aload_n 0, 1) := by decide +kernel
theorem dX6_lay_12 : decode cX6_lay 12 = .ok (.getfield 19, 3) := by decide +kernel
theorem dX6_lay_15 : decode cX6_lay 15 = .ok (.getfield 101, 3) := by decide +kernel
theorem dX6_lay_18 : decode cX6_lay 18 = .ok (.invokestatic 73, 3) := by decide +kernel
theorem dX6_lay_21 : decode cX6_lay 21 = .ok (.aload_n 0, 1) := by decide +kernel
theorem dX6_lay_22 : decode cX6_lay 22 = .ok (.getfield 19, 3) := by decide +kernel
theorem dX6_lay_25 : decode cX6_lay 25 = .ok (.getfield 104, 3) := by decide +kernel
theorem dX6_lay_28 : decode cX6_lay 28 = .ok (.aload_n 0, 1) := by decide +kernel
theorem dX6_lay_29 : decode cX6_lay 29 = .ok (.getfield 19, 3) := by decide +kernel
theorem dX6_lay_32 : decode cX6_lay 32 = .ok (.getfield 107, 3) := by decide +kernel
theorem dX6_lay_35 : decode cX6_lay 35 = .ok (.invokevirtual 121, 3) := by decide +kernel
theorem dX6_lay_38 : decode cX6_lay 38 = .ok (.ireturn, 1) := by decide +kernel
set_option maxRecDepth 20000 in
theorem ggX6_add_X6_outside : GoodIn wsX6_add wsX6_outside := goodIn_r _ [5] (by decide +kernel) (by decide +kernel)
set_option maxRecDepth 20000 in
theorem gX6_add_X6_outside : GoodIn wsX6_add (va_wsS RX6 44 yX6_outside wsX6_outside) := goodIn_app (goodIn_of _ (by decide +kernel)) ggX6_add_X6_outside
set_option maxRecDepth 20000 in
theorem ggX6_add_X5_addLetter : GoodIn wsX6_add wsX5_addLetter := goodIn_r _ [10, 11, 12, 13, 14, 15, 16, 17, 18, 19, 20, 21, 22, 23, 29, 30, 31, 32, 33] (by decide +kernel) (by decide +kernel)
set_option maxRecDepth 20000 in
theorem gX6_add_X5_addLetter : GoodIn wsX6_add (wsV RX6 125 RX5 yX5_addLetter wsX5_addLetter) := goodIn_app (goodIn_of _ (by decide +kernel)) ggX6_add_X5_addLetter
theorem dX6_add_0 : decode cX6_add 0 = .ok (.iload_n 1, 1) := by decide +kernel
theorem dX6_add_1 : decode cX6_add 1 = .ok (.iconst 0, 1) := by decide +kernel
theorem dX6_add_2 : decode cX6_add 2 = .ok (.bipush 120, 2) := by decide +kernel
theorem dX6_add_4 : decode cX6_add 4 = .ok (.invokestatic 44, 3) := by decide +kernel
theorem dX6_add_7 : decode cX6_add 7 = .ok (.ifCond .eq 5, 3) := by decide +kernel
theorem dX6_add_10 : decode cX6_add 10 = .ok (.iconst (-1), 1) := by decide +kernel
theorem dX6_add_11 : decode cX6_add 11 = .ok (.ireturn, 1) := by decide +kernel
theorem dX6_add_12 : decode cX6_add 12 = .ok (.aload_n 0, 1) := by decide +kernel
theorem dX6_add_13 : decode cX6_add 13 = .ok (.getfield 33, 3) := by decide +kernel
theorem dX6_add_16 : decode cX6_add 16 = .ok (.iload_n 1, 1) := by decide +kernel
theorem dX6_add_17 : decode cX6_add 17 = .ok (.invokevirtual 125, 3) := by decide +kernel
theorem dX6_add_20 : decode cX6_add 20 = .ok (.ireturn, 1) := by decide +kernel
set_option maxRecDepth 20000 in
theorem ggX6_clear_X2_empty : GoodIn wsX6_clear wsX2_empty := goodIn_r _ [6, 7, 8, 16, 17, 18] (by decide +kernel) (by decide +kernel)
set_option maxRecDepth 20000 in
theorem gX6_clear_X2_empty : GoodIn wsX6_clear (wsV RX6 137 RX2 yX2_empty wsX2_empty) := goodIn_app (goodIn_of _ (by decide +kernel)) ggX6_clear_X2_empty
theorem dX6_clear_0 : decode cX6_clear 0 = .ok (.aload_n 0, 1) := by decide +kernel
theorem dX6_clear_1 : decode cX6_clear 1 = .ok (.getfield 33, 3) := by decide +kernel
theorem dX6_clear_4 : decode cX6_clear 4 = .ok (.getfield 128, 3) := by decide +kernel
theorem dX6_clear_7 : decode cX6_clear 7 = .ok (.getfield 132, 3) := by decide +kernel
theorem dX6_clear_10 : decode cX6_clear 10 = .ok (.istore_n 1, 1) := by decide +kernel
theorem dX6_clear_11 : decode cX6_clear 11 = .ok (.aload_n 0, 1) := by decide +kernel
theorem dX6_clear_12 : decode cX6_clear 12 = .ok (.getfield 33, 3) := by decide +kernel
theorem dX6_clear_15 : decode cX6_clear 15 = .ok (.getfield 128, 3) := by decide +kernel
theorem dX6_clear_18 : decode cX6_clear 18 = .ok (.invokevirtual 137, 3) := by decide +kernel
theorem dX6_clear_21 : decode cX6_clear 21 = .ok (.iload_n 1, 1) := by decide +kernel
theorem dX6_clear_22 : decode cX6_clear 22 = .ok (.ireturn, 1) := by decide +kernel
set_option maxRecDepth 20000 in
theorem ggX6_letter_X2_get : GoodIn wsX6_letter wsX2_get := goodIn_r _ [6, 7, 8, 9, 10, 11, 12, 13, 14, 15, 5, 16, 24, 25, 26] (by decide +kernel) (by decide +kernel)
set_option maxRecDepth 20000 in
theorem gX6_letter_X2_get : GoodIn wsX6_letter (wsV RX6 140 RX2 yX2_get wsX2_get) := goodIn_app (goodIn_of _ (by decide +kernel)) ggX6_letter_X2_get
theorem dX6_letter_0 : decode cX6_letter 0 = .ok (.aload_n 0, 1) := by decide +kernel
theorem dX6_letter_1 : decode cX6_letter 1 = .ok (.getfield 33, 3) := by decide +kernel
theorem dX6_letter_4 : decode cX6_letter 4 = .ok (.getfield 128, 3) := by decide +kernel
theorem dX6_letter_7 : decode cX6_letter 7 = .ok (.iload_n 1, 1) := by decide +kernel
theorem dX6_letter_8 : decode cX6_letter 8 = .ok (.invokevirtual 140, 3) := by decide +kernel
theorem dX6_letter_11 : decode cX6_letter 11 = .ok (.ireturn, 1) := by decide +kernel
theorem dX6_length_0 : decode cX6_length 0 = .ok (.aload_n 0, 1) := by decide +kernel
theorem dX6_length_1 : decode cX6_length 1 = .ok (.getfield 33, 3) := by decide +kernel
theorem dX6_length_4 : decode cX6_length 4 = .ok (.getfield 128, 3) := by decide +kernel
theorem dX6_length_7 : decode cX6_length 7 = .ok (.getfield 132, 3) := by decide +kernel
theorem dX6_length_10 : decode cX6_length 10 = .ok (.ireturn, 1) := by decide +kernel
set_option maxRecDepth 20000 in
theorem ggX6_tag_X6_outside : GoodIn wsX6_tag wsX6_outside := goodIn_r _ [6] (by decide +kernel) (by decide +kernel)
set_option maxRecDepth 20000 in
theorem gX6_tag_X6_outside : GoodIn wsX6_tag (va_wsS RX6 44 yX6_outside wsX6_outside) := goodIn_app (goodIn_of _ (by decide +kernel)) ggX6_tag_X6_outside
set_option maxRecDepth 20000 in
theorem ggX6_tag_X5_doSteps : GoodIn wsX6_tag wsX5_doSteps := goodIn_r _ [11, 12, 13, 14, 10, 15, 16, 17, 18, 19, 20, 21, 22, 23, 24, 4, 5, 6, 25, 26, 27, 28, 29, 30, 31, 32, 33, 34, 35, 36, 37, 38, 39, 40, 41, 42, 43, 44, 45, 46, 47, 48, 49, 50, 51, 52, 58, 59, 60, 61, 62, 63, 64] (by decide +kernel) (by decide +kernel)
set_option maxRecDepth 20000 in
theorem gX6_tag_X5_doSteps : GoodIn wsX6_tag (wsV RX6 143 RX5 yX5_doSteps wsX5_doSteps) := goodIn_app (goodIn_of _ (by decide +kernel)) ggX6_tag_X5_doSteps
theorem dX6_tag_0 : decode cX6_tag 0 = .ok (.iload_n 1, 1) := by decide +kernel
theorem dX6_tag_1 : decode cX6_tag 1 = .ok (.iconst 1, 1) := by decide +kernel
theorem dX6_tag_2 : decode cX6_tag 2 = .ok (.sipush 20000, 3) := by decide +kernel
theorem dX6_tag_5 : decode cX6_tag 5 = .ok (.invokestatic 44, 3) := by decide +kernel
theorem dX6_tag_8 : decode cX6_tag 8 = .ok (.ifCond .eq 5, 3) := by decide +kernel
theorem dX6_tag_11 : decode cX6_tag 11 = .ok (.iconst (-1), 1) := by decide +kernel
theorem dX6_tag_12 : decode cX6_tag 12 = .ok (.ireturn, 1) := by decide +kernel
theorem dX6_tag_13 : decode cX6_tag 13 = .ok (.aload_n 0, 1) := by decide +kernel
theorem dX6_tag_14 : decode cX6_tag 14 = .ok (.getfield 33, 3) := by decide +kernel
theorem dX6_tag_17 : decode cX6_tag 17 = .ok (.iload_n 1, 1) := by decide +kernel
theorem dX6_tag_18 : decode cX6_tag 18 = .ok (.aload_n 0, 1) := by decide +kernel
theorem dX6_tag_19 : decode cX6_tag 19 = .ok (.getfield 26, 3) := by decide +kernel
theorem dX6_tag_22 : decode cX6_tag 22 = .ok (.invokevirtual 143, 3) := by decide +kernel
theorem dX6_tag_25 : decode cX6_tag 25 = .ok (.ireturn, 1) := by decide +kernel
set_option maxRecDepth 20000 in
theorem ggX6_next_X5_stepsToPlace : GoodIn wsX6_next wsX5_stepsToPlace := goodIn_r _ [7, 8, 9, 10, 11, 12, 13, 14, 15, 16, 17, 18, 19, 20, 21, 22, 23, 24, 25, 26, 27, 28, 29, 30, 31, 32, 33, 34, 35, 36, 37, 38, 39, 6, 40, 41, 42, 43, 44, 45, 46, 47, 48, 49, 50, 51, 52, 53, 54, 55, 56, 57, 58, 59, 60, 61, 62, 63, 64, 65, 66, 67, 68, 69, 70, 76, 77, 78, 79, 80, 81, 82] (by decide +kernel) (by decide +kernel)
set_option maxRecDepth 20000 in
theorem gX6_next_X5_stepsToPlace : GoodIn wsX6_next (wsV RX6 146 RX5 yX5_stepsToPlace wsX5_stepsToPlace) := goodIn_app (goodIn_of _ (by decide +kernel)) ggX6_next_X5_stepsToPlace
theorem dX6_next_0 : decode cX6_next 0 = .ok (.aload_n 0, 1) := by decide +kernel
theorem dX6_next_1 : decode cX6_next 1 = .ok (.getfield 33, 3) := by decide +kernel
theorem dX6_next_4 : decode cX6_next 4 = .ok (.aload_n 0, 1) := by decide +kernel
theorem dX6_next_5 : decode cX6_next 5 = .ok (.getfield 26, 3) := by decide +kernel
theorem dX6_next_8 : decode cX6_next 8 = .ok (.invokevirtual 146, 3) := by decide +kernel
theorem dX6_next_11 : decode cX6_next 11 = .ok (.ireturn, 1) := by decide +kernel
set_option maxRecDepth 20000 in
theorem ggX6_told_X6_outside : GoodIn wsX6_told wsX6_outside := goodIn_r _ [5] (by decide +kernel) (by decide +kernel)
set_option maxRecDepth 20000 in
theorem gX6_told_X6_outside : GoodIn wsX6_told (va_wsS RX6 44 yX6_outside wsX6_outside) := goodIn_app (goodIn_of _ (by decide +kernel)) ggX6_told_X6_outside
set_option maxRecDepth 20000 in
theorem ggX6_told_X5_tellPlace : GoodIn wsX6_told wsX5_tellPlace := goodIn_r _ [10, 11, 12, 13, 14, 9, 15, 16, 17, 18, 19, 20, 21, 22, 23, 3, 4, 5, 24, 25, 26, 27, 28, 29, 30, 31, 37, 38, 39, 40, 41] (by decide +kernel) (by decide +kernel)
set_option maxRecDepth 20000 in
theorem gX6_told_X5_tellPlace : GoodIn wsX6_told (wsV RX6 150 RX5 yX5_tellPlace wsX5_tellPlace) := goodIn_app (goodIn_of _ (by decide +kernel)) ggX6_told_X5_tellPlace
theorem dX6_told_0 : decode cX6_told 0 = .ok (.iload_n 1, 1) := by decide +kernel
theorem dX6_told_1 : decode cX6_told 1 = .ok (.iconst 0, 1) := by decide +kernel
theorem dX6_told_2 : decode cX6_told 2 = .ok (.iconst 3, 1) := by decide +kernel
theorem dX6_told_3 : decode cX6_told 3 = .ok (.invokestatic 44, 3) := by decide +kernel
theorem dX6_told_6 : decode cX6_told 6 = .ok (.ifCond .eq 5, 3) := by decide +kernel
theorem dX6_told_9 : decode cX6_told 9 = .ok (.iconst (-1), 1) := by decide +kernel
theorem dX6_told_10 : decode cX6_told 10 = .ok (.ireturn, 1) := by decide +kernel
theorem dX6_told_11 : decode cX6_told 11 = .ok (.aload_n 0, 1) := by decide +kernel
theorem dX6_told_12 : decode cX6_told 12 = .ok (.getfield 33, 3) := by decide +kernel
theorem dX6_told_15 : decode cX6_told 15 = .ok (.iload_n 1, 1) := by decide +kernel
theorem dX6_told_16 : decode cX6_told 16 = .ok (.invokevirtual 150, 3) := by decide +kernel
theorem dX6_told_19 : decode cX6_told 19 = .ok (.ireturn, 1) := by decide +kernel
set_option maxRecDepth 20000 in
theorem ggX6_appendant_X6_outside : GoodIn wsX6_appendant wsX6_outside := goodIn_r _ [5] (by decide +kernel) (by decide +kernel)
set_option maxRecDepth 20000 in
theorem gX6_appendant_X6_outside : GoodIn wsX6_appendant (va_wsS RX6 44 yX6_outside wsX6_outside) := goodIn_app (goodIn_of _ (by decide +kernel)) ggX6_appendant_X6_outside
set_option maxRecDepth 20000 in
theorem ggX6_appendant_X4_bitAt : GoodIn wsX6_appendant wsX4_bitAt := goodIn_r _ [10, 11, 12, 13, 9, 14, 15, 3, 4, 5, 16, 17, 18, 19, 20, 21, 22, 28, 29] (by decide +kernel) (by decide +kernel)
set_option maxRecDepth 20000 in
theorem gX6_appendant_X4_bitAt : GoodIn wsX6_appendant (wsV RX6 153 RX4 yX4_bitAt wsX4_bitAt) := goodIn_app (goodIn_of _ (by decide +kernel)) ggX6_appendant_X4_bitAt
theorem dX6_appendant_0 : decode cX6_appendant 0 = .ok (.iload_n 1, 1) := by decide +kernel
theorem dX6_appendant_1 : decode cX6_appendant 1 = .ok (.iconst 0, 1) := by decide +kernel
theorem dX6_appendant_2 : decode cX6_appendant 2 = .ok (.sipush 241, 3) := by decide +kernel
theorem dX6_appendant_5 : decode cX6_appendant 5 = .ok (.invokestatic 44, 3) := by decide +kernel
theorem dX6_appendant_8 : decode cX6_appendant 8 = .ok (.ifCond .eq 5, 3) := by decide +kernel
theorem dX6_appendant_11 : decode cX6_appendant 11 = .ok (.iconst (-1), 1) := by decide +kernel
theorem dX6_appendant_12 : decode cX6_appendant 12 = .ok (.ireturn, 1) := by decide +kernel
theorem dX6_appendant_13 : decode cX6_appendant 13 = .ok (.aload_n 0, 1) := by decide +kernel
theorem dX6_appendant_14 : decode cX6_appendant 14 = .ok (.getfield 26, 3) := by decide +kernel
theorem dX6_appendant_17 : decode cX6_appendant 17 = .ok (.iload_n 1, 1) := by decide +kernel
theorem dX6_appendant_18 : decode cX6_appendant 18 = .ok (.iload_n 2, 1) := by decide +kernel
theorem dX6_appendant_19 : decode cX6_appendant 19 = .ok (.invokevirtual 153, 3) := by decide +kernel
theorem dX6_appendant_22 : decode cX6_appendant 22 = .ok (.ireturn, 1) := by decide +kernel
set_option maxRecDepth 20000 in
theorem ggX6_spread_X0_layWord : GoodIn wsX6_spread wsX0_layWord := goodIn_r _ [7, 8, 9, 10, 11, 12, 13, 14, 15, 16, 17, 18, 19, 20, 21, 22, 23, 24, 25, 26, 27, 28, 29, 30, 31, 32, 33, 34, 35, 36, 37, 45, 46, 47, 48, 49] (by decide +kernel) (by decide +kernel)
set_option maxRecDepth 20000 in
theorem gX6_spread_X0_layWord : GoodIn wsX6_spread (wsV RX6 156 RX0 yX0_layWord wsX0_layWord) := goodIn_app (goodIn_of _ (by decide +kernel)) ggX6_spread_X0_layWord
theorem dX6_spread_0 : decode cX6_spread 0 = .ok (.aload_n 0, 1) := by decide +kernel
theorem dX6_spread_1 : decode cX6_spread 1 = .ok (.getfield 40, 3) := by decide +kernel
theorem dX6_spread_4 : decode cX6_spread 4 = .ok (.aload_n 0, 1) := by decide +kernel
theorem dX6_spread_5 : decode cX6_spread 5 = .ok (.getfield 33, 3) := by decide +kernel
theorem dX6_spread_8 : decode cX6_spread 8 = .ok (.getfield 128, 3) := by decide +kernel
theorem dX6_spread_11 : decode cX6_spread 11 = .ok (.invokevirtual 156, 3) := by decide +kernel
theorem dX6_spread_14 : decode cX6_spread 14 = .ok (.ireturn, 1) := by decide +kernel
set_option maxRecDepth 20000 in
theorem ggX6_cycle_X6_outside : GoodIn wsX6_cycle wsX6_outside := goodIn_r _ [6] (by decide +kernel) (by decide +kernel)
set_option maxRecDepth 20000 in
theorem gX6_cycle_X6_outside : GoodIn wsX6_cycle (va_wsS RX6 44 yX6_outside wsX6_outside) := goodIn_app (goodIn_of _ (by decide +kernel)) ggX6_cycle_X6_outside
set_option maxRecDepth 20000 in
theorem ggX6_cycle_X0_doSteps : GoodIn wsX6_cycle wsX0_doSteps := goodIn_r _ [11, 12, 13, 14, 10, 15, 16, 17, 18, 19, 20, 21, 22, 23, 24, 25, 26, 27, 28, 29, 30, 31, 32, 33, 4, 5, 6, 34, 35, 36, 37, 38, 39, 40, 41, 42, 43, 44, 45, 46, 47, 48, 49, 50, 51, 52, 53, 54, 55, 56, 57, 58, 59, 60, 61, 62, 63, 64, 65, 66, 67, 68, 69, 70, 71, 72, 73, 74, 75, 81, 82, 83, 84, 85, 86, 87] (by decide +kernel) (by decide +kernel)
set_option maxRecDepth 20000 in
theorem gX6_cycle_X0_doSteps : GoodIn wsX6_cycle (wsV RX6 160 RX0 yX0_doSteps wsX0_doSteps) := goodIn_app (goodIn_of _ (by decide +kernel)) ggX6_cycle_X0_doSteps
theorem dX6_cycle_0 : decode cX6_cycle 0 = .ok (.iload_n 1, 1) := by decide +kernel
theorem dX6_cycle_1 : decode cX6_cycle 1 = .ok (.iconst 1, 1) := by decide +kernel
theorem dX6_cycle_2 : decode cX6_cycle 2 = .ok (.sipush 30000, 3) := by decide +kernel
theorem dX6_cycle_5 : decode cX6_cycle 5 = .ok (.invokestatic 44, 3) := by decide +kernel
theorem dX6_cycle_8 : decode cX6_cycle 8 = .ok (.ifCond .eq 5, 3) := by decide +kernel
theorem dX6_cycle_11 : decode cX6_cycle 11 = .ok (.iconst (-1), 1) := by decide +kernel
theorem dX6_cycle_12 : decode cX6_cycle 12 = .ok (.ireturn, 1) := by decide +kernel
theorem dX6_cycle_13 : decode cX6_cycle 13 = .ok (.aload_n 0, 1) := by decide +kernel
theorem dX6_cycle_14 : decode cX6_cycle 14 = .ok (.getfield 40, 3) := by decide +kernel
theorem dX6_cycle_17 : decode cX6_cycle 17 = .ok (.iload_n 1, 1) := by decide +kernel
theorem dX6_cycle_18 : decode cX6_cycle 18 = .ok (.aload_n 0, 1) := by decide +kernel
theorem dX6_cycle_19 : decode cX6_cycle 19 = .ok (.getfield 26, 3) := by decide +kernel
theorem dX6_cycle_22 : decode cX6_cycle 22 = .ok (.invokevirtual 160, 3) := by decide +kernel
theorem dX6_cycle_25 : decode cX6_cycle 25 = .ok (.ireturn, 1) := by decide +kernel
set_option maxRecDepth 20000 in
theorem ggX6_bit_X0_get : GoodIn wsX6_bit wsX0_get := goodIn_r _ [6, 7, 8, 9, 10, 5, 11, 12, 13, 14, 15, 16, 17, 18, 19, 20, 21, 22, 23, 24, 25, 26, 27, 28, 29, 30, 31, 32, 33, 39, 40, 41, 42, 43] (by decide +kernel) (by decide +kernel)
set_option maxRecDepth 20000 in
theorem gX6_bit_X0_get : GoodIn wsX6_bit (wsV RX6 161 RX0 yX0_get wsX0_get) := goodIn_app (goodIn_of _ (by decide +kernel)) ggX6_bit_X0_get
theorem dX6_bit_0 : decode cX6_bit 0 = .ok (.aload_n 0, 1) := by decide +kernel
theorem dX6_bit_1 : decode cX6_bit 1 = .ok (.getfield 40, 3) := by decide +kernel
theorem dX6_bit_4 : decode cX6_bit 4 = .ok (.iload_n 1, 1) := by decide +kernel
theorem dX6_bit_5 : decode cX6_bit 5 = .ok (.invokevirtual 161, 3) := by decide +kernel
theorem dX6_bit_8 : decode cX6_bit 8 = .ok (.ireturn, 1) := by decide +kernel
set_option maxRecDepth 20000 in
theorem ggX6_bits_X0_size : GoodIn wsX6_bits wsX0_size := goodIn_r _ [7, 8, 9, 10, 11, 6, 12, 13, 51, 52, 53, 54, 55] (by decide +kernel) (by decide +kernel)
set_option maxRecDepth 20000 in
theorem gX6_bits_X0_size : GoodIn wsX6_bits (wsV RX6 162 RX0 yX0_size wsX0_size) := goodIn_app (goodIn_of _ (by decide +kernel)) ggX6_bits_X0_size
set_option maxRecDepth 20000 in
theorem ggX6_bits_X0_ones : GoodIn wsX6_bits wsX0_ones := goodIn_r _ [17, 8, 18, 19, 20, 21, 22, 23, 24, 25, 26, 27, 28, 29, 30, 31, 32, 9, 10, 11, 6, 12, 13, 51, 52, 53, 54, 55] (by decide +kernel) (by decide +kernel)
set_option maxRecDepth 20000 in
theorem gX6_bits_X0_ones : GoodIn wsX6_bits (wsV RX6 167 RX0 yX0_ones wsX0_ones) := goodIn_app (goodIn_of _ (by decide +kernel)) ggX6_bits_X0_ones
set_option maxRecDepth 20000 in
theorem ggX6_bits_X0_isStill : GoodIn wsX6_bits wsX0_isStill := goodIn_r _ [36, 13, 8, 18, 19, 20, 21, 22, 23, 24, 25, 26, 27, 28, 29, 30, 31, 32, 37, 38, 39, 40, 41, 42, 51, 52, 53, 54, 55, 56, 57] (by decide +kernel) (by decide +kernel)
set_option maxRecDepth 20000 in
theorem gX6_bits_X0_isStill : GoodIn wsX6_bits (wsV RX6 170 RX0 yX0_isStill wsX0_isStill) := goodIn_app (goodIn_of _ (by decide +kernel)) ggX6_bits_X0_isStill
set_option maxRecDepth 20000 in
theorem ggX6_bits_X6_oneIf : GoodIn wsX6_bits wsX6_oneIf := goodIn_r _ [45] (by decide +kernel) (by decide +kernel)
set_option maxRecDepth 20000 in
theorem gX6_bits_X6_oneIf : GoodIn wsX6_bits (va_wsS RX6 114 yX6_oneIf wsX6_oneIf) := goodIn_app (goodIn_of _ (by decide +kernel)) ggX6_bits_X6_oneIf
theorem dX6_bits_0 : decode cX6_bits 0 = .ok (.iload_n 1, 1) := by decide +kernel
theorem dX6_bits_1 : decode cX6_bits 1 = .ok (.tableswitch 70 0 3 #[31, 39, 47, 55], 31) := by decide +kernel
theorem dX6_bits_32 : decode cX6_bits 32 = .ok (.aload_n 0, 1) := by decide +kernel
theorem dX6_bits_33 : decode cX6_bits 33 = .ok (.getfield 40, 3) := by decide +kernel
theorem dX6_bits_36 : decode cX6_bits 36 = .ok (.invokevirtual 162, 3) := by decide +kernel
theorem dX6_bits_39 : decode cX6_bits 39 = .ok (.ireturn, 1) := by decide +kernel
theorem dX6_bits_40 : decode cX6_bits 40 = .ok (.aload_n 0, 1) := by decide +kernel
theorem dX6_bits_41 : decode cX6_bits 41 = .ok (.getfield 40, 3) := by decide +kernel
theorem dX6_bits_44 : decode cX6_bits 44 = .ok (.getfield 164, 3) := by decide +kernel
theorem dX6_bits_47 : decode cX6_bits 47 = .ok (.ireturn, 1) := by decide +kernel
theorem dX6_bits_48 : decode cX6_bits 48 = .ok (.aload_n 0, 1) := by decide +kernel
theorem dX6_bits_49 : decode cX6_bits 49 = .ok (.getfield 40, 3) := by decide +kernel
theorem dX6_bits_52 : decode cX6_bits 52 = .ok (.invokevirtual 167, 3) := by decide +kernel
theorem dX6_bits_55 : decode cX6_bits 55 = .ok (.ireturn, 1) := by decide +kernel
theorem dX6_bits_56 : decode cX6_bits 56 = .ok (.aload_n 0, 1) := by decide +kernel
theorem dX6_bits_57 : decode cX6_bits 57 = .ok (.getfield 40, 3) := by decide +kernel
theorem dX6_bits_60 : decode cX6_bits 60 = .ok (.aload_n 0, 1) := by decide +kernel
theorem dX6_bits_61 : decode cX6_bits 61 = .ok (.getfield 26, 3) := by decide +kernel
theorem dX6_bits_64 : decode cX6_bits 64 = .ok (.invokevirtual 170, 3) := by decide +kernel
theorem dX6_bits_67 : decode cX6_bits 67 = .ok (.invokestatic 114, 3) := by decide +kernel
theorem dX6_bits_70 : decode cX6_bits 70 = .ok (.ireturn, 1) := by decide +kernel
theorem dX6_bits_71 : decode cX6_bits 71 = .ok (.iconst (-1), 1) := by decide +kernel
theorem dX6_bits_72 : decode cX6_bits 72 = .ok (.ireturn, 1) := by decide +kernel
set_option maxRecDepth 20000 in
theorem ggX6_gather_X2_become : GoodIn wsX6_gather wsX2_become := goodIn_r _ [7, 8, 9, 10, 11, 6, 12, 13, 14, 15, 16, 17, 18, 19, 20, 21, 22, 23, 24, 25, 26, 27, 28, 29, 37, 38, 39] (by decide +kernel) (by decide +kernel)
set_option maxRecDepth 20000 in
theorem gX6_gather_X2_become : GoodIn wsX6_gather (wsV RX6 174 RX2 yX2_become wsX2_become) := goodIn_app (goodIn_of _ (by decide +kernel)) ggX6_gather_X2_become
theorem dX6_gather_0 : decode cX6_gather 0 = .ok (.aload_n 0, 1) := by decide +kernel
theorem dX6_gather_1 : decode cX6_gather 1 = .ok (.getfield 40, 3) := by decide +kernel
theorem dX6_gather_4 : decode cX6_gather 4 = .ok (.getfield 164, 3) := by decide +kernel
theorem dX6_gather_7 : decode cX6_gather 7 = .ok (.ifCond .eq 6, 3) := by decide +kernel
theorem dX6_gather_10 : decode cX6_gather 10 = .ok (.bipush (-2), 2) := by decide +kernel
theorem dX6_gather_12 : decode cX6_gather 12 = .ok (.ireturn, 1) := by decide +kernel
theorem dX6_gather_13 : decode cX6_gather 13 = .ok (.aload_n 0, 1) := by decide +kernel
theorem dX6_gather_14 : decode cX6_gather 14 = .ok (.getfield 40, 3) := by decide +kernel
theorem dX6_gather_17 : decode cX6_gather 17 = .ok (.getfield 173, 3) := by decide +kernel
theorem dX6_gather_20 : decode cX6_gather 20 = .ok (.getfield 132, 3) := by decide +kernel
theorem dX6_gather_23 : decode cX6_gather 23 = .ok (.sipush 600, 3) := by decide +kernel
theorem dX6_gather_26 : decode cX6_gather 26 = .ok (.if_icmp .le 6, 3) := by decide +kernel
theorem dX6_gather_29 : decode cX6_gather 29 = .ok (.bipush (-3), 2) := by decide +kernel
theorem dX6_gather_31 : decode cX6_gather 31 = .ok (.ireturn, 1) := by decide +kernel
theorem dX6_gather_32 : decode cX6_gather 32 = .ok (.aload_n 0, 1) := by decide +kernel
theorem dX6_gather_33 : decode cX6_gather 33 = .ok (.getfield 33, 3) := by decide +kernel
theorem dX6_gather_36 : decode cX6_gather 36 = .ok (.getfield 128, 3) := by decide +kernel
theorem dX6_gather_39 : decode cX6_gather 39 = .ok (.aload_n 0, 1) := by decide +kernel
theorem dX6_gather_40 : decode cX6_gather 40 = .ok (.getfield 40, 3) := by decide +kernel
theorem dX6_gather_43 : decode cX6_gather 43 = .ok (.getfield 173, 3) := by decide +kernel
theorem dX6_gather_46 : decode cX6_gather 46 = .ok (.invokevirtual 174, 3) := by decide +kernel
theorem dX6_gather_49 : decode cX6_gather 49 = .ok (.aload_n 0, 1) := by decide +kernel
theorem dX6_gather_50 : decode cX6_gather 50 = .ok (.getfield 33, 3) := by decide +kernel
theorem dX6_gather_53 : decode cX6_gather 53 = .ok (.getfield 128, 3) := by decide +kernel
theorem dX6_gather_56 : decode cX6_gather 56 = .ok (.getfield 132, 3) := by decide +kernel
theorem dX6_gather_59 : decode cX6_gather 59 = .ok (.ireturn, 1) := by decide +kernel
theorem dX6_outside_0 : decode cX6_outside 0 = .ok (.iload_n 0, 1) := by decide +kernel
theorem dX6_outside_1 : decode cX6_outside 1 = .ok (.iload_n 1, 1) := by decide +kernel
theorem dX6_outside_2 : decode cX6_outside 2 = .ok (.if_icmp .lt 8, 3) := by decide +kernel
theorem dX6_outside_5 : decode cX6_outside 5 = .ok (.iload_n 0, 1) := by decide +kernel
theorem dX6_outside_6 : decode cX6_outside 6 = .ok (.iload_n 2, 1) := by decide +kernel
theorem dX6_outside_7 : decode cX6_outside 7 = .ok (.if_icmp .le 7, 3) := by decide +kernel
theorem dX6_outside_10 : decode cX6_outside 10 = .ok (.iconst 1, 1) := by decide +kernel
theorem dX6_outside_11 : decode cX6_outside 11 = .ok (.goto 4, 3) := by decide +kernel
theorem dX6_outside_14 : decode cX6_outside 14 = .ok (.iconst 0, 1) := by decide +kernel
theorem dX6_outside_15 : decode cX6_outside 15 = .ok (.ireturn, 1) := by decide +kernel
theorem dX6_oneIf_0 : decode cX6_oneIf 0 = .ok (.iload_n 0, 1) := by decide +kernel
theorem dX6_oneIf_1 : decode cX6_oneIf 1 = .ok (.ifCond .eq 7, 3) := by decide +kernel
theorem dX6_oneIf_4 : decode cX6_oneIf 4 = .ok (.iconst 1, 1) := by decide +kernel
theorem dX6_oneIf_5 : decode cX6_oneIf 5 = .ok (.goto 4, 3) := by decide +kernel
theorem dX6_oneIf_8 : decode cX6_oneIf 8 = .ok (.iconst 0, 1) := by decide +kernel
theorem dX6_oneIf_9 : decode cX6_oneIf 9 = .ok (.ireturn, 1) := by decide +kernel
theorem dX6_pairOf_0 : decode cX6_pairOf 0 = .ok (.iconst 2, 1) := by decide +kernel
theorem dX6_pairOf_1 : decode cX6_pairOf 1 = .ok (.iload_n 0, 1) := by decide +kernel
theorem dX6_pairOf_2 : decode cX6_pairOf 2 = .ok (.imul, 1) := by decide +kernel
theorem dX6_pairOf_3 : decode cX6_pairOf 3 = .ok (.iload_n 1, 1) := by decide +kernel
theorem dX6_pairOf_4 : decode cX6_pairOf 4 = .ok (.iadd, 1) := by decide +kernel
theorem dX6_pairOf_5 : decode cX6_pairOf 5 = .ok (.ireturn, 1) := by decide +kernel
theorem dX7_init_0 : decode cX7_init 0 = .ok (.aload_n 0, 1) := by decide +kernel
theorem dX7_init_1 : decode cX7_init 1 = .ok (.invokespecial 1, 3) := by decide +kernel
theorem dX7_init_4 : decode cX7_init 4 = .ok (.aload_n 0, 1) := by decide +kernel
theorem dX7_init_5 : decode cX7_init 5 = .ok (.iconst 4, 1) := by decide +kernel
theorem dX7_init_6 : decode cX7_init 6 = .ok (.newarray .int, 2) := by decide +kernel
theorem dX7_init_8 : decode cX7_init 8 = .ok (.putfield 7, 3) := by decide +kernel
theorem dX7_init_11 : decode cX7_init 11 = .ok (.aload_n 0, 1) := by decide +kernel
theorem dX7_init_12 : decode cX7_init 12 = .ok (.bipush 24, 2) := by decide +kernel
theorem dX7_init_14 : decode cX7_init 14 = .ok (.newarray .int, 2) := by decide +kernel
theorem dX7_init_16 : decode cX7_init 16 = .ok (.putfield 13, 3) := by decide +kernel
theorem dX7_init_19 : decode cX7_init 19 = .ok (.aload_n 0, 1) := by decide +kernel
theorem dX7_init_20 : decode cX7_init 20 = .ok (.bipush 24, 2) := by decide +kernel
theorem dX7_init_22 : decode cX7_init 22 = .ok (.newarray .int, 2) := by decide +kernel
theorem dX7_init_24 : decode cX7_init 24 = .ok (.putfield 16, 3) := by decide +kernel
theorem dX7_init_27 : decode cX7_init 27 = .ok (.aload_n 0, 1) := by decide +kernel
theorem dX7_init_28 : decode cX7_init 28 = .ok (.bipush 24, 2) := by decide +kernel
theorem dX7_init_30 : decode cX7_init 30 = .ok (.newarray .int, 2) := by decide +kernel
theorem dX7_init_32 : decode cX7_init 32 = .ok (.putfield 19, 3) := by decide +kernel
theorem dX7_init_35 : decode cX7_init 35 = .ok (.aload_n 0, 1) := by decide +kernel
theorem dX7_init_36 : decode cX7_init 36 = .ok (.bipush 24, 2) := by decide +kernel
theorem dX7_init_38 : decode cX7_init 38 = .ok (.newarray .int, 2) := by decide +kernel
theorem dX7_init_40 : decode cX7_init 40 = .ok (.putfield 22, 3) := by decide +kernel
theorem dX7_init_43 : decode cX7_init 43 = .ok (.aload_n 0, 1) := by decide +kernel
theorem dX7_init_44 : decode cX7_init 44 = .ok (.bipush 6, 2) := by decide +kernel
theorem dX7_init_46 : decode cX7_init 46 = .ok (.newarray .int, 2) := by decide +kernel
theorem dX7_init_48 : decode cX7_init 48 = .ok (.dup, 1) := by decide +kernel
theorem dX7_init_49 : decode cX7_init 49 = .ok (.iconst 0, 1) := by decide +kernel
theorem dX7_init_50 : decode cX7_init 50 = .ok (.iconst (-1), 1) := by decide +kernel
theorem dX7_init_51 : decode cX7_init 51 = .ok (.iastore, 1) := by decide +kernel
theorem dX7_init_52 : decode cX7_init 52 = .ok (.dup, 1) := by decide +kernel
theorem dX7_init_53 : decode cX7_init 53 = .ok (.iconst 1, 1) := by decide +kernel
theorem dX7_init_54 : decode cX7_init 54 = .ok (.iconst (-1), 1) := by decide +kernel
theorem dX7_init_55 : decode cX7_init 55 = .ok (.iastore, 1) := by decide +kernel
theorem dX7_init_56 : decode cX7_init 56 = .ok (.dup, 1) := by decide +kernel
theorem dX7_init_57 : decode cX7_init 57 = .ok (.iconst 2, 1) := by decide +kernel
theorem dX7_init_58 : decode cX7_init 58 = .ok (.iconst (-1), 1) := by decide +kernel
theorem dX7_init_59 : decode cX7_init 59 = .ok (.iastore, 1) := by decide +kernel
theorem dX7_init_60 : decode cX7_init 60 = .ok (.dup, 1) := by decide +kernel
theorem dX7_init_61 : decode cX7_init 61 = .ok (.iconst 3, 1) := by decide +kernel
theorem dX7_init_62 : decode cX7_init 62 = .ok (.iconst (-1), 1) := by decide +kernel
theorem dX7_init_63 : decode cX7_init 63 = .ok (.iastore, 1) := by decide +kernel
theorem dX7_init_64 : decode cX7_init 64 = .ok (.dup, 1) := by decide +kernel
theorem dX7_init_65 : decode cX7_init 65 = .ok (.iconst 4, 1) := by decide +kernel
theorem dX7_init_66 : decode cX7_init 66 = .ok (.iconst (-1), 1) := by decide +kernel
theorem dX7_init_67 : decode cX7_init 67 = .ok (.iastore, 1) := by decide +kernel
theorem dX7_init_68 : decode cX7_init 68 = .ok (.dup, 1) := by decide +kernel
theorem dX7_init_69 : decode cX7_init 69 = .ok (.iconst 5, 1) := by decide +kernel
theorem dX7_init_70 : decode cX7_init 70 = .ok (.iconst (-1), 1) := by decide +kernel
theorem dX7_init_71 : decode cX7_init 71 = .ok (.iastore, 1) := by decide +kernel
theorem dX7_init_72 : decode cX7_init 72 = .ok (.putfield 25, 3) := by decide +kernel
theorem dX7_init_75 : decode cX7_init 75 = .ok (.aload_n 0, 1) := by decide +kernel
theorem dX7_init_76 : decode cX7_init 76 = .ok (.bipush 6, 2) := by decide +kernel
theorem dX7_init_78 : decode cX7_init 78 = .ok (.newarray .int, 2) := by decide +kernel
theorem dX7_init_80 : decode cX7_init 80 = .ok (.putfield 28, 3) := by decide +kernel
theorem dX7_init_83 : decode cX7_init 83 = .ok (.aload_n 0, 1) := by decide +kernel
theorem dX7_init_84 : decode cX7_init 84 = .ok (.bipush 6, 2) := by decide +kernel
theorem dX7_init_86 : decode cX7_init 86 = .ok (.newarray .int, 2) := by decide +kernel
theorem dX7_init_88 : decode cX7_init 88 = .ok (.putfield 31, 3) := by decide +kernel
theorem dX7_init_91 : decode cX7_init 91 = .ok (.aload_n 0, 1) := by decide +kernel
theorem dX7_init_92 : decode cX7_init 92 = .ok (.sipush 700, 3) := by decide +kernel
theorem dX7_init_95 : decode cX7_init 95 = .ok (.newarray .int, 2) := by decide +kernel
theorem dX7_init_97 : decode cX7_init 97 = .ok (.putfield 34, 3) := by decide +kernel
theorem dX7_init_100 : decode cX7_init 100 = .ok (.aload_n 0, 1) := by decide +kernel
theorem dX7_init_101 : decode cX7_init 101 = .ok (.sipush 700, 3) := by decide +kernel
theorem dX7_init_104 : decode cX7_init 104 = .ok (.newarray .int, 2) := by decide +kernel
theorem dX7_init_106 : decode cX7_init 106 = .ok (.putfield 37, 3) := by decide +kernel
theorem dX7_init_109 : decode cX7_init 109 = .ok (.aload_n 0, 1) := by decide +kernel
theorem dX7_init_110 : decode cX7_init 110 = .ok (.ldc 40, 2) := by decide +kernel
theorem dX7_init_112 : decode cX7_init 112 = .ok (.newarray .int, 2) := by decide +kernel
theorem dX7_init_114 : decode cX7_init 114 = .ok (.putfield 41, 3) := by decide +kernel
theorem dX7_init_117 : decode cX7_init 117 = .ok (.aload_n 0, 1) := by decide +kernel
theorem dX7_init_118 : decode cX7_init 118 = .ok (.bipush 6, 2) := by decide +kernel
theorem dX7_init_120 : decode cX7_init 120 = .ok (.newarray .int, 2) := by decide +kernel
theorem dX7_init_122 : decode cX7_init 122 = .ok (.putfield 44, 3) := by decide +kernel
theorem dX7_init_125 : decode cX7_init 125 = .ok (.return_, 1) := by decide +kernel
theorem dX7_in_0 : decode cX7_in 0 = .ok (.lload_n 0, 1) := by decide +kernel
theorem dX7_in_1 : decode cX7_in 1 = .ok (.lload_n 2, 1) := by decide +kernel
theorem dX7_in_2 : decode cX7_in 2 = .ok (.lcmp, 1) := by decide +kernel
theorem dX7_in_3 : decode cX7_in 3 = .ok (.ifCond .lt 14, 3) := by decide +kernel
theorem dX7_in_6 : decode cX7_in 6 = .ok (.lload_n 0, 1) := by decide +kernel
theorem dX7_in_7 : decode cX7_in 7 = .ok (.lload 4, 2) := by decide +kernel
theorem dX7_in_9 : decode cX7_in 9 = .ok (.lcmp, 1) := by decide +kernel
theorem dX7_in_10 : decode cX7_in 10 = .ok (.ifCond .gt 7, 3) := by decide +kernel
theorem dX7_in_13 : decode cX7_in 13 = .ok (.iconst 1, 1) := by decide +kernel
theorem dX7_in_14 : decode cX7_in 14 = .ok (.goto 4, 3) := by decide +kernel
theorem dX7_in_17 : decode cX7_in 17 = .ok (.iconst 0, 1) := by decide +kernel
theorem dX7_in_18 : decode cX7_in 18 = .ok (.ireturn, 1) := by decide +kernel
set_option maxRecDepth 20000 in
theorem ggX7_line_X7_in : GoodIn wsX7_line wsX7_in := goodIn_r _ [13] (by decide +kernel) (by decide +kernel)
set_option maxRecDepth 20000 in
theorem gX7_line_X7_in : GoodIn wsX7_line (va_wsS RX7 53 yX7_in wsX7_in) := goodIn_app (goodIn_of _ (by decide +kernel)) ggX7_line_X7_in
theorem dX7_line_0 : decode cX7_line 0 = .ok (.aload_n 0, 1) := by decide +kernel
theorem dX7_line_1 : decode cX7_line 1 = .ok (.iconst 0, 1) := by decide +kernel
theorem dX7_line_2 : decode cX7_line 2 = .ok (.putfield 47, 3) := by decide +kernel
theorem dX7_line_5 : decode cX7_line 5 = .ok (.iload_n 1, 1) := by decide +kernel
theorem dX7_line_6 : decode cX7_line 6 = .ok (.i2l, 1) := by decide +kernel
theorem dX7_line_7 : decode cX7_line 7 = .ok (.lconst 0, 1) := by decide +kernel
theorem dX7_line_8 : decode cX7_line 8 = .ok (.ldc2_w 51, 3) := by decide +kernel
theorem dX7_line_11 : decode cX7_line 11 = .ok (.invokestatic 53, 3) := by decide +kernel
theorem dX7_line_14 : decode cX7_line 14 = .ok (.ifCond .eq 40, 3) := by decide +kernel
theorem dX7_line_17 : decode cX7_line 17 = .ok (.iload_n 2, 1) := by decide +kernel
theorem dX7_line_18 : decode cX7_line 18 = .ok (.i2l, 1) := by decide +kernel
theorem dX7_line_19 : decode cX7_line 19 = .ok (.lconst 0, 1) := by decide +kernel
theorem dX7_line_20 : decode cX7_line 20 = .ok (.ldc2_w 57, 3) := by decide +kernel
theorem dX7_line_23 : decode cX7_line 23 = .ok (.invokestatic 53, 3) := by decide +kernel
theorem dX7_line_26 : decode cX7_line 26 = .ok (.ifCond .eq 28, 3) := by decide +kernel
theorem dX7_line_29 : decode cX7_line 29 = .ok (.iload_n 3, 1) := by decide +kernel
theorem dX7_line_30 : decode cX7_line 30 = .ok (.i2l, 1) := by decide +kernel
theorem dX7_line_31 : decode cX7_line 31 = .ok (.lconst 0, 1) := by decide +kernel
theorem dX7_line_32 : decode cX7_line 32 = .ok (.ldc2_w 59, 3) := by decide +kernel
theorem dX7_line_35 : decode cX7_line 35 = .ok (.invokestatic 53, 3) := by decide +kernel
theorem dX7_line_38 : decode cX7_line 38 = .ok (.ifCond .eq 16, 3) := by decide +kernel
theorem dX7_line_41 : decode cX7_line 41 = .ok (.iload 4, 2) := by decide +kernel
theorem dX7_line_43 : decode cX7_line 43 = .ok (.i2l, 1) := by decide +kernel
theorem dX7_line_44 : decode cX7_line 44 = .ok (.lconst 0, 1) := by decide +kernel
theorem dX7_line_45 : decode cX7_line 45 = .ok (.ldc2_w 59, 3) := by decide +kernel
theorem dX7_line_48 : decode cX7_line 48 = .ok (.invokestatic 53, 3) := by decide +kernel
theorem dX7_line_51 : decode cX7_line 51 = .ok (.ifCond .ne 5, 3) := by decide +kernel
theorem dX7_line_54 : decode cX7_line 54 = .ok (.iconst (-1), 1) := by decide +kernel
theorem dX7_line_55 : decode cX7_line 55 = .ok (.ireturn, 1) := by decide +kernel
theorem dX7_line_56 : decode cX7_line 56 = .ok (.aload_n 0, 1) := by decide +kernel
theorem dX7_line_57 : decode cX7_line 57 = .ok (.getfield 61, 3) := by decide +kernel
theorem dX7_line_60 : decode cX7_line 60 = .ok (.bipush 24, 2) := by decide +kernel
theorem dX7_line_62 : decode cX7_line 62 = .ok (.if_icmp .ne 6, 3) := by decide +kernel
theorem dX7_line_65 : decode cX7_line 65 = .ok (.bipush (-3), 2) := by decide +kernel
theorem dX7_line_67 : decode cX7_line 67 = .ok (.ireturn, 1) := by decide +kernel
theorem dX7_line_68 : decode cX7_line 68 = .ok (.aload_n 0, 1) := by decide +kernel
theorem dX7_line_69 : decode cX7_line 69 = .ok (.getfield 13, 3) := by decide +kernel
theorem dX7_line_72 : decode cX7_line 72 = .ok (.aload_n 0, 1) := by decide +kernel
theorem dX7_line_73 : decode cX7_line 73 = .ok (.getfield 61, 3) := by decide +kernel
theorem dX7_line_76 : decode cX7_line 76 = .ok (.iload_n 1, 1) := by decide +kernel
theorem dX7_line_77 : decode cX7_line 77 = .ok (.iastore, 1) := by decide +kernel
theorem dX7_line_78 : decode cX7_line 78 = .ok (.aload_n 0, 1) := by decide +kernel
theorem dX7_line_79 : decode cX7_line 79 = .ok (.getfield 16, 3) := by decide +kernel
theorem dX7_line_82 : decode cX7_line 82 = .ok (.aload_n 0, 1) := by decide +kernel
theorem dX7_line_83 : decode cX7_line 83 = .ok (.getfield 61, 3) := by decide +kernel
theorem dX7_line_86 : decode cX7_line 86 = .ok (.iload_n 2, 1) := by decide +kernel
theorem dX7_line_87 : decode cX7_line 87 = .ok (.iastore, 1) := by decide +kernel
theorem dX7_line_88 : decode cX7_line 88 = .ok (.aload_n 0, 1) := by decide +kernel
theorem dX7_line_89 : decode cX7_line 89 = .ok (.getfield 19, 3) := by decide +kernel
theorem dX7_line_92 : decode cX7_line 92 = .ok (.aload_n 0, 1) := by decide +kernel
theorem dX7_line_93 : decode cX7_line 93 = .ok (.getfield 61, 3) := by decide +kernel
theorem dX7_line_96 : decode cX7_line 96 = .ok (.iload_n 3, 1) := by decide +kernel
theorem dX7_line_97 : decode cX7_line 97 = .ok (.iastore, 1) := by decide +kernel
theorem dX7_line_98 : decode cX7_line 98 = .ok (.aload_n 0, 1) := by decide +kernel
theorem dX7_line_99 : decode cX7_line 99 = .ok (.getfield 22, 3) := by decide +kernel
theorem dX7_line_102 : decode cX7_line 102 = .ok (.aload_n 0, 1) := by decide +kernel
theorem dX7_line_103 : decode cX7_line 103 = .ok (.getfield 61, 3) := by decide +kernel
theorem dX7_line_106 : decode cX7_line 106 = .ok (.iload 4, 2) := by decide +kernel
theorem dX7_line_108 : decode cX7_line 108 = .ok (.iastore, 1) := by decide +kernel
theorem dX7_line_109 : decode cX7_line 109 = .ok (.aload_n 0, 1) := by decide +kernel
theorem dX7_line_110 : decode cX7_line 110 = .ok (.dup, 1) := by decide +kernel
theorem dX7_line_111 : decode cX7_line 111 = .ok (.getfield 61, 3) := by decide +kernel
theorem dX7_line_114 : decode cX7_line 114 = .ok (.iconst 1, 1) := by decide +kernel
theorem dX7_line_115 : decode cX7_line 115 = .ok (.iadd, 1) := by decide +kernel
theorem dX7_line_116 : decode cX7_line 116 = .ok (.putfield 61, 3) := by decide +kernel
theorem dX7_line_119 : decode cX7_line 119 = .ok (.aload_n 0, 1) := by decide +kernel
theorem dX7_line_120 : decode cX7_line 120 = .ok (.getfield 61, 3) := by decide +kernel
theorem dX7_line_123 : decode cX7_line 123 = .ok (.ireturn, 1) := by decide +kernel
theorem dX7_wipe_0 : decode cX7_wipe 0 = .ok (.aload_n 0, 1) := by decide +kernel
theorem dX7_wipe_1 : decode cX7_wipe 1 = .ok (.iconst 0, 1) := by decide +kernel
theorem dX7_wipe_2 : decode cX7_wipe 2 = .ok (.putfield 47, 3) := by decide +kernel
theorem dX7_wipe_5 : decode cX7_wipe 5 = .ok (.aload_n 0, 1) := by decide +kernel
theorem dX7_wipe_6 : decode cX7_wipe 6 = .ok (.getfield 61, 3) := by decide +kernel
theorem dX7_wipe_9 : decode cX7_wipe 9 = .ok (.istore_n 1, 1) := by decide +kernel
theorem dX7_wipe_10 : decode cX7_wipe 10 = .ok (.aload_n 0, 1) := by decide +kernel
theorem dX7_wipe_11 : decode cX7_wipe 11 = .ok (.iconst 0, 1) := by decide +kernel
theorem dX7_wipe_12 : decode cX7_wipe 12 = .ok (.putfield 61, 3) := by decide +kernel
theorem dX7_wipe_15 : decode cX7_wipe 15 = .ok (.aload_n 0, 1) := by decide +kernel
theorem dX7_wipe_16 : decode cX7_wipe 16 = .ok (.iconst 0, 1) := by decide +kernel
theorem dX7_wipe_17 : decode cX7_wipe 17 = .ok (.putfield 64, 3) := by decide +kernel
theorem dX7_wipe_20 : decode cX7_wipe 20 = .ok (.iload_n 1, 1) := by decide +kernel
theorem dX7_wipe_21 : decode cX7_wipe 21 = .ok (.ireturn, 1) := by decide +kernel
set_option maxRecDepth 20000 in
theorem ggX7_set_X7_in : GoodIn wsX7_set wsX7_in := goodIn_r _ [8] (by decide +kernel) (by decide +kernel)
set_option maxRecDepth 20000 in
theorem gX7_set_X7_in : GoodIn wsX7_set (va_wsS RX7 53 yX7_in wsX7_in) := goodIn_app (goodIn_of _ (by decide +kernel)) ggX7_set_X7_in
theorem dX7_set_0 : decode cX7_set 0 = .ok (.aload_n 0, 1) := by decide +kernel
theorem dX7_set_1 : decode cX7_set 1 = .ok (.iconst 0, 1) := by decide +kernel
theorem dX7_set_2 : decode cX7_set 2 = .ok (.putfield 47, 3) := by decide +kernel
theorem dX7_set_5 : decode cX7_set 5 = .ok (.iload_n 1, 1) := by decide +kernel
theorem dX7_set_6 : decode cX7_set 6 = .ok (.i2l, 1) := by decide +kernel
theorem dX7_set_7 : decode cX7_set 7 = .ok (.lconst 0, 1) := by decide +kernel
theorem dX7_set_8 : decode cX7_set 8 = .ok (.ldc2_w 57, 3) := by decide +kernel
theorem dX7_set_11 : decode cX7_set 11 = .ok (.invokestatic 53, 3) := by decide +kernel
theorem dX7_set_14 : decode cX7_set 14 = .ok (.ifCond .eq 15, 3) := by decide +kernel
theorem dX7_set_17 : decode cX7_set 17 = .ok (.iload_n 2, 1) := by decide +kernel
theorem dX7_set_18 : decode cX7_set 18 = .ok (.i2l, 1) := by decide +kernel
theorem dX7_set_19 : decode cX7_set 19 = .ok (.lconst 0, 1) := by decide +kernel
theorem dX7_set_20 : decode cX7_set 20 = .ok (.ldc2_w 67, 3) := by decide +kernel
theorem dX7_set_23 : decode cX7_set 23 = .ok (.invokestatic 53, 3) := by decide +kernel
theorem dX7_set_26 : decode cX7_set 26 = .ok (.ifCond .ne 5, 3) := by decide +kernel
theorem dX7_set_29 : decode cX7_set 29 = .ok (.iconst (-1), 1) := by decide +kernel
theorem dX7_set_30 : decode cX7_set 30 = .ok (.ireturn, 1) := by decide +kernel
theorem dX7_set_31 : decode cX7_set 31 = .ok (.aload_n 0, 1) := by decide +kernel
theorem dX7_set_32 : decode cX7_set 32 = .ok (.getfield 7, 3) := by decide +kernel
theorem dX7_set_35 : decode cX7_set 35 = .ok (.iload_n 1, 1) := by decide +kernel
theorem dX7_set_36 : decode cX7_set 36 = .ok (.iaload, 1) := by decide +kernel
theorem dX7_set_37 : decode cX7_set 37 = .ok (.istore_n 3, 1) := by decide +kernel
theorem dX7_set_38 : decode cX7_set 38 = .ok (.aload_n 0, 1) := by decide +kernel
theorem dX7_set_39 : decode cX7_set 39 = .ok (.getfield 7, 3) := by decide +kernel
theorem dX7_set_42 : decode cX7_set 42 = .ok (.iload_n 1, 1) := by decide +kernel
theorem dX7_set_43 : decode cX7_set 43 = .ok (.iload_n 2, 1) := by decide +kernel
theorem dX7_set_44 : decode cX7_set 44 = .ok (.iastore, 1) := by decide +kernel
theorem dX7_set_45 : decode cX7_set 45 = .ok (.iload_n 3, 1) := by decide +kernel
theorem dX7_set_46 : decode cX7_set 46 = .ok (.ireturn, 1) := by decide +kernel
set_option maxRecDepth 20000 in
theorem ggX7_counter_X7_in : GoodIn wsX7_counter wsX7_in := goodIn_r _ [7] (by decide +kernel) (by decide +kernel)
set_option maxRecDepth 20000 in
theorem gX7_counter_X7_in : GoodIn wsX7_counter (va_wsS RX7 53 yX7_in wsX7_in) := goodIn_app (goodIn_of _ (by decide +kernel)) ggX7_counter_X7_in
theorem dX7_counter_0 : decode cX7_counter 0 = .ok (.aload_n 0, 1) := by decide +kernel
theorem dX7_counter_1 : decode cX7_counter 1 = .ok (.iconst 0, 1) := by decide +kernel
theorem dX7_counter_2 : decode cX7_counter 2 = .ok (.putfield 47, 3) := by decide +kernel
theorem dX7_counter_5 : decode cX7_counter 5 = .ok (.iload_n 1, 1) := by decide +kernel
theorem dX7_counter_6 : decode cX7_counter 6 = .ok (.i2l, 1) := by decide +kernel
theorem dX7_counter_7 : decode cX7_counter 7 = .ok (.lconst 0, 1) := by decide +kernel
theorem dX7_counter_8 : decode cX7_counter 8 = .ok (.ldc2_w 57, 3) := by decide +kernel
theorem dX7_counter_11 : decode cX7_counter 11 = .ok (.invokestatic 53, 3) := by decide +kernel
theorem dX7_counter_14 : decode cX7_counter 14 = .ok (.ifCond .eq 12, 3) := by decide +kernel
theorem dX7_counter_17 : decode cX7_counter 17 = .ok (.aload_n 0, 1) := by decide +kernel
theorem dX7_counter_18 : decode cX7_counter 18 = .ok (.getfield 7, 3) := by decide +kernel
theorem dX7_counter_21 : decode cX7_counter 21 = .ok (.iload_n 1, 1) := by decide +kernel
theorem dX7_counter_22 : decode cX7_counter 22 = .ok (.iaload, 1) := by decide +kernel
theorem dX7_counter_23 : decode cX7_counter 23 = .ok (.goto 4, 3) := by decide +kernel
theorem dX7_counter_26 : decode cX7_counter 26 = .ok (.iconst (-1), 1) := by decide +kernel
theorem dX7_counter_27 : decode cX7_counter 27 = .ok (.ireturn, 1) := by decide +kernel
theorem dX7_mayDo_0 : decode cX7_mayDo 0 = .ok (.aload_n 0, 1) := by decide +kernel
theorem dX7_mayDo_1 : decode cX7_mayDo 1 = .ok (.getfield 64, 3) := by decide +kernel
theorem dX7_mayDo_4 : decode cX7_mayDo 4 = .ok (.aload_n 0, 1) := by decide +kernel
theorem dX7_mayDo_5 : decode cX7_mayDo 5 = .ok (.getfield 61, 3) := by decide +kernel
theorem dX7_mayDo_8 : decode cX7_mayDo 8 = .ok (.if_icmp .ge 52, 3) := by decide +kernel
theorem dX7_mayDo_11 : decode cX7_mayDo 11 = .ok (.aload_n 0, 1) := by decide +kernel
theorem dX7_mayDo_12 : decode cX7_mayDo 12 = .ok (.getfield 13, 3) := by decide +kernel
theorem dX7_mayDo_15 : decode cX7_mayDo 15 = .ok (.aload_n 0, 1) := by decide +kernel
theorem dX7_mayDo_16 : decode cX7_mayDo 16 = .ok (.getfield 64, 3) := by decide +kernel
theorem dX7_mayDo_19 : decode cX7_mayDo 19 = .ok (.iaload, 1) := by decide +kernel
theorem dX7_mayDo_20 : decode cX7_mayDo 20 = .ok (.iconst 2, 1) := by decide +kernel
theorem dX7_mayDo_21 : decode cX7_mayDo 21 = .ok (.if_icmp .eq 39, 3) := by decide +kernel
theorem dX7_mayDo_24 : decode cX7_mayDo 24 = .ok (.aload_n 0, 1) := by decide +kernel
theorem dX7_mayDo_25 : decode cX7_mayDo 25 = .ok (.getfield 13, 3) := by decide +kernel
theorem dX7_mayDo_28 : decode cX7_mayDo 28 = .ok (.aload_n 0, 1) := by decide +kernel
theorem dX7_mayDo_29 : decode cX7_mayDo 29 = .ok (.getfield 64, 3) := by decide +kernel
theorem dX7_mayDo_32 : decode cX7_mayDo 32 = .ok (.iaload, 1) := by decide +kernel
theorem dX7_mayDo_33 : decode cX7_mayDo 33 = .ok (.ifCond .ne 23, 3) := by decide +kernel
theorem dX7_mayDo_36 : decode cX7_mayDo 36 = .ok (.aload_n 0, 1) := by decide +kernel
theorem dX7_mayDo_37 : decode cX7_mayDo 37 = .ok (.getfield 7, 3) := by decide +kernel
theorem dX7_mayDo_40 : decode cX7_mayDo 40 = .ok (.aload_n 0, 1) := by decide +kernel
theorem dX7_mayDo_41 : decode cX7_mayDo 41 = .ok (.getfield 16, 3) := by decide +kernel
theorem dX7_mayDo_44 : decode cX7_mayDo 44 = .ok (.aload_n 0, 1) := by decide +kernel
theorem dX7_mayDo_45 : decode cX7_mayDo 45 = .ok (.getfield 64, 3) := by decide +kernel
theorem dX7_mayDo_48 : decode cX7_mayDo 48 = .ok (.iaload, 1) := by decide +kernel
theorem dX7_mayDo_49 : decode cX7_mayDo 49 = .ok (.iaload, 1) := by decide +kernel
theorem dX7_mayDo_50 : decode cX7_mayDo 50 = .ok (.sipush 1000, 3) := by decide +kernel
theorem dX7_mayDo_53 : decode cX7_mayDo 53 = .ok (.if_icmp .eq 7, 3) := by decide +kernel
theorem dX7_mayDo_56 : decode cX7_mayDo 56 = .ok (.iconst 1, 1) := by decide +kernel
theorem dX7_mayDo_57 : decode cX7_mayDo 57 = .ok (.goto 4, 3) := by decide +kernel
theorem dX7_mayDo_60 : decode cX7_mayDo 60 = .ok (.iconst 0, 1) := by decide +kernel
theorem dX7_mayDo_61 : decode cX7_mayDo 61 = .ok (.ireturn, 1) := by decide +kernel
set_option maxRecDepth 20000 in
theorem ggX7_count_X7_in : GoodIn wsX7_count wsX7_in := goodIn_r _ [12] (by decide +kernel) (by decide +kernel)
set_option maxRecDepth 20000 in
theorem gX7_count_X7_in : GoodIn wsX7_count (va_wsS RX7 53 yX7_in wsX7_in) := goodIn_app (goodIn_of _ (by decide +kernel)) ggX7_count_X7_in
set_option maxRecDepth 20000 in
theorem ggX7_count_X7_mayDo : GoodIn wsX7_count wsX7_mayDo := goodIn_r _ [16, 4, 17, 5, 6, 3, 18, 19, 20, 21, 22, 23, 24, 25, 26, 27, 28, 29, 30, 31, 32, 33, 34, 35, 36, 37, 38, 39, 40, 41, 42, 43, 44, 45, 46] (by decide +kernel) (by decide +kernel)
set_option maxRecDepth 20000 in
theorem gX7_count_X7_mayDo : GoodIn wsX7_count (wsV RX7 71 RX7 yX7_mayDo wsX7_mayDo) := goodIn_app (goodIn_of _ (by decide +kernel)) ggX7_count_X7_mayDo
theorem dX7_count_0 : decode cX7_count 0 = .ok (.aload_n 0, 1) := by decide +kernel
theorem dX7_count_1 : decode cX7_count 1 = .ok (.iconst 0, 1) := by decide +kernel
theorem dX7_count_2 : decode cX7_count 2 = .ok (.putfield 47, 3) := by decide +kernel
theorem dX7_count_5 : decode cX7_count 5 = .ok (.iload_n 1, 1) := by decide +kernel
theorem dX7_count_6 : decode cX7_count 6 = .ok (.i2l, 1) := by decide +kernel
theorem dX7_count_7 : decode cX7_count 7 = .ok (.lconst 1, 1) := by decide +kernel
theorem dX7_count_8 : decode cX7_count 8 = .ok (.ldc2_w 69, 3) := by decide +kernel
theorem dX7_count_11 : decode cX7_count 11 = .ok (.invokestatic 53, 3) := by decide +kernel
theorem dX7_count_14 : decode cX7_count 14 = .ok (.ifCond .ne 5, 3) := by decide +kernel
theorem dX7_count_17 : decode cX7_count 17 = .ok (.iconst (-1), 1) := by decide +kernel
theorem dX7_count_18 : decode cX7_count 18 = .ok (.ireturn, 1) := by decide +kernel
theorem dX7_count_19 : decode cX7_count 19 = .ok (.iconst 0, 1) := by decide +kernel
theorem dX7_count_20 : decode cX7_count 20 = .ok (.istore_n 2, 1) := by decide +kernel
theorem dX7_count_21 : decode cX7_count 21 = .ok (.iload_n 2, 1) := by decide +kernel
theorem dX7_count_22 : decode cX7_count 22 = .ok (.iload_n 1, 1) := by decide +kernel
theorem dX7_count_23 : decode cX7_count 23 = .ok (.if_icmp .ge 112, 3) := by decide +kernel
theorem dX7_count_26 : decode cX7_count 26 = .ok (.aload_n 0, 1) := by decide +kernel
theorem dX7_count_27 : decode cX7_count 27 = .ok (.invokevirtual 71, 3) := by decide +kernel
theorem dX7_count_30 : decode cX7_count 30 = .ok (.ifCond .eq 105, 3) := by decide +kernel
theorem dX7_count_33 : decode cX7_count 33 = .ok (.aload_n 0, 1) := by decide +kernel
theorem dX7_count_34 : decode cX7_count 34 = .ok (.getfield 16, 3) := by decide +kernel
theorem dX7_count_37 : decode cX7_count 37 = .ok (.aload_n 0, 1) := by decide +kernel
theorem dX7_count_38 : decode cX7_count 38 = .ok (.getfield 64, 3) := by decide +kernel
theorem dX7_count_41 : decode cX7_count 41 = .ok (.iaload, 1) := by decide +kernel
theorem dX7_count_42 : decode cX7_count 42 = .ok (.istore_n 3, 1) := by decide +kernel
theorem dX7_count_43 : decode cX7_count 43 = .ok (.aload_n 0, 1) := by decide +kernel
theorem dX7_count_44 : decode cX7_count 44 = .ok (.getfield 13, 3) := by decide +kernel
theorem dX7_count_47 : decode cX7_count 47 = .ok (.aload_n 0, 1) := by decide +kernel
theorem dX7_count_48 : decode cX7_count 48 = .ok (.getfield 64, 3) := by decide +kernel
theorem dX7_count_51 : decode cX7_count 51 = .ok (.iaload, 1) := by decide +kernel
theorem dX7_count_52 : decode cX7_count 52 = .ok (.ifCond .ne 29, 3) := by decide +kernel
theorem dX7_count_55 : decode cX7_count 55 = .ok (.aload_n 0, 1) := by decide +kernel
theorem dX7_count_56 : decode cX7_count 56 = .ok (.getfield 7, 3) := by decide +kernel
theorem dX7_count_59 : decode cX7_count 59 = .ok (.iload_n 3, 1) := by decide +kernel
theorem dX7_count_60 : decode cX7_count 60 = .ok (.dup2, 1) := by decide +kernel
theorem dX7_count_61 : decode cX7_count 61 = .ok (.iaload, 1) := by decide +kernel
theorem dX7_count_62 : decode cX7_count 62 = .ok (.iconst 1, 1) := by decide +kernel
theorem dX7_count_63 : decode cX7_count 63 = .ok (.iadd, 1) := by decide +kernel
theorem dX7_count_64 : decode cX7_count 64 = .ok (.iastore, 1) := by decide +kernel
theorem dX7_count_65 : decode cX7_count 65 = .ok (.aload_n 0, 1) := by decide +kernel
theorem dX7_count_66 : decode cX7_count 66 = .ok (.aload_n 0, 1) := by decide +kernel
theorem dX7_count_67 : decode cX7_count 67 = .ok (.getfield 19, 3) := by decide +kernel
theorem dX7_count_70 : decode cX7_count 70 = .ok (.aload_n 0, 1) := by decide +kernel
theorem dX7_count_71 : decode cX7_count 71 = .ok (.getfield 64, 3) := by decide +kernel
theorem dX7_count_74 : decode cX7_count 74 = .ok (.iaload, 1) := by decide +kernel
theorem dX7_count_75 : decode cX7_count 75 = .ok (.putfield 64, 3) := by decide +kernel
theorem dX7_count_78 : decode cX7_count 78 = .ok (.goto 51, 3) := by decide +kernel
theorem dX7_count_81 : decode cX7_count 81 = .ok (.aload_n 0, 1) := by decide +kernel
theorem dX7_count_82 : decode cX7_count 82 = .ok (.getfield 7, 3) := by decide +kernel
theorem dX7_count_85 : decode cX7_count 85 = .ok (.iload_n 3, 1) := by decide +kernel
theorem dX7_count_86 : decode cX7_count 86 = .ok (.iaload, 1) := by decide +kernel
theorem dX7_count_87 : decode cX7_count 87 = .ok (.ifCond .ne 19, 3) := by decide +kernel
theorem dX7_count_90 : decode cX7_count 90 = .ok (.aload_n 0, 1) := by decide +kernel
theorem dX7_count_91 : decode cX7_count 91 = .ok (.aload_n 0, 1) := by decide +kernel
theorem dX7_count_92 : decode cX7_count 92 = .ok (.getfield 22, 3) := by decide +kernel
theorem dX7_count_95 : decode cX7_count 95 = .ok (.aload_n 0, 1) := by decide +kernel
theorem dX7_count_96 : decode cX7_count 96 = .ok (.getfield 64, 3) := by decide +kernel
theorem dX7_count_99 : decode cX7_count 99 = .ok (.iaload, 1) := by decide +kernel
theorem dX7_count_100 : decode cX7_count 100 = .ok (.putfield 64, 3) := by decide +kernel
theorem dX7_count_103 : decode cX7_count 103 = .ok (.goto 26, 3) := by decide +kernel
theorem dX7_count_106 : decode cX7_count 106 = .ok (.aload_n 0, 1) := by decide +kernel
theorem dX7_count_107 : decode cX7_count 107 = .ok (.getfield 7, 3) := by decide +kernel
theorem dX7_count_110 : decode cX7_count 110 = .ok (.iload_n 3, 1) := by decide +kernel
theorem dX7_count_111 : decode cX7_count 111 = .ok (.dup2, 1) := by decide +kernel
theorem dX7_count_112 : decode cX7_count 112 = .ok (.iaload, 1) := by decide +kernel
theorem dX7_count_113 : decode cX7_count 113 = .ok (.iconst 1, 1) := by decide +kernel
theorem dX7_count_114 : decode cX7_count 114 = .ok (.isub, 1) := by decide +kernel
theorem dX7_count_115 : decode cX7_count 115 = .ok (.iastore, 1) := by decide +kernel
theorem dX7_count_116 : decode cX7_count 116 = .ok (.aload_n 0, 1) := by decide +kernel
theorem dX7_count_117 : decode cX7_count 117 = .ok (.aload_n 0, 1) := by decide +kernel
theorem dX7_count_118 : decode cX7_count 118 = .ok (.getfield 19, 3) := by decide +kernel
theorem dX7_count_121 : decode cX7_count 121 = .ok (.aload_n 0, 1) := by decide +kernel
theorem dX7_count_122 : decode cX7_count 122 = .ok (.getfield 64, 3) := by decide +kernel
theorem dX7_count_125 : decode cX7_count 125 = .ok (.iaload, 1) := by decide +kernel
theorem dX7_count_126 : decode cX7_count 126 = .ok (.putfield 64, 3) := by decide +kernel
theorem dX7_count_129 : decode cX7_count 129 = .ok (.iinc 2 1, 3) := by decide +kernel
theorem dX7_count_132 : decode cX7_count 132 = .ok (.goto (-111), 3) := by decide +kernel
theorem dX7_count_135 : decode cX7_count 135 = .ok (.iload_n 2, 1) := by decide +kernel
theorem dX7_count_136 : decode cX7_count 136 = .ok (.ireturn, 1) := by decide +kernel
theorem dX7_at_0 : decode cX7_at 0 = .ok (.aload_n 0, 1) := by decide +kernel
theorem dX7_at_1 : decode cX7_at 1 = .ok (.iconst 0, 1) := by decide +kernel
theorem dX7_at_2 : decode cX7_at 2 = .ok (.putfield 47, 3) := by decide +kernel
theorem dX7_at_5 : decode cX7_at 5 = .ok (.aload_n 0, 1) := by decide +kernel
theorem dX7_at_6 : decode cX7_at 6 = .ok (.getfield 64, 3) := by decide +kernel
theorem dX7_at_9 : decode cX7_at 9 = .ok (.ireturn, 1) := by decide +kernel
set_option maxRecDepth 20000 in
theorem ggX7_go_X7_in : GoodIn wsX7_go wsX7_in := goodIn_r _ [7] (by decide +kernel) (by decide +kernel)
set_option maxRecDepth 20000 in
theorem gX7_go_X7_in : GoodIn wsX7_go (va_wsS RX7 53 yX7_in wsX7_in) := goodIn_app (goodIn_of _ (by decide +kernel)) ggX7_go_X7_in
theorem dX7_go_0 : decode cX7_go 0 = .ok (.aload_n 0, 1) := by decide +kernel
theorem dX7_go_1 : decode cX7_go 1 = .ok (.iconst 0, 1) := by decide +kernel
theorem dX7_go_2 : decode cX7_go 2 = .ok (.putfield 47, 3) := by decide +kernel
theorem dX7_go_5 : decode cX7_go 5 = .ok (.iload_n 1, 1) := by decide +kernel
theorem dX7_go_6 : decode cX7_go 6 = .ok (.i2l, 1) := by decide +kernel
theorem dX7_go_7 : decode cX7_go 7 = .ok (.lconst 0, 1) := by decide +kernel
theorem dX7_go_8 : decode cX7_go 8 = .ok (.ldc2_w 59, 3) := by decide +kernel
theorem dX7_go_11 : decode cX7_go 11 = .ok (.invokestatic 53, 3) := by decide +kernel
theorem dX7_go_14 : decode cX7_go 14 = .ok (.ifCond .ne 5, 3) := by decide +kernel
theorem dX7_go_17 : decode cX7_go 17 = .ok (.iconst (-1), 1) := by decide +kernel
theorem dX7_go_18 : decode cX7_go 18 = .ok (.ireturn, 1) := by decide +kernel
theorem dX7_go_19 : decode cX7_go 19 = .ok (.aload_n 0, 1) := by decide +kernel
theorem dX7_go_20 : decode cX7_go 20 = .ok (.getfield 64, 3) := by decide +kernel
theorem dX7_go_23 : decode cX7_go 23 = .ok (.istore_n 2, 1) := by decide +kernel
theorem dX7_go_24 : decode cX7_go 24 = .ok (.aload_n 0, 1) := by decide +kernel
theorem dX7_go_25 : decode cX7_go 25 = .ok (.iload_n 1, 1) := by decide +kernel
theorem dX7_go_26 : decode cX7_go 26 = .ok (.putfield 64, 3) := by decide +kernel
theorem dX7_go_29 : decode cX7_go 29 = .ok (.iload_n 2, 1) := by decide +kernel
theorem dX7_go_30 : decode cX7_go 30 = .ok (.ireturn, 1) := by decide +kernel
set_option maxRecDepth 20000 in
theorem ggX7_isPair_X7_in : GoodIn wsX7_isPair wsX7_in := goodIn_r _ [5] (by decide +kernel) (by decide +kernel)
set_option maxRecDepth 20000 in
theorem gX7_isPair_X7_in : GoodIn wsX7_isPair (va_wsS RX7 53 yX7_in wsX7_in) := goodIn_app (goodIn_of _ (by decide +kernel)) ggX7_isPair_X7_in
theorem dX7_isPair_0 : decode cX7_isPair 0 = .ok (.iload_n 0, 1) := by decide +kernel
theorem dX7_isPair_1 : decode cX7_isPair 1 = .ok (.i2l, 1) := by decide +kernel
theorem dX7_isPair_2 : decode cX7_isPair 2 = .ok (.lconst 0, 1) := by decide +kernel
theorem dX7_isPair_3 : decode cX7_isPair 3 = .ok (.ldc2_w 51, 3) := by decide +kernel
theorem dX7_isPair_6 : decode cX7_isPair 6 = .ok (.invokestatic 53, 3) := by decide +kernel
theorem dX7_isPair_9 : decode cX7_isPair 9 = .ok (.ifCond .eq 17, 3) := by decide +kernel
theorem dX7_isPair_12 : decode cX7_isPair 12 = .ok (.iload_n 1, 1) := by decide +kernel
theorem dX7_isPair_13 : decode cX7_isPair 13 = .ok (.i2l, 1) := by decide +kernel
theorem dX7_isPair_14 : decode cX7_isPair 14 = .ok (.lconst 0, 1) := by decide +kernel
theorem dX7_isPair_15 : decode cX7_isPair 15 = .ok (.lconst 1, 1) := by decide +kernel
theorem dX7_isPair_16 : decode cX7_isPair 16 = .ok (.invokestatic 53, 3) := by decide +kernel
theorem dX7_isPair_19 : decode cX7_isPair 19 = .ok (.ifCond .eq 7, 3) := by decide +kernel
theorem dX7_isPair_22 : decode cX7_isPair 22 = .ok (.iconst 1, 1) := by decide +kernel
theorem dX7_isPair_23 : decode cX7_isPair 23 = .ok (.goto 4, 3) := by decide +kernel
theorem dX7_isPair_26 : decode cX7_isPair 26 = .ok (.iconst 0, 1) := by decide +kernel
theorem dX7_isPair_27 : decode cX7_isPair 27 = .ok (.ireturn, 1) := by decide +kernel
set_option maxRecDepth 20000 in
theorem ggX7_rule_X7_isPair : GoodIn wsX7_rule wsX7_isPair := goodIn_r _ [9, 2, 10, 11, 8, 12] (by decide +kernel) (by decide +kernel)
set_option maxRecDepth 20000 in
theorem gX7_rule_X7_isPair : GoodIn wsX7_rule (va_wsS RX7 75 yX7_isPair wsX7_isPair) := goodIn_app (goodIn_of _ (by decide +kernel)) ggX7_rule_X7_isPair
set_option maxRecDepth 20000 in
theorem ggX7_rule_X7_in : GoodIn wsX7_rule wsX7_in := goodIn_r _ [12] (by decide +kernel) (by decide +kernel)
set_option maxRecDepth 20000 in
theorem gX7_rule_X7_in : GoodIn wsX7_rule (va_wsS RX7 53 yX7_in wsX7_in) := goodIn_app (goodIn_of _ (by decide +kernel)) ggX7_rule_X7_in
theorem dX7_rule_0 : decode cX7_rule 0 = .ok (.aload_n 0, 1) := by decide +kernel
theorem dX7_rule_1 : decode cX7_rule 1 = .ok (.iconst 0, 1) := by decide +kernel
theorem dX7_rule_2 : decode cX7_rule 2 = .ok (.putfield 47, 3) := by decide +kernel
theorem dX7_rule_5 : decode cX7_rule 5 = .ok (.iload_n 1, 1) := by decide +kernel
theorem dX7_rule_6 : decode cX7_rule 6 = .ok (.iload_n 2, 1) := by decide +kernel
theorem dX7_rule_7 : decode cX7_rule 7 = .ok (.invokestatic 75, 3) := by decide +kernel
theorem dX7_rule_10 : decode cX7_rule 10 = .ok (.ifCond .eq 37, 3) := by decide +kernel
theorem dX7_rule_13 : decode cX7_rule 13 = .ok (.iload_n 3, 1) := by decide +kernel
theorem dX7_rule_14 : decode cX7_rule 14 = .ok (.i2l, 1) := by decide +kernel
theorem dX7_rule_15 : decode cX7_rule 15 = .ok (.lconst 0, 1) := by decide +kernel
theorem dX7_rule_16 : decode cX7_rule 16 = .ok (.lconst 1, 1) := by decide +kernel
theorem dX7_rule_17 : decode cX7_rule 17 = .ok (.invokestatic 53, 3) := by decide +kernel
theorem dX7_rule_20 : decode cX7_rule 20 = .ok (.ifCond .eq 27, 3) := by decide +kernel
theorem dX7_rule_23 : decode cX7_rule 23 = .ok (.iload 4, 2) := by decide +kernel
theorem dX7_rule_25 : decode cX7_rule 25 = .ok (.i2l, 1) := by decide +kernel
theorem dX7_rule_26 : decode cX7_rule 26 = .ok (.lconst 0, 1) := by decide +kernel
theorem dX7_rule_27 : decode cX7_rule 27 = .ok (.lconst 1, 1) := by decide +kernel
theorem dX7_rule_28 : decode cX7_rule 28 = .ok (.invokestatic 53, 3) := by decide +kernel
theorem dX7_rule_31 : decode cX7_rule 31 = .ok (.ifCond .eq 16, 3) := by decide +kernel
theorem dX7_rule_34 : decode cX7_rule 34 = .ok (.iload 5, 2) := by decide +kernel
theorem dX7_rule_36 : decode cX7_rule 36 = .ok (.i2l, 1) := by decide +kernel
theorem dX7_rule_37 : decode cX7_rule 37 = .ok (.lconst 0, 1) := by decide +kernel
theorem dX7_rule_38 : decode cX7_rule 38 = .ok (.ldc2_w 51, 3) := by decide +kernel
theorem dX7_rule_41 : decode cX7_rule 41 = .ok (.invokestatic 53, 3) := by decide +kernel
theorem dX7_rule_44 : decode cX7_rule 44 = .ok (.ifCond .ne 5, 3) := by decide +kernel
theorem dX7_rule_47 : decode cX7_rule 47 = .ok (.iconst (-1), 1) := by decide +kernel
theorem dX7_rule_48 : decode cX7_rule 48 = .ok (.ireturn, 1) := by decide +kernel
theorem dX7_rule_49 : decode cX7_rule 49 = .ok (.iconst 2, 1) := by decide +kernel
theorem dX7_rule_50 : decode cX7_rule 50 = .ok (.iload_n 1, 1) := by decide +kernel
theorem dX7_rule_51 : decode cX7_rule 51 = .ok (.imul, 1) := by decide +kernel
theorem dX7_rule_52 : decode cX7_rule 52 = .ok (.iload_n 2, 1) := by decide +kernel
theorem dX7_rule_53 : decode cX7_rule 53 = .ok (.iadd, 1) := by decide +kernel
theorem dX7_rule_54 : decode cX7_rule 54 = .ok (.istore 6, 2) := by decide +kernel
theorem dX7_rule_56 : decode cX7_rule 56 = .ok (.aload_n 0, 1) := by decide +kernel
theorem dX7_rule_57 : decode cX7_rule 57 = .ok (.getfield 25, 3) := by decide +kernel
theorem dX7_rule_60 : decode cX7_rule 60 = .ok (.iload 6, 2) := by decide +kernel
theorem dX7_rule_62 : decode cX7_rule 62 = .ok (.iload_n 3, 1) := by decide +kernel
theorem dX7_rule_63 : decode cX7_rule 63 = .ok (.iastore, 1) := by decide +kernel
theorem dX7_rule_64 : decode cX7_rule 64 = .ok (.aload_n 0, 1) := by decide +kernel
theorem dX7_rule_65 : decode cX7_rule 65 = .ok (.getfield 28, 3) := by decide +kernel
theorem dX7_rule_68 : decode cX7_rule 68 = .ok (.iload 6, 2) := by decide +kernel
theorem dX7_rule_70 : decode cX7_rule 70 = .ok (.iload 4, 2) := by decide +kernel
theorem dX7_rule_72 : decode cX7_rule 72 = .ok (.iastore, 1) := by decide +kernel
theorem dX7_rule_73 : decode cX7_rule 73 = .ok (.aload_n 0, 1) := by decide +kernel
theorem dX7_rule_74 : decode cX7_rule 74 = .ok (.getfield 31, 3) := by decide +kernel
theorem dX7_rule_77 : decode cX7_rule 77 = .ok (.iload 6, 2) := by decide +kernel
theorem dX7_rule_79 : decode cX7_rule 79 = .ok (.iload 5, 2) := by decide +kernel
theorem dX7_rule_81 : decode cX7_rule 81 = .ok (.iastore, 1) := by decide +kernel
theorem dX7_rule_82 : decode cX7_rule 82 = .ok (.iconst 0, 1) := by decide +kernel
theorem dX7_rule_83 : decode cX7_rule 83 = .ok (.istore 7, 2) := by decide +kernel
theorem dX7_rule_85 : decode cX7_rule 85 = .ok (.iconst 0, 1) := by decide +kernel
theorem dX7_rule_86 : decode cX7_rule 86 = .ok (.istore 8, 2) := by decide +kernel
theorem dX7_rule_88 : decode cX7_rule 88 = .ok (.iload 8, 2) := by decide +kernel
theorem dX7_rule_90 : decode cX7_rule 90 = .ok (.bipush 6, 2) := by decide +kernel
theorem dX7_rule_92 : decode cX7_rule 92 = .ok (.if_icmp .ge 29, 3) := by decide +kernel
theorem dX7_rule_95 : decode cX7_rule 95 = .ok (.iload 7, 2) := by decide +kernel
theorem dX7_rule_97 : decode cX7_rule 97 = .ok (.aload_n 0, 1) := by decide +kernel
theorem dX7_rule_98 : decode cX7_rule 98 = .ok (.getfield 25, 3) := by decide +kernel
theorem dX7_rule_101 : decode cX7_rule 101 = .ok (.iload 8, 2) := by decide +kernel
theorem dX7_rule_103 : decode cX7_rule 103 = .ok (.iaload, 1) := by decide +kernel
theorem dX7_rule_104 : decode cX7_rule 104 = .ok (.ifCond .ge 7, 3) := by decide +kernel
theorem dX7_rule_107 : decode cX7_rule 107 = .ok (.iconst 0, 1) := by decide +kernel
theorem dX7_rule_108 : decode cX7_rule 108 = .ok (.goto 4, 3) := by decide +kernel
theorem dX7_rule_111 : decode cX7_rule 111 = .ok (.iconst 1, 1) := by decide +kernel
theorem dX7_rule_112 : decode cX7_rule 112 = .ok (.iadd, 1) := by decide +kernel
theorem dX7_rule_113 : decode cX7_rule 113 = .ok (.istore 7, 2) := by decide +kernel
theorem dX7_rule_115 : decode cX7_rule 115 = .ok (.iinc 8 1, 3) := by decide +kernel
theorem dX7_rule_118 : decode cX7_rule 118 = .ok (.goto (-30), 3) := by decide +kernel
theorem dX7_rule_121 : decode cX7_rule 121 = .ok (.iload 7, 2) := by decide +kernel
theorem dX7_rule_123 : decode cX7_rule 123 = .ok (.ireturn, 1) := by decide +kernel
set_option maxRecDepth 20000 in
theorem ggX7_unrule_X7_isPair : GoodIn wsX7_unrule wsX7_isPair := goodIn_r _ [6, 7, 8, 9, 5, 10] (by decide +kernel) (by decide +kernel)
set_option maxRecDepth 20000 in
theorem gX7_unrule_X7_isPair : GoodIn wsX7_unrule (va_wsS RX7 75 yX7_isPair wsX7_isPair) := goodIn_app (goodIn_of _ (by decide +kernel)) ggX7_unrule_X7_isPair
theorem dX7_unrule_0 : decode cX7_unrule 0 = .ok (.aload_n 0, 1) := by decide +kernel
theorem dX7_unrule_1 : decode cX7_unrule 1 = .ok (.iconst 0, 1) := by decide +kernel
theorem dX7_unrule_2 : decode cX7_unrule 2 = .ok (.putfield 47, 3) := by decide +kernel
theorem dX7_unrule_5 : decode cX7_unrule 5 = .ok (.iload_n 1, 1) := by decide +kernel
theorem dX7_unrule_6 : decode cX7_unrule 6 = .ok (.iload_n 2, 1) := by decide +kernel
theorem dX7_unrule_7 : decode cX7_unrule 7 = .ok (.invokestatic 75, 3) := by decide +kernel
theorem dX7_unrule_10 : decode cX7_unrule 10 = .ok (.ifCond .ne 5, 3) := by decide +kernel
theorem dX7_unrule_13 : decode cX7_unrule 13 = .ok (.iconst (-1), 1) := by decide +kernel
theorem dX7_unrule_14 : decode cX7_unrule 14 = .ok (.ireturn, 1) := by decide +kernel
theorem dX7_unrule_15 : decode cX7_unrule 15 = .ok (.aload_n 0, 1) := by decide +kernel
theorem dX7_unrule_16 : decode cX7_unrule 16 = .ok (.getfield 25, 3) := by decide +kernel
theorem dX7_unrule_19 : decode cX7_unrule 19 = .ok (.iconst 2, 1) := by decide +kernel
theorem dX7_unrule_20 : decode cX7_unrule 20 = .ok (.iload_n 1, 1) := by decide +kernel
theorem dX7_unrule_21 : decode cX7_unrule 21 = .ok (.imul, 1) := by decide +kernel
theorem dX7_unrule_22 : decode cX7_unrule 22 = .ok (.iload_n 2, 1) := by decide +kernel
theorem dX7_unrule_23 : decode cX7_unrule 23 = .ok (.iadd, 1) := by decide +kernel
theorem dX7_unrule_24 : decode cX7_unrule 24 = .ok (.iaload, 1) := by decide +kernel
theorem dX7_unrule_25 : decode cX7_unrule 25 = .ok (.ifCond .ge 7, 3) := by decide +kernel
theorem dX7_unrule_28 : decode cX7_unrule 28 = .ok (.iconst 0, 1) := by decide +kernel
theorem dX7_unrule_29 : decode cX7_unrule 29 = .ok (.goto 4, 3) := by decide +kernel
theorem dX7_unrule_32 : decode cX7_unrule 32 = .ok (.iconst 1, 1) := by decide +kernel
theorem dX7_unrule_33 : decode cX7_unrule 33 = .ok (.istore_n 3, 1) := by decide +kernel
theorem dX7_unrule_34 : decode cX7_unrule 34 = .ok (.aload_n 0, 1) := by decide +kernel
theorem dX7_unrule_35 : decode cX7_unrule 35 = .ok (.getfield 25, 3) := by decide +kernel
theorem dX7_unrule_38 : decode cX7_unrule 38 = .ok (.iconst 2, 1) := by decide +kernel
theorem dX7_unrule_39 : decode cX7_unrule 39 = .ok (.iload_n 1, 1) := by decide +kernel
theorem dX7_unrule_40 : decode cX7_unrule 40 = .ok (.imul, 1) := by decide +kernel
theorem dX7_unrule_41 : decode cX7_unrule 41 = .ok (.iload_n 2, 1) := by decide +kernel
theorem dX7_unrule_42 : decode cX7_unrule 42 = .ok (.iadd, 1) := by decide +kernel
theorem dX7_unrule_43 : decode cX7_unrule 43 = .ok (.iconst (-1), 1) := by decide +kernel
theorem dX7_unrule_44 : decode cX7_unrule 44 = .ok (.iastore, 1) := by decide +kernel
theorem dX7_unrule_45 : decode cX7_unrule 45 = .ok (.iload_n 3, 1) := by decide +kernel
theorem dX7_unrule_46 : decode cX7_unrule 46 = .ok (.ireturn, 1) := by decide +kernel
set_option maxRecDepth 20000 in
theorem ggX7_place_X7_isPair : GoodIn wsX7_place wsX7_isPair := goodIn_r _ [10, 11, 12, 13, 9, 14] (by decide +kernel) (by decide +kernel)
set_option maxRecDepth 20000 in
theorem gX7_place_X7_isPair : GoodIn wsX7_place (va_wsS RX7 75 yX7_isPair wsX7_isPair) := goodIn_app (goodIn_of _ (by decide +kernel)) ggX7_place_X7_isPair
set_option maxRecDepth 20000 in
theorem ggX7_place_X7_in : GoodIn wsX7_place wsX7_in := goodIn_r _ [14] (by decide +kernel) (by decide +kernel)
set_option maxRecDepth 20000 in
theorem gX7_place_X7_in : GoodIn wsX7_place (va_wsS RX7 53 yX7_in wsX7_in) := goodIn_app (goodIn_of _ (by decide +kernel)) ggX7_place_X7_in
theorem dX7_place_0 : decode cX7_place 0 = .ok (.aload_n 0, 1) := by decide +kernel
theorem dX7_place_1 : decode cX7_place 1 = .ok (.iconst 0, 1) := by decide +kernel
theorem dX7_place_2 : decode cX7_place 2 = .ok (.putfield 47, 3) := by decide +kernel
theorem dX7_place_5 : decode cX7_place 5 = .ok (.iload_n 1, 1) := by decide +kernel
theorem dX7_place_6 : decode cX7_place 6 = .ok (.iload_n 2, 1) := by decide +kernel
theorem dX7_place_7 : decode cX7_place 7 = .ok (.invokestatic 75, 3) := by decide +kernel
theorem dX7_place_10 : decode cX7_place 10 = .ok (.ifCond .eq 28, 3) := by decide +kernel
theorem dX7_place_13 : decode cX7_place 13 = .ok (.iload_n 3, 1) := by decide +kernel
theorem dX7_place_14 : decode cX7_place 14 = .ok (.i2l, 1) := by decide +kernel
theorem dX7_place_15 : decode cX7_place 15 = .ok (.lconst 0, 1) := by decide +kernel
theorem dX7_place_16 : decode cX7_place 16 = .ok (.ldc2_w 79, 3) := by decide +kernel
theorem dX7_place_19 : decode cX7_place 19 = .ok (.invokestatic 53, 3) := by decide +kernel
theorem dX7_place_22 : decode cX7_place 22 = .ok (.ifCond .eq 16, 3) := by decide +kernel
theorem dX7_place_25 : decode cX7_place 25 = .ok (.iload 4, 2) := by decide +kernel
theorem dX7_place_27 : decode cX7_place 27 = .ok (.i2l, 1) := by decide +kernel
theorem dX7_place_28 : decode cX7_place 28 = .ok (.lconst 0, 1) := by decide +kernel
theorem dX7_place_29 : decode cX7_place 29 = .ok (.ldc2_w 79, 3) := by decide +kernel
theorem dX7_place_32 : decode cX7_place 32 = .ok (.invokestatic 53, 3) := by decide +kernel
theorem dX7_place_35 : decode cX7_place 35 = .ok (.ifCond .ne 5, 3) := by decide +kernel
theorem dX7_place_38 : decode cX7_place 38 = .ok (.iconst (-1), 1) := by decide +kernel
theorem dX7_place_39 : decode cX7_place 39 = .ok (.ireturn, 1) := by decide +kernel
theorem dX7_place_40 : decode cX7_place 40 = .ok (.aload_n 0, 1) := by decide +kernel
theorem dX7_place_41 : decode cX7_place 41 = .ok (.iload_n 1, 1) := by decide +kernel
theorem dX7_place_42 : decode cX7_place 42 = .ok (.putfield 81, 3) := by decide +kernel
theorem dX7_place_45 : decode cX7_place 45 = .ok (.aload_n 0, 1) := by decide +kernel
theorem dX7_place_46 : decode cX7_place 46 = .ok (.iload_n 2, 1) := by decide +kernel
theorem dX7_place_47 : decode cX7_place 47 = .ok (.putfield 84, 3) := by decide +kernel
theorem dX7_place_50 : decode cX7_place 50 = .ok (.aload_n 0, 1) := by decide +kernel
theorem dX7_place_51 : decode cX7_place 51 = .ok (.iload_n 3, 1) := by decide +kernel
theorem dX7_place_52 : decode cX7_place 52 = .ok (.putfield 87, 3) := by decide +kernel
theorem dX7_place_55 : decode cX7_place 55 = .ok (.aload_n 0, 1) := by decide +kernel
theorem dX7_place_56 : decode cX7_place 56 = .ok (.iload 4, 2) := by decide +kernel
theorem dX7_place_58 : decode cX7_place 58 = .ok (.putfield 90, 3) := by decide +kernel
theorem dX7_place_61 : decode cX7_place 61 = .ok (.iconst 1, 1) := by decide +kernel
theorem dX7_place_62 : decode cX7_place 62 = .ok (.ireturn, 1) := by decide +kernel
theorem dX7_mayMove_0 : decode cX7_mayMove 0 = .ok (.iconst 2, 1) := by decide +kernel
theorem dX7_mayMove_1 : decode cX7_mayMove 1 = .ok (.aload_n 0, 1) := by decide +kernel
theorem dX7_mayMove_2 : decode cX7_mayMove 2 = .ok (.getfield 81, 3) := by decide +kernel
theorem dX7_mayMove_5 : decode cX7_mayMove 5 = .ok (.imul, 1) := by decide +kernel
theorem dX7_mayMove_6 : decode cX7_mayMove 6 = .ok (.aload_n 0, 1) := by decide +kernel
theorem dX7_mayMove_7 : decode cX7_mayMove 7 = .ok (.getfield 84, 3) := by decide +kernel
theorem dX7_mayMove_10 : decode cX7_mayMove 10 = .ok (.iadd, 1) := by decide +kernel
theorem dX7_mayMove_11 : decode cX7_mayMove 11 = .ok (.istore_n 1, 1) := by decide +kernel
theorem dX7_mayMove_12 : decode cX7_mayMove 12 = .ok (.aload_n 0, 1) := by decide +kernel
theorem dX7_mayMove_13 : decode cX7_mayMove 13 = .ok (.getfield 25, 3) := by decide +kernel
theorem dX7_mayMove_16 : decode cX7_mayMove 16 = .ok (.iload_n 1, 1) := by decide +kernel
theorem dX7_mayMove_17 : decode cX7_mayMove 17 = .ok (.iaload, 1) := by decide +kernel
theorem dX7_mayMove_18 : decode cX7_mayMove 18 = .ok (.ifCond .lt 42, 3) := by decide +kernel
theorem dX7_mayMove_21 : decode cX7_mayMove 21 = .ok (.iconst 2, 1) := by decide +kernel
theorem dX7_mayMove_22 : decode cX7_mayMove 22 = .ok (.aload_n 0, 1) := by decide +kernel
theorem dX7_mayMove_23 : decode cX7_mayMove 23 = .ok (.getfield 28, 3) := by decide +kernel
theorem dX7_mayMove_26 : decode cX7_mayMove 26 = .ok (.iload_n 1, 1) := by decide +kernel
theorem dX7_mayMove_27 : decode cX7_mayMove 27 = .ok (.iaload, 1) := by decide +kernel
theorem dX7_mayMove_28 : decode cX7_mayMove 28 = .ok (.iconst 1, 1) := by decide +kernel
theorem dX7_mayMove_29 : decode cX7_mayMove 29 = .ok (.if_icmp .ne 10, 3) := by decide +kernel
theorem dX7_mayMove_32 : decode cX7_mayMove 32 = .ok (.aload_n 0, 1) := by decide +kernel
theorem dX7_mayMove_33 : decode cX7_mayMove 33 = .ok (.getfield 87, 3) := by decide +kernel
theorem dX7_mayMove_36 : decode cX7_mayMove 36 = .ok (.goto 7, 3) := by decide +kernel
theorem dX7_mayMove_39 : decode cX7_mayMove 39 = .ok (.aload_n 0, 1) := by decide +kernel
theorem dX7_mayMove_40 : decode cX7_mayMove 40 = .ok (.getfield 90, 3) := by decide +kernel
theorem dX7_mayMove_43 : decode cX7_mayMove 43 = .ok (.imul, 1) := by decide +kernel
theorem dX7_mayMove_44 : decode cX7_mayMove 44 = .ok (.aload_n 0, 1) := by decide +kernel
theorem dX7_mayMove_45 : decode cX7_mayMove 45 = .ok (.getfield 25, 3) := by decide +kernel
theorem dX7_mayMove_48 : decode cX7_mayMove 48 = .ok (.iload_n 1, 1) := by decide +kernel
theorem dX7_mayMove_49 : decode cX7_mayMove 49 = .ok (.iaload, 1) := by decide +kernel
theorem dX7_mayMove_50 : decode cX7_mayMove 50 = .ok (.iadd, 1) := by decide +kernel
theorem dX7_mayMove_51 : decode cX7_mayMove 51 = .ok (.ldc 93, 2) := by decide +kernel
theorem dX7_mayMove_53 : decode cX7_mayMove 53 = .ok (.if_icmp .gt 7, 3) := by decide +kernel
theorem dX7_mayMove_56 : decode cX7_mayMove 56 = .ok (.iconst 1, 1) := by decide +kernel
theorem dX7_mayMove_57 : decode cX7_mayMove 57 = .ok (.goto 4, 3) := by decide +kernel
theorem dX7_mayMove_60 : decode cX7_mayMove 60 = .ok (.iconst 0, 1) := by decide +kernel
theorem dX7_mayMove_61 : decode cX7_mayMove 61 = .ok (.ireturn, 1) := by decide +kernel
set_option maxRecDepth 20000 in
theorem ggX7_move_X7_in : GoodIn wsX7_move wsX7_in := goodIn_r _ [13] (by decide +kernel) (by decide +kernel)
set_option maxRecDepth 20000 in
theorem gX7_move_X7_in : GoodIn wsX7_move (va_wsS RX7 53 yX7_in wsX7_in) := goodIn_app (goodIn_of _ (by decide +kernel)) ggX7_move_X7_in
set_option maxRecDepth 20000 in
theorem ggX7_move_X7_mayMove : GoodIn wsX7_move wsX7_mayMove := goodIn_r _ [17, 3, 4, 7, 5, 6, 8, 18, 19, 20, 21, 22, 23, 24, 25, 26, 27, 28, 29, 30, 31, 32, 33, 34, 35, 36, 37, 38, 39, 40, 41, 42, 43, 44, 45, 46, 47] (by decide +kernel) (by decide +kernel)
set_option maxRecDepth 20000 in
theorem gX7_move_X7_mayMove : GoodIn wsX7_move (wsV RX7 94 RX7 yX7_mayMove wsX7_mayMove) := goodIn_app (goodIn_of _ (by decide +kernel)) ggX7_move_X7_mayMove
theorem dX7_move_0 : decode cX7_move 0 = .ok (.aload_n 0, 1) := by decide +kernel
theorem dX7_move_1 : decode cX7_move 1 = .ok (.iconst 0, 1) := by decide +kernel
theorem dX7_move_2 : decode cX7_move 2 = .ok (.putfield 47, 3) := by decide +kernel
theorem dX7_move_5 : decode cX7_move 5 = .ok (.iload_n 1, 1) := by decide +kernel
theorem dX7_move_6 : decode cX7_move 6 = .ok (.i2l, 1) := by decide +kernel
theorem dX7_move_7 : decode cX7_move 7 = .ok (.lconst 1, 1) := by decide +kernel
theorem dX7_move_8 : decode cX7_move 8 = .ok (.ldc2_w 69, 3) := by decide +kernel
theorem dX7_move_11 : decode cX7_move 11 = .ok (.invokestatic 53, 3) := by decide +kernel
theorem dX7_move_14 : decode cX7_move 14 = .ok (.ifCond .ne 5, 3) := by decide +kernel
theorem dX7_move_17 : decode cX7_move 17 = .ok (.iconst (-1), 1) := by decide +kernel
theorem dX7_move_18 : decode cX7_move 18 = .ok (.ireturn, 1) := by decide +kernel
theorem dX7_move_19 : decode cX7_move 19 = .ok (.iconst 0, 1) := by decide +kernel
theorem dX7_move_20 : decode cX7_move 20 = .ok (.istore_n 2, 1) := by decide +kernel
theorem dX7_move_21 : decode cX7_move 21 = .ok (.iload_n 2, 1) := by decide +kernel
theorem dX7_move_22 : decode cX7_move 22 = .ok (.iload_n 1, 1) := by decide +kernel
theorem dX7_move_23 : decode cX7_move 23 = .ok (.if_icmp .ge 125, 3) := by decide +kernel
theorem dX7_move_26 : decode cX7_move 26 = .ok (.aload_n 0, 1) := by decide +kernel
theorem dX7_move_27 : decode cX7_move 27 = .ok (.invokevirtual 94, 3) := by decide +kernel
theorem dX7_move_30 : decode cX7_move 30 = .ok (.ifCond .eq 118, 3) := by decide +kernel
theorem dX7_move_33 : decode cX7_move 33 = .ok (.iconst 2, 1) := by decide +kernel
theorem dX7_move_34 : decode cX7_move 34 = .ok (.aload_n 0, 1) := by decide +kernel
theorem dX7_move_35 : decode cX7_move 35 = .ok (.getfield 81, 3) := by decide +kernel
theorem dX7_move_38 : decode cX7_move 38 = .ok (.imul, 1) := by decide +kernel
theorem dX7_move_39 : decode cX7_move 39 = .ok (.aload_n 0, 1) := by decide +kernel
theorem dX7_move_40 : decode cX7_move 40 = .ok (.getfield 84, 3) := by decide +kernel
theorem dX7_move_43 : decode cX7_move 43 = .ok (.iadd, 1) := by decide +kernel
theorem dX7_move_44 : decode cX7_move 44 = .ok (.istore_n 3, 1) := by decide +kernel
theorem dX7_move_45 : decode cX7_move 45 = .ok (.aload_n 0, 1) := by decide +kernel
theorem dX7_move_46 : decode cX7_move 46 = .ok (.getfield 28, 3) := by decide +kernel
theorem dX7_move_49 : decode cX7_move 49 = .ok (.iload_n 3, 1) := by decide +kernel
theorem dX7_move_50 : decode cX7_move 50 = .ok (.iaload, 1) := by decide +kernel
theorem dX7_move_51 : decode cX7_move 51 = .ok (.iconst 1, 1) := by decide +kernel
theorem dX7_move_52 : decode cX7_move 52 = .ok (.if_icmp .ne 43, 3) := by decide +kernel
theorem dX7_move_55 : decode cX7_move 55 = .ok (.aload_n 0, 1) := by decide +kernel
theorem dX7_move_56 : decode cX7_move 56 = .ok (.iconst 2, 1) := by decide +kernel
theorem dX7_move_57 : decode cX7_move 57 = .ok (.aload_n 0, 1) := by decide +kernel
theorem dX7_move_58 : decode cX7_move 58 = .ok (.getfield 87, 3) := by decide +kernel
theorem dX7_move_61 : decode cX7_move 61 = .ok (.imul, 1) := by decide +kernel
theorem dX7_move_62 : decode cX7_move 62 = .ok (.aload_n 0, 1) := by decide +kernel
theorem dX7_move_63 : decode cX7_move 63 = .ok (.getfield 25, 3) := by decide +kernel
theorem dX7_move_66 : decode cX7_move 66 = .ok (.iload_n 3, 1) := by decide +kernel
theorem dX7_move_67 : decode cX7_move 67 = .ok (.iaload, 1) := by decide +kernel
theorem dX7_move_68 : decode cX7_move 68 = .ok (.iadd, 1) := by decide +kernel
theorem dX7_move_69 : decode cX7_move 69 = .ok (.putfield 87, 3) := by decide +kernel
theorem dX7_move_72 : decode cX7_move 72 = .ok (.aload_n 0, 1) := by decide +kernel
theorem dX7_move_73 : decode cX7_move 73 = .ok (.aload_n 0, 1) := by decide +kernel
theorem dX7_move_74 : decode cX7_move 74 = .ok (.getfield 90, 3) := by decide +kernel
theorem dX7_move_77 : decode cX7_move 77 = .ok (.iconst 2, 1) := by decide +kernel
theorem dX7_move_78 : decode cX7_move 78 = .ok (.irem, 1) := by decide +kernel
theorem dX7_move_79 : decode cX7_move 79 = .ok (.putfield 84, 3) := by decide +kernel
theorem dX7_move_82 : decode cX7_move 82 = .ok (.aload_n 0, 1) := by decide +kernel
theorem dX7_move_83 : decode cX7_move 83 = .ok (.dup, 1) := by decide +kernel
theorem dX7_move_84 : decode cX7_move 84 = .ok (.getfield 90, 3) := by decide +kernel
theorem dX7_move_87 : decode cX7_move 87 = .ok (.iconst 2, 1) := by decide +kernel
theorem dX7_move_88 : decode cX7_move 88 = .ok (.idiv, 1) := by decide +kernel
theorem dX7_move_89 : decode cX7_move 89 = .ok (.putfield 90, 3) := by decide +kernel
theorem dX7_move_92 : decode cX7_move 92 = .ok (.goto 40, 3) := by decide +kernel
theorem dX7_move_95 : decode cX7_move 95 = .ok (.aload_n 0, 1) := by decide +kernel
theorem dX7_move_96 : decode cX7_move 96 = .ok (.iconst 2, 1) := by decide +kernel
theorem dX7_move_97 : decode cX7_move 97 = .ok (.aload_n 0, 1) := by decide +kernel
theorem dX7_move_98 : decode cX7_move 98 = .ok (.getfield 90, 3) := by decide +kernel
theorem dX7_move_101 : decode cX7_move 101 = .ok (.imul, 1) := by decide +kernel
theorem dX7_move_102 : decode cX7_move 102 = .ok (.aload_n 0, 1) := by decide +kernel
theorem dX7_move_103 : decode cX7_move 103 = .ok (.getfield 25, 3) := by decide +kernel
theorem dX7_move_106 : decode cX7_move 106 = .ok (.iload_n 3, 1) := by decide +kernel
theorem dX7_move_107 : decode cX7_move 107 = .ok (.iaload, 1) := by decide +kernel
theorem dX7_move_108 : decode cX7_move 108 = .ok (.iadd, 1) := by decide +kernel
theorem dX7_move_109 : decode cX7_move 109 = .ok (.putfield 90, 3) := by decide +kernel
theorem dX7_move_112 : decode cX7_move 112 = .ok (.aload_n 0, 1) := by decide +kernel
theorem dX7_move_113 : decode cX7_move 113 = .ok (.aload_n 0, 1) := by decide +kernel
theorem dX7_move_114 : decode cX7_move 114 = .ok (.getfield 87, 3) := by decide +kernel
theorem dX7_move_117 : decode cX7_move 117 = .ok (.iconst 2, 1) := by decide +kernel
theorem dX7_move_118 : decode cX7_move 118 = .ok (.irem, 1) := by decide +kernel
theorem dX7_move_119 : decode cX7_move 119 = .ok (.putfield 84, 3) := by decide +kernel
theorem dX7_move_122 : decode cX7_move 122 = .ok (.aload_n 0, 1) := by decide +kernel
theorem dX7_move_123 : decode cX7_move 123 = .ok (.dup, 1) := by decide +kernel
theorem dX7_move_124 : decode cX7_move 124 = .ok (.getfield 87, 3) := by decide +kernel
theorem dX7_move_127 : decode cX7_move 127 = .ok (.iconst 2, 1) := by decide +kernel
theorem dX7_move_128 : decode cX7_move 128 = .ok (.idiv, 1) := by decide +kernel
theorem dX7_move_129 : decode cX7_move 129 = .ok (.putfield 87, 3) := by decide +kernel
theorem dX7_move_132 : decode cX7_move 132 = .ok (.aload_n 0, 1) := by decide +kernel
theorem dX7_move_133 : decode cX7_move 133 = .ok (.aload_n 0, 1) := by decide +kernel
theorem dX7_move_134 : decode cX7_move 134 = .ok (.getfield 31, 3) := by decide +kernel
theorem dX7_move_137 : decode cX7_move 137 = .ok (.iload_n 3, 1) := by decide +kernel
theorem dX7_move_138 : decode cX7_move 138 = .ok (.iaload, 1) := by decide +kernel
theorem dX7_move_139 : decode cX7_move 139 = .ok (.putfield 81, 3) := by decide +kernel
theorem dX7_move_142 : decode cX7_move 142 = .ok (.iinc 2 1, 3) := by decide +kernel
theorem dX7_move_145 : decode cX7_move 145 = .ok (.goto (-124), 3) := by decide +kernel
theorem dX7_move_148 : decode cX7_move 148 = .ok (.iload_n 2, 1) := by decide +kernel
theorem dX7_move_149 : decode cX7_move 149 = .ok (.ireturn, 1) := by decide +kernel
theorem dX7_where_0 : decode cX7_where 0 = .ok (.aload_n 0, 1) := by decide +kernel
theorem dX7_where_1 : decode cX7_where 1 = .ok (.iconst 0, 1) := by decide +kernel
theorem dX7_where_2 : decode cX7_where 2 = .ok (.putfield 47, 3) := by decide +kernel
theorem dX7_where_5 : decode cX7_where 5 = .ok (.iload_n 1, 1) := by decide +kernel
theorem dX7_where_6 : decode cX7_where 6 = .ok (.tableswitch 79 0 4 #[34, 39, 44, 49, 54], 34) := by decide +kernel
theorem dX7_where_40 : decode cX7_where 40 = .ok (.aload_n 0, 1) := by decide +kernel
theorem dX7_where_41 : decode cX7_where 41 = .ok (.getfield 81, 3) := by decide +kernel
theorem dX7_where_44 : decode cX7_where 44 = .ok (.ireturn, 1) := by decide +kernel
theorem dX7_where_45 : decode cX7_where 45 = .ok (.aload_n 0, 1) := by decide +kernel
theorem dX7_where_46 : decode cX7_where 46 = .ok (.getfield 84, 3) := by decide +kernel
theorem dX7_where_49 : decode cX7_where 49 = .ok (.ireturn, 1) := by decide +kernel
theorem dX7_where_50 : decode cX7_where 50 = .ok (.aload_n 0, 1) := by decide +kernel
theorem dX7_where_51 : decode cX7_where 51 = .ok (.getfield 87, 3) := by decide +kernel
theorem dX7_where_54 : decode cX7_where 54 = .ok (.ireturn, 1) := by decide +kernel
theorem dX7_where_55 : decode cX7_where 55 = .ok (.aload_n 0, 1) := by decide +kernel
theorem dX7_where_56 : decode cX7_where 56 = .ok (.getfield 90, 3) := by decide +kernel
theorem dX7_where_59 : decode cX7_where 59 = .ok (.ireturn, 1) := by decide +kernel
theorem dX7_where_60 : decode cX7_where 60 = .ok (.aload_n 0, 1) := by decide +kernel
theorem dX7_where_61 : decode cX7_where 61 = .ok (.getfield 25, 3) := by decide +kernel
theorem dX7_where_64 : decode cX7_where 64 = .ok (.iconst 2, 1) := by decide +kernel
theorem dX7_where_65 : decode cX7_where 65 = .ok (.aload_n 0, 1) := by decide +kernel
theorem dX7_where_66 : decode cX7_where 66 = .ok (.getfield 81, 3) := by decide +kernel
theorem dX7_where_69 : decode cX7_where 69 = .ok (.imul, 1) := by decide +kernel
theorem dX7_where_70 : decode cX7_where 70 = .ok (.aload_n 0, 1) := by decide +kernel
theorem dX7_where_71 : decode cX7_where 71 = .ok (.getfield 84, 3) := by decide +kernel
theorem dX7_where_74 : decode cX7_where 74 = .ok (.iadd, 1) := by decide +kernel
theorem dX7_where_75 : decode cX7_where 75 = .ok (.iaload, 1) := by decide +kernel
theorem dX7_where_76 : decode cX7_where 76 = .ok (.ifCond .ge 7, 3) := by decide +kernel
theorem dX7_where_79 : decode cX7_where 79 = .ok (.iconst 1, 1) := by decide +kernel
theorem dX7_where_80 : decode cX7_where 80 = .ok (.goto 4, 3) := by decide +kernel
theorem dX7_where_83 : decode cX7_where 83 = .ok (.iconst 0, 1) := by decide +kernel
theorem dX7_where_84 : decode cX7_where 84 = .ok (.ireturn, 1) := by decide +kernel
theorem dX7_where_85 : decode cX7_where 85 = .ok (.iconst (-1), 1) := by decide +kernel
theorem dX7_where_86 : decode cX7_where 86 = .ok (.ireturn, 1) := by decide +kernel
theorem dX7_makes_0 : decode cX7_makes 0 = .ok (.aload_n 0, 1) := by decide +kernel
theorem dX7_makes_1 : decode cX7_makes 1 = .ok (.getfield 44, 3) := by decide +kernel
theorem dX7_makes_4 : decode cX7_makes 4 = .ok (.aload_n 0, 1) := by decide +kernel
theorem dX7_makes_5 : decode cX7_makes 5 = .ok (.getfield 97, 3) := by decide +kernel
theorem dX7_makes_8 : decode cX7_makes 8 = .ok (.iload_n 1, 1) := by decide +kernel
theorem dX7_makes_9 : decode cX7_makes 9 = .ok (.iastore, 1) := by decide +kernel
theorem dX7_makes_10 : decode cX7_makes 10 = .ok (.aload_n 0, 1) := by decide +kernel
theorem dX7_makes_11 : decode cX7_makes 11 = .ok (.dup, 1) := by decide +kernel
theorem dX7_makes_12 : decode cX7_makes 12 = .ok (.getfield 97, 3) := by decide +kernel
theorem dX7_makes_15 : decode cX7_makes 15 = .ok (.iconst 1, 1) := by decide +kernel
theorem dX7_makes_16 : decode cX7_makes 16 = .ok (.iadd, 1) := by decide +kernel
theorem dX7_makes_17 : decode cX7_makes 17 = .ok (.putfield 97, 3) := by decide +kernel
theorem dX7_makes_20 : decode cX7_makes 20 = .ok (.return_, 1) := by decide +kernel
theorem dX7_of_0 : decode cX7_of 0 = .ok (.bipush 20, 2) := by decide +kernel
theorem dX7_of_2 : decode cX7_of 2 = .ok (.iload_n 0, 1) := by decide +kernel
theorem dX7_of_3 : decode cX7_of 3 = .ok (.imul, 1) := by decide +kernel
theorem dX7_of_4 : decode cX7_of 4 = .ok (.iconst 1, 1) := by decide +kernel
theorem dX7_of_5 : decode cX7_of 5 = .ok (.iadd, 1) := by decide +kernel
theorem dX7_of_6 : decode cX7_of 6 = .ok (.iload_n 1, 1) := by decide +kernel
theorem dX7_of_7 : decode cX7_of 7 = .ok (.iadd, 1) := by decide +kernel
theorem dX7_of_8 : decode cX7_of 8 = .ok (.ireturn, 1) := by decide +kernel
set_option maxRecDepth 20000 in
theorem ggX7_one_X7_makes : GoodIn wsX7_one wsX7_makes := goodIn_r _ [5, 6, 7, 8, 9, 10, 11, 12, 13, 14, 15, 16, 17, 18, 19, 20, 21, 22, 23, 24, 25, 26, 27, 28, 29, 30, 31, 32, 33, 34, 35, 36] (by decide +kernel) (by decide +kernel)
set_option maxRecDepth 20000 in
theorem gX7_one_X7_makes : GoodIn wsX7_one (wsV RX7 100 RX7 yX7_makes wsX7_makes) := goodIn_app (goodIn_of _ (by decide +kernel)) ggX7_one_X7_makes
theorem dX7_one_0 : decode cX7_one 0 = .ok (.aload_n 0, 1) := by decide +kernel
theorem dX7_one_1 : decode cX7_one 1 = .ok (.iload_n 1, 1) := by decide +kernel
theorem dX7_one_2 : decode cX7_one 2 = .ok (.invokevirtual 100, 3) := by decide +kernel
theorem dX7_one_5 : decode cX7_one 5 = .ok (.aload_n 0, 1) := by decide +kernel
theorem dX7_one_6 : decode cX7_one 6 = .ok (.iconst 0, 1) := by decide +kernel
theorem dX7_one_7 : decode cX7_one 7 = .ok (.invokevirtual 100, 3) := by decide +kernel
theorem dX7_one_10 : decode cX7_one 10 = .ok (.return_, 1) := by decide +kernel
set_option maxRecDepth 20000 in
theorem ggX7_doubled_X7_of : GoodIn wsX7_doubled wsX7_of := goodIn_r _ [5] (by decide +kernel) (by decide +kernel)
set_option maxRecDepth 20000 in
theorem gX7_doubled_X7_of : GoodIn wsX7_doubled (va_wsS RX7 103 yX7_of wsX7_of) := goodIn_app (goodIn_of _ (by decide +kernel)) ggX7_doubled_X7_of
set_option maxRecDepth 20000 in
theorem ggX7_doubled_X7_one : GoodIn wsX7_doubled wsX7_one := goodIn_r _ [9, 10, 11, 12, 4, 13, 14, 15, 16, 17, 18, 19, 20, 21, 22, 23, 24, 25, 26, 27, 28, 29, 30, 31, 32, 33, 34, 35, 36, 37, 38, 39, 40, 41, 42, 43, 44] (by decide +kernel) (by decide +kernel)
set_option maxRecDepth 20000 in
theorem gX7_doubled_X7_one : GoodIn wsX7_doubled (wsV RX7 107 RX7 yX7_one wsX7_one) := goodIn_app (goodIn_of _ (by decide +kernel)) ggX7_doubled_X7_one
theorem dX7_doubled_0 : decode cX7_doubled 0 = .ok (.aload_n 0, 1) := by decide +kernel
theorem dX7_doubled_1 : decode cX7_doubled 1 = .ok (.iload_n 1, 1) := by decide +kernel
theorem dX7_doubled_2 : decode cX7_doubled 2 = .ok (.iload_n 2, 1) := by decide +kernel
theorem dX7_doubled_3 : decode cX7_doubled 3 = .ok (.ifCond .eq 8, 3) := by decide +kernel
theorem dX7_doubled_6 : decode cX7_doubled 6 = .ok (.bipush 8, 2) := by decide +kernel
theorem dX7_doubled_8 : decode cX7_doubled 8 = .ok (.goto 5, 3) := by decide +kernel
theorem dX7_doubled_11 : decode cX7_doubled 11 = .ok (.bipush 9, 2) := by decide +kernel
theorem dX7_doubled_13 : decode cX7_doubled 13 = .ok (.invokestatic 103, 3) := by decide +kernel
theorem dX7_doubled_16 : decode cX7_doubled 16 = .ok (.invokevirtual 107, 3) := by decide +kernel
theorem dX7_doubled_19 : decode cX7_doubled 19 = .ok (.iload_n 2, 1) := by decide +kernel
theorem dX7_doubled_20 : decode cX7_doubled 20 = .ok (.ifCond .eq 13, 3) := by decide +kernel
theorem dX7_doubled_23 : decode cX7_doubled 23 = .ok (.aload_n 0, 1) := by decide +kernel
theorem dX7_doubled_24 : decode cX7_doubled 24 = .ok (.getfield 25, 3) := by decide +kernel
theorem dX7_doubled_27 : decode cX7_doubled 27 = .ok (.iload_n 1, 1) := by decide +kernel
theorem dX7_doubled_28 : decode cX7_doubled 28 = .ok (.iaload, 1) := by decide +kernel
theorem dX7_doubled_29 : decode cX7_doubled 29 = .ok (.iconst 1, 1) := by decide +kernel
theorem dX7_doubled_30 : decode cX7_doubled 30 = .ok (.if_icmp .ne 13, 3) := by decide +kernel
theorem dX7_doubled_33 : decode cX7_doubled 33 = .ok (.aload_n 0, 1) := by decide +kernel
theorem dX7_doubled_34 : decode cX7_doubled 34 = .ok (.iload_n 1, 1) := by decide +kernel
theorem dX7_doubled_35 : decode cX7_doubled 35 = .ok (.bipush 9, 2) := by decide +kernel
theorem dX7_doubled_37 : decode cX7_doubled 37 = .ok (.invokestatic 103, 3) := by decide +kernel
theorem dX7_doubled_40 : decode cX7_doubled 40 = .ok (.invokevirtual 107, 3) := by decide +kernel
theorem dX7_doubled_43 : decode cX7_doubled 43 = .ok (.return_, 1) := by decide +kernel
set_option maxRecDepth 20000 in
theorem ggX7_produceRuled_X7_doubled : GoodIn wsX7_produceRuled wsX7_doubled := goodIn_r _ [6, 7, 8, 9, 5, 10, 11, 12, 13, 14, 15, 16, 17, 18, 19, 20, 21, 22, 23, 24, 25, 26, 27, 28, 29, 30, 31, 32, 33, 34, 35, 36, 37, 38, 39, 40, 41, 42, 43, 44, 45, 46, 47, 48, 49] (by decide +kernel) (by decide +kernel)
set_option maxRecDepth 20000 in
theorem gX7_produceRuled_X7_doubled : GoodIn wsX7_produceRuled (wsV RX7 110 RX7 yX7_doubled wsX7_doubled) := goodIn_app (goodIn_of _ (by decide +kernel)) ggX7_produceRuled_X7_doubled
set_option maxRecDepth 20000 in
theorem ggX7_produceRuled_X7_of : GoodIn wsX7_produceRuled wsX7_of := goodIn_r _ [10] (by decide +kernel) (by decide +kernel)
set_option maxRecDepth 20000 in
theorem gX7_produceRuled_X7_of : GoodIn wsX7_produceRuled (va_wsS RX7 103 yX7_of wsX7_of) := goodIn_app (goodIn_of _ (by decide +kernel)) ggX7_produceRuled_X7_of
set_option maxRecDepth 20000 in
theorem ggX7_produceRuled_X7_one : GoodIn wsX7_produceRuled wsX7_one := goodIn_r _ [14, 15, 16, 17, 5, 18, 19, 20, 21, 22, 23, 24, 25, 26, 27, 28, 29, 30, 31, 32, 33, 34, 35, 36, 37, 38, 39, 40, 41, 42, 43, 44, 45, 46, 47, 48, 49] (by decide +kernel) (by decide +kernel)
set_option maxRecDepth 20000 in
theorem gX7_produceRuled_X7_one : GoodIn wsX7_produceRuled (wsV RX7 107 RX7 yX7_one wsX7_one) := goodIn_app (goodIn_of _ (by decide +kernel)) ggX7_produceRuled_X7_one
set_option maxRecDepth 20000 in
theorem ggX7_produceRuled_X7_makes : GoodIn wsX7_produceRuled wsX7_makes := goodIn_r _ [18, 19, 20, 21, 22, 23, 24, 25, 26, 27, 28, 29, 30, 31, 32, 33, 34, 35, 36, 37, 38, 39, 40, 41, 42, 43, 44, 45, 46, 47, 48, 49] (by decide +kernel) (by decide +kernel)
set_option maxRecDepth 20000 in
theorem gX7_produceRuled_X7_makes : GoodIn wsX7_produceRuled (wsV RX7 100 RX7 yX7_makes wsX7_makes) := goodIn_app (goodIn_of _ (by decide +kernel)) ggX7_produceRuled_X7_makes
theorem dX7_produceRuled_0 : decode cX7_produceRuled 0 = .ok (.aload_n 0, 1) := by decide +kernel
theorem dX7_produceRuled_1 : decode cX7_produceRuled 1 = .ok (.getfield 28, 3) := by decide +kernel
theorem dX7_produceRuled_4 : decode cX7_produceRuled 4 = .ok (.iload_n 1, 1) := by decide +kernel
theorem dX7_produceRuled_5 : decode cX7_produceRuled 5 = .ok (.iaload, 1) := by decide +kernel
theorem dX7_produceRuled_6 : decode cX7_produceRuled 6 = .ok (.iconst 1, 1) := by decide +kernel
theorem dX7_produceRuled_7 : decode cX7_produceRuled 7 = .ok (.if_icmp .ne 7, 3) := by decide +kernel
theorem dX7_produceRuled_10 : decode cX7_produceRuled 10 = .ok (.iconst 1, 1) := by decide +kernel
theorem dX7_produceRuled_11 : decode cX7_produceRuled 11 = .ok (.goto 4, 3) := by decide +kernel
theorem dX7_produceRuled_14 : decode cX7_produceRuled 14 = .ok (.iconst 0, 1) := by decide +kernel
theorem dX7_produceRuled_15 : decode cX7_produceRuled 15 = .ok (.istore 5, 2) := by decide +kernel
theorem dX7_produceRuled_17 : decode cX7_produceRuled 17 = .ok (.iload_n 2, 1) := by decide +kernel
theorem dX7_produceRuled_18 : decode cX7_produceRuled 18 = .ok (.tableswitch 483 0 18 #[90, 116, 142, 160, 178, 205, 483, 483, 232, 255, 324, 346, 374, 396, 278, 301, 419, 440, 462], 90) := by decide +kernel
theorem dX7_produceRuled_108 : decode cX7_produceRuled 108 = .ok (.iload 5, 2) := by decide +kernel
theorem dX7_produceRuled_110 : decode cX7_produceRuled 110 = .ok (.ifCond .eq 12, 3) := by decide +kernel
theorem dX7_produceRuled_113 : decode cX7_produceRuled 113 = .ok (.aload_n 0, 1) := by decide +kernel
theorem dX7_produceRuled_114 : decode cX7_produceRuled 114 = .ok (.iload_n 1, 1) := by decide +kernel
theorem dX7_produceRuled_115 : decode cX7_produceRuled 115 = .ok (.iconst 1, 1) := by decide +kernel
theorem dX7_produceRuled_116 : decode cX7_produceRuled 116 = .ok (.invokevirtual 110, 3) := by decide +kernel
theorem dX7_produceRuled_119 : decode cX7_produceRuled 119 = .ok (.goto 401, 3) := by decide +kernel
theorem dX7_produceRuled_122 : decode cX7_produceRuled 122 = .ok (.aload_n 0, 1) := by decide +kernel
theorem dX7_produceRuled_123 : decode cX7_produceRuled 123 = .ok (.iload_n 1, 1) := by decide +kernel
theorem dX7_produceRuled_124 : decode cX7_produceRuled 124 = .ok (.iconst 2, 1) := by decide +kernel
theorem dX7_produceRuled_125 : decode cX7_produceRuled 125 = .ok (.invokestatic 103, 3) := by decide +kernel
theorem dX7_produceRuled_128 : decode cX7_produceRuled 128 = .ok (.invokevirtual 107, 3) := by decide +kernel
theorem dX7_produceRuled_131 : decode cX7_produceRuled 131 = .ok (.goto 389, 3) := by decide +kernel
theorem dX7_produceRuled_134 : decode cX7_produceRuled 134 = .ok (.iload 5, 2) := by decide +kernel
theorem dX7_produceRuled_136 : decode cX7_produceRuled 136 = .ok (.ifCond .eq 12, 3) := by decide +kernel
theorem dX7_produceRuled_139 : decode cX7_produceRuled 139 = .ok (.aload_n 0, 1) := by decide +kernel
theorem dX7_produceRuled_140 : decode cX7_produceRuled 140 = .ok (.iload_n 1, 1) := by decide +kernel
theorem dX7_produceRuled_141 : decode cX7_produceRuled 141 = .ok (.iconst 0, 1) := by decide +kernel
theorem dX7_produceRuled_142 : decode cX7_produceRuled 142 = .ok (.invokevirtual 110, 3) := by decide +kernel
theorem dX7_produceRuled_145 : decode cX7_produceRuled 145 = .ok (.goto 375, 3) := by decide +kernel
theorem dX7_produceRuled_148 : decode cX7_produceRuled 148 = .ok (.aload_n 0, 1) := by decide +kernel
theorem dX7_produceRuled_149 : decode cX7_produceRuled 149 = .ok (.iload_n 1, 1) := by decide +kernel
theorem dX7_produceRuled_150 : decode cX7_produceRuled 150 = .ok (.iconst 3, 1) := by decide +kernel
theorem dX7_produceRuled_151 : decode cX7_produceRuled 151 = .ok (.invokestatic 103, 3) := by decide +kernel
theorem dX7_produceRuled_154 : decode cX7_produceRuled 154 = .ok (.invokevirtual 107, 3) := by decide +kernel
theorem dX7_produceRuled_157 : decode cX7_produceRuled 157 = .ok (.goto 363, 3) := by decide +kernel
theorem dX7_produceRuled_160 : decode cX7_produceRuled 160 = .ok (.iload 5, 2) := by decide +kernel
theorem dX7_produceRuled_162 : decode cX7_produceRuled 162 = .ok (.ifCond .ne 358, 3) := by decide +kernel
theorem dX7_produceRuled_165 : decode cX7_produceRuled 165 = .ok (.aload_n 0, 1) := by decide +kernel
theorem dX7_produceRuled_166 : decode cX7_produceRuled 166 = .ok (.iload_n 1, 1) := by decide +kernel
theorem dX7_produceRuled_167 : decode cX7_produceRuled 167 = .ok (.bipush 14, 2) := by decide +kernel
theorem dX7_produceRuled_169 : decode cX7_produceRuled 169 = .ok (.invokestatic 103, 3) := by decide +kernel
theorem dX7_produceRuled_172 : decode cX7_produceRuled 172 = .ok (.invokevirtual 100, 3) := by decide +kernel
theorem dX7_produceRuled_175 : decode cX7_produceRuled 175 = .ok (.goto 345, 3) := by decide +kernel
theorem dX7_produceRuled_178 : decode cX7_produceRuled 178 = .ok (.iload 5, 2) := by decide +kernel
theorem dX7_produceRuled_180 : decode cX7_produceRuled 180 = .ok (.ifCond .ne 340, 3) := by decide +kernel
theorem dX7_produceRuled_183 : decode cX7_produceRuled 183 = .ok (.aload_n 0, 1) := by decide +kernel
theorem dX7_produceRuled_184 : decode cX7_produceRuled 184 = .ok (.iload_n 1, 1) := by decide +kernel
theorem dX7_produceRuled_185 : decode cX7_produceRuled 185 = .ok (.bipush 15, 2) := by decide +kernel
theorem dX7_produceRuled_187 : decode cX7_produceRuled 187 = .ok (.invokestatic 103, 3) := by decide +kernel
theorem dX7_produceRuled_190 : decode cX7_produceRuled 190 = .ok (.invokevirtual 100, 3) := by decide +kernel
theorem dX7_produceRuled_193 : decode cX7_produceRuled 193 = .ok (.goto 327, 3) := by decide +kernel
theorem dX7_produceRuled_196 : decode cX7_produceRuled 196 = .ok (.iload 5, 2) := by decide +kernel
theorem dX7_produceRuled_198 : decode cX7_produceRuled 198 = .ok (.ifCond .eq 16, 3) := by decide +kernel
theorem dX7_produceRuled_201 : decode cX7_produceRuled 201 = .ok (.aload_n 0, 1) := by decide +kernel
theorem dX7_produceRuled_202 : decode cX7_produceRuled 202 = .ok (.iload_n 1, 1) := by decide +kernel
theorem dX7_produceRuled_203 : decode cX7_produceRuled 203 = .ok (.bipush 14, 2) := by decide +kernel
theorem dX7_produceRuled_205 : decode cX7_produceRuled 205 = .ok (.invokestatic 103, 3) := by decide +kernel
theorem dX7_produceRuled_208 : decode cX7_produceRuled 208 = .ok (.invokevirtual 100, 3) := by decide +kernel
theorem dX7_produceRuled_211 : decode cX7_produceRuled 211 = .ok (.goto 309, 3) := by decide +kernel
theorem dX7_produceRuled_214 : decode cX7_produceRuled 214 = .ok (.aload_n 0, 1) := by decide +kernel
theorem dX7_produceRuled_215 : decode cX7_produceRuled 215 = .ok (.iload_n 1, 1) := by decide +kernel
theorem dX7_produceRuled_216 : decode cX7_produceRuled 216 = .ok (.iconst 1, 1) := by decide +kernel
theorem dX7_produceRuled_217 : decode cX7_produceRuled 217 = .ok (.invokevirtual 110, 3) := by decide +kernel
theorem dX7_produceRuled_220 : decode cX7_produceRuled 220 = .ok (.goto 300, 3) := by decide +kernel
theorem dX7_produceRuled_223 : decode cX7_produceRuled 223 = .ok (.iload 5, 2) := by decide +kernel
theorem dX7_produceRuled_225 : decode cX7_produceRuled 225 = .ok (.ifCond .eq 16, 3) := by decide +kernel
theorem dX7_produceRuled_228 : decode cX7_produceRuled 228 = .ok (.aload_n 0, 1) := by decide +kernel
theorem dX7_produceRuled_229 : decode cX7_produceRuled 229 = .ok (.iload_n 1, 1) := by decide +kernel
theorem dX7_produceRuled_230 : decode cX7_produceRuled 230 = .ok (.bipush 15, 2) := by decide +kernel
theorem dX7_produceRuled_232 : decode cX7_produceRuled 232 = .ok (.invokestatic 103, 3) := by decide +kernel
theorem dX7_produceRuled_235 : decode cX7_produceRuled 235 = .ok (.invokevirtual 100, 3) := by decide +kernel
theorem dX7_produceRuled_238 : decode cX7_produceRuled 238 = .ok (.goto 282, 3) := by decide +kernel
theorem dX7_produceRuled_241 : decode cX7_produceRuled 241 = .ok (.aload_n 0, 1) := by decide +kernel
theorem dX7_produceRuled_242 : decode cX7_produceRuled 242 = .ok (.iload_n 1, 1) := by decide +kernel
theorem dX7_produceRuled_243 : decode cX7_produceRuled 243 = .ok (.iconst 0, 1) := by decide +kernel
theorem dX7_produceRuled_244 : decode cX7_produceRuled 244 = .ok (.invokevirtual 110, 3) := by decide +kernel
theorem dX7_produceRuled_247 : decode cX7_produceRuled 247 = .ok (.goto 273, 3) := by decide +kernel
theorem dX7_produceRuled_250 : decode cX7_produceRuled 250 = .ok (.aload_n 0, 1) := by decide +kernel
theorem dX7_produceRuled_251 : decode cX7_produceRuled 251 = .ok (.iload_n 1, 1) := by decide +kernel
theorem dX7_produceRuled_252 : decode cX7_produceRuled 252 = .ok (.bipush 10, 2) := by decide +kernel
theorem dX7_produceRuled_254 : decode cX7_produceRuled 254 = .ok (.invokestatic 103, 3) := by decide +kernel
theorem dX7_produceRuled_257 : decode cX7_produceRuled 257 = .ok (.invokevirtual 100, 3) := by decide +kernel
theorem dX7_produceRuled_260 : decode cX7_produceRuled 260 = .ok (.aload_n 0, 1) := by decide +kernel
theorem dX7_produceRuled_261 : decode cX7_produceRuled 261 = .ok (.iload_n 1, 1) := by decide +kernel
theorem dX7_produceRuled_262 : decode cX7_produceRuled 262 = .ok (.bipush 11, 2) := by decide +kernel
theorem dX7_produceRuled_264 : decode cX7_produceRuled 264 = .ok (.invokestatic 103, 3) := by decide +kernel
theorem dX7_produceRuled_267 : decode cX7_produceRuled 267 = .ok (.invokevirtual 100, 3) := by decide +kernel
theorem dX7_produceRuled_270 : decode cX7_produceRuled 270 = .ok (.goto 250, 3) := by decide +kernel
theorem dX7_produceRuled_273 : decode cX7_produceRuled 273 = .ok (.aload_n 0, 1) := by decide +kernel
theorem dX7_produceRuled_274 : decode cX7_produceRuled 274 = .ok (.iload_n 1, 1) := by decide +kernel
theorem dX7_produceRuled_275 : decode cX7_produceRuled 275 = .ok (.bipush 12, 2) := by decide +kernel
theorem dX7_produceRuled_277 : decode cX7_produceRuled 277 = .ok (.invokestatic 103, 3) := by decide +kernel
theorem dX7_produceRuled_280 : decode cX7_produceRuled 280 = .ok (.invokevirtual 100, 3) := by decide +kernel
theorem dX7_produceRuled_283 : decode cX7_produceRuled 283 = .ok (.aload_n 0, 1) := by decide +kernel
theorem dX7_produceRuled_284 : decode cX7_produceRuled 284 = .ok (.iload_n 1, 1) := by decide +kernel
theorem dX7_produceRuled_285 : decode cX7_produceRuled 285 = .ok (.bipush 13, 2) := by decide +kernel
theorem dX7_produceRuled_287 : decode cX7_produceRuled 287 = .ok (.invokestatic 103, 3) := by decide +kernel
theorem dX7_produceRuled_290 : decode cX7_produceRuled 290 = .ok (.invokevirtual 100, 3) := by decide +kernel
theorem dX7_produceRuled_293 : decode cX7_produceRuled 293 = .ok (.goto 227, 3) := by decide +kernel
theorem dX7_produceRuled_296 : decode cX7_produceRuled 296 = .ok (.aload_n 0, 1) := by decide +kernel
theorem dX7_produceRuled_297 : decode cX7_produceRuled 297 = .ok (.iload_n 1, 1) := by decide +kernel
theorem dX7_produceRuled_298 : decode cX7_produceRuled 298 = .ok (.bipush 16, 2) := by decide +kernel
theorem dX7_produceRuled_300 : decode cX7_produceRuled 300 = .ok (.invokestatic 103, 3) := by decide +kernel
theorem dX7_produceRuled_303 : decode cX7_produceRuled 303 = .ok (.invokevirtual 100, 3) := by decide +kernel
theorem dX7_produceRuled_306 : decode cX7_produceRuled 306 = .ok (.aload_n 0, 1) := by decide +kernel
theorem dX7_produceRuled_307 : decode cX7_produceRuled 307 = .ok (.iload_n 1, 1) := by decide +kernel
theorem dX7_produceRuled_308 : decode cX7_produceRuled 308 = .ok (.bipush 17, 2) := by decide +kernel
theorem dX7_produceRuled_310 : decode cX7_produceRuled 310 = .ok (.invokestatic 103, 3) := by decide +kernel
theorem dX7_produceRuled_313 : decode cX7_produceRuled 313 = .ok (.invokevirtual 100, 3) := by decide +kernel
theorem dX7_produceRuled_316 : decode cX7_produceRuled 316 = .ok (.goto 204, 3) := by decide +kernel
theorem dX7_produceRuled_319 : decode cX7_produceRuled 319 = .ok (.aload_n 0, 1) := by decide +kernel
theorem dX7_produceRuled_320 : decode cX7_produceRuled 320 = .ok (.iload_n 1, 1) := by decide +kernel
theorem dX7_produceRuled_321 : decode cX7_produceRuled 321 = .ok (.bipush 18, 2) := by decide +kernel
theorem dX7_produceRuled_323 : decode cX7_produceRuled 323 = .ok (.invokestatic 103, 3) := by decide +kernel
theorem dX7_produceRuled_326 : decode cX7_produceRuled 326 = .ok (.invokevirtual 100, 3) := by decide +kernel
theorem dX7_produceRuled_329 : decode cX7_produceRuled 329 = .ok (.aload_n 0, 1) := by decide +kernel
theorem dX7_produceRuled_330 : decode cX7_produceRuled 330 = .ok (.iload_n 1, 1) := by decide +kernel
theorem dX7_produceRuled_331 : decode cX7_produceRuled 331 = .ok (.bipush 19, 2) := by decide +kernel
theorem dX7_produceRuled_333 : decode cX7_produceRuled 333 = .ok (.invokestatic 103, 3) := by decide +kernel
theorem dX7_produceRuled_336 : decode cX7_produceRuled 336 = .ok (.invokevirtual 100, 3) := by decide +kernel
theorem dX7_produceRuled_339 : decode cX7_produceRuled 339 = .ok (.goto 181, 3) := by decide +kernel
theorem dX7_produceRuled_342 : decode cX7_produceRuled 342 = .ok (.aload_n 0, 1) := by decide +kernel
theorem dX7_produceRuled_343 : decode cX7_produceRuled 343 = .ok (.iload_n 3, 1) := by decide +kernel
theorem dX7_produceRuled_344 : decode cX7_produceRuled 344 = .ok (.iload 5, 2) := by decide +kernel
theorem dX7_produceRuled_346 : decode cX7_produceRuled 346 = .ok (.ifCond .eq 7, 3) := by decide +kernel
theorem dX7_produceRuled_349 : decode cX7_produceRuled 349 = .ok (.iconst 0, 1) := by decide +kernel
theorem dX7_produceRuled_350 : decode cX7_produceRuled 350 = .ok (.goto 5, 3) := by decide +kernel
theorem dX7_produceRuled_353 : decode cX7_produceRuled 353 = .ok (.bipush 6, 2) := by decide +kernel
theorem dX7_produceRuled_355 : decode cX7_produceRuled 355 = .ok (.invokestatic 103, 3) := by decide +kernel
theorem dX7_produceRuled_358 : decode cX7_produceRuled 358 = .ok (.invokevirtual 107, 3) := by decide +kernel
theorem dX7_produceRuled_361 : decode cX7_produceRuled 361 = .ok (.goto 159, 3) := by decide +kernel
theorem dX7_produceRuled_364 : decode cX7_produceRuled 364 = .ok (.aload_n 0, 1) := by decide +kernel
theorem dX7_produceRuled_365 : decode cX7_produceRuled 365 = .ok (.iconst 0, 1) := by decide +kernel
theorem dX7_produceRuled_366 : decode cX7_produceRuled 366 = .ok (.invokevirtual 100, 3) := by decide +kernel
theorem dX7_produceRuled_369 : decode cX7_produceRuled 369 = .ok (.aload_n 0, 1) := by decide +kernel
theorem dX7_produceRuled_370 : decode cX7_produceRuled 370 = .ok (.iload 4, 2) := by decide +kernel
theorem dX7_produceRuled_372 : decode cX7_produceRuled 372 = .ok (.iload 5, 2) := by decide +kernel
theorem dX7_produceRuled_374 : decode cX7_produceRuled 374 = .ok (.ifCond .eq 7, 3) := by decide +kernel
theorem dX7_produceRuled_377 : decode cX7_produceRuled 377 = .ok (.iconst 0, 1) := by decide +kernel
theorem dX7_produceRuled_378 : decode cX7_produceRuled 378 = .ok (.goto 5, 3) := by decide +kernel
theorem dX7_produceRuled_381 : decode cX7_produceRuled 381 = .ok (.bipush 6, 2) := by decide +kernel
theorem dX7_produceRuled_383 : decode cX7_produceRuled 383 = .ok (.invokestatic 103, 3) := by decide +kernel
theorem dX7_produceRuled_386 : decode cX7_produceRuled 386 = .ok (.invokevirtual 107, 3) := by decide +kernel
theorem dX7_produceRuled_389 : decode cX7_produceRuled 389 = .ok (.goto 131, 3) := by decide +kernel
theorem dX7_produceRuled_392 : decode cX7_produceRuled 392 = .ok (.aload_n 0, 1) := by decide +kernel
theorem dX7_produceRuled_393 : decode cX7_produceRuled 393 = .ok (.iload_n 3, 1) := by decide +kernel
theorem dX7_produceRuled_394 : decode cX7_produceRuled 394 = .ok (.iload 5, 2) := by decide +kernel
theorem dX7_produceRuled_396 : decode cX7_produceRuled 396 = .ok (.ifCond .eq 7, 3) := by decide +kernel
theorem dX7_produceRuled_399 : decode cX7_produceRuled 399 = .ok (.iconst 1, 1) := by decide +kernel
theorem dX7_produceRuled_400 : decode cX7_produceRuled 400 = .ok (.goto 5, 3) := by decide +kernel
theorem dX7_produceRuled_403 : decode cX7_produceRuled 403 = .ok (.bipush 7, 2) := by decide +kernel
theorem dX7_produceRuled_405 : decode cX7_produceRuled 405 = .ok (.invokestatic 103, 3) := by decide +kernel
theorem dX7_produceRuled_408 : decode cX7_produceRuled 408 = .ok (.invokevirtual 107, 3) := by decide +kernel
theorem dX7_produceRuled_411 : decode cX7_produceRuled 411 = .ok (.goto 109, 3) := by decide +kernel
theorem dX7_produceRuled_414 : decode cX7_produceRuled 414 = .ok (.aload_n 0, 1) := by decide +kernel
theorem dX7_produceRuled_415 : decode cX7_produceRuled 415 = .ok (.iload 4, 2) := by decide +kernel
theorem dX7_produceRuled_417 : decode cX7_produceRuled 417 = .ok (.iload 5, 2) := by decide +kernel
theorem dX7_produceRuled_419 : decode cX7_produceRuled 419 = .ok (.ifCond .eq 7, 3) := by decide +kernel
theorem dX7_produceRuled_422 : decode cX7_produceRuled 422 = .ok (.iconst 1, 1) := by decide +kernel
theorem dX7_produceRuled_423 : decode cX7_produceRuled 423 = .ok (.goto 5, 3) := by decide +kernel
theorem dX7_produceRuled_426 : decode cX7_produceRuled 426 = .ok (.bipush 7, 2) := by decide +kernel
theorem dX7_produceRuled_428 : decode cX7_produceRuled 428 = .ok (.invokestatic 103, 3) := by decide +kernel
theorem dX7_produceRuled_431 : decode cX7_produceRuled 431 = .ok (.invokevirtual 107, 3) := by decide +kernel
theorem dX7_produceRuled_434 : decode cX7_produceRuled 434 = .ok (.goto 86, 3) := by decide +kernel
theorem dX7_produceRuled_437 : decode cX7_produceRuled 437 = .ok (.aload_n 0, 1) := by decide +kernel
theorem dX7_produceRuled_438 : decode cX7_produceRuled 438 = .ok (.iload_n 3, 1) := by decide +kernel
theorem dX7_produceRuled_439 : decode cX7_produceRuled 439 = .ok (.iload 5, 2) := by decide +kernel
theorem dX7_produceRuled_441 : decode cX7_produceRuled 441 = .ok (.ifCond .eq 7, 3) := by decide +kernel
theorem dX7_produceRuled_444 : decode cX7_produceRuled 444 = .ok (.iconst 4, 1) := by decide +kernel
theorem dX7_produceRuled_445 : decode cX7_produceRuled 445 = .ok (.goto 4, 3) := by decide +kernel
theorem dX7_produceRuled_448 : decode cX7_produceRuled 448 = .ok (.iconst 0, 1) := by decide +kernel
theorem dX7_produceRuled_449 : decode cX7_produceRuled 449 = .ok (.invokestatic 103, 3) := by decide +kernel
theorem dX7_produceRuled_452 : decode cX7_produceRuled 452 = .ok (.invokevirtual 107, 3) := by decide +kernel
theorem dX7_produceRuled_455 : decode cX7_produceRuled 455 = .ok (.goto 65, 3) := by decide +kernel
theorem dX7_produceRuled_458 : decode cX7_produceRuled 458 = .ok (.aload_n 0, 1) := by decide +kernel
theorem dX7_produceRuled_459 : decode cX7_produceRuled 459 = .ok (.iload 4, 2) := by decide +kernel
theorem dX7_produceRuled_461 : decode cX7_produceRuled 461 = .ok (.iload 5, 2) := by decide +kernel
theorem dX7_produceRuled_463 : decode cX7_produceRuled 463 = .ok (.ifCond .eq 7, 3) := by decide +kernel
theorem dX7_produceRuled_466 : decode cX7_produceRuled 466 = .ok (.iconst 4, 1) := by decide +kernel
theorem dX7_produceRuled_467 : decode cX7_produceRuled 467 = .ok (.goto 4, 3) := by decide +kernel
theorem dX7_produceRuled_470 : decode cX7_produceRuled 470 = .ok (.iconst 0, 1) := by decide +kernel
theorem dX7_produceRuled_471 : decode cX7_produceRuled 471 = .ok (.invokestatic 103, 3) := by decide +kernel
theorem dX7_produceRuled_474 : decode cX7_produceRuled 474 = .ok (.invokevirtual 107, 3) := by decide +kernel
theorem dX7_produceRuled_477 : decode cX7_produceRuled 477 = .ok (.goto 43, 3) := by decide +kernel
theorem dX7_produceRuled_480 : decode cX7_produceRuled 480 = .ok (.aload_n 0, 1) := by decide +kernel
theorem dX7_produceRuled_481 : decode cX7_produceRuled 481 = .ok (.iload_n 3, 1) := by decide +kernel
theorem dX7_produceRuled_482 : decode cX7_produceRuled 482 = .ok (.iload 5, 2) := by decide +kernel
theorem dX7_produceRuled_484 : decode cX7_produceRuled 484 = .ok (.ifCond .eq 7, 3) := by decide +kernel
theorem dX7_produceRuled_487 : decode cX7_produceRuled 487 = .ok (.iconst 5, 1) := by decide +kernel
theorem dX7_produceRuled_488 : decode cX7_produceRuled 488 = .ok (.goto 4, 3) := by decide +kernel
theorem dX7_produceRuled_491 : decode cX7_produceRuled 491 = .ok (.iconst 1, 1) := by decide +kernel
theorem dX7_produceRuled_492 : decode cX7_produceRuled 492 = .ok (.invokestatic 103, 3) := by decide +kernel
theorem dX7_produceRuled_495 : decode cX7_produceRuled 495 = .ok (.invokevirtual 107, 3) := by decide +kernel
theorem dX7_produceRuled_498 : decode cX7_produceRuled 498 = .ok (.goto 22, 3) := by decide +kernel
theorem dX7_produceRuled_501 : decode cX7_produceRuled 501 = .ok (.aload_n 0, 1) := by decide +kernel
theorem dX7_produceRuled_502 : decode cX7_produceRuled 502 = .ok (.iload 4, 2) := by decide +kernel
theorem dX7_produceRuled_504 : decode cX7_produceRuled 504 = .ok (.iload 5, 2) := by decide +kernel
theorem dX7_produceRuled_506 : decode cX7_produceRuled 506 = .ok (.ifCond .eq 7, 3) := by decide +kernel
theorem dX7_produceRuled_509 : decode cX7_produceRuled 509 = .ok (.iconst 5, 1) := by decide +kernel
theorem dX7_produceRuled_510 : decode cX7_produceRuled 510 = .ok (.goto 4, 3) := by decide +kernel
theorem dX7_produceRuled_513 : decode cX7_produceRuled 513 = .ok (.iconst 1, 1) := by decide +kernel
theorem dX7_produceRuled_514 : decode cX7_produceRuled 514 = .ok (.invokestatic 103, 3) := by decide +kernel
theorem dX7_produceRuled_517 : decode cX7_produceRuled 517 = .ok (.invokevirtual 107, 3) := by decide +kernel
theorem dX7_produceRuled_520 : decode cX7_produceRuled 520 = .ok (.return_, 1) := by decide +kernel
set_option maxRecDepth 20000 in
theorem ggX7_produce_X7_of : GoodIn wsX7_produce wsX7_of := goodIn_r _ [7] (by decide +kernel) (by decide +kernel)
set_option maxRecDepth 20000 in
theorem gX7_produce_X7_of : GoodIn wsX7_produce (va_wsS RX7 103 yX7_of wsX7_of) := goodIn_app (goodIn_of _ (by decide +kernel)) ggX7_produce_X7_of
set_option maxRecDepth 20000 in
theorem ggX7_produce_X7_one : GoodIn wsX7_produce wsX7_one := goodIn_r _ [11, 12, 13, 14, 6, 15, 16, 1, 26, 27, 28, 29, 30, 31, 32, 33, 34, 35, 36, 37, 38, 39, 40, 41, 42, 43, 44, 45, 46, 47, 48, 49, 50, 51, 52, 53, 54] (by decide +kernel) (by decide +kernel)
set_option maxRecDepth 20000 in
theorem gX7_produce_X7_one : GoodIn wsX7_produce (wsV RX7 107 RX7 yX7_one wsX7_one) := goodIn_app (goodIn_of _ (by decide +kernel)) ggX7_produce_X7_one
set_option maxRecDepth 20000 in
theorem ggX7_produce_X7_produceRuled : GoodIn wsX7_produce wsX7_produceRuled := goodIn_r _ [20, 21, 22, 23, 24, 6, 25, 2, 4, 5, 7, 8, 9, 10, 11, 12, 13, 14, 15, 16, 1, 26, 27, 28, 29, 30, 31, 32, 33, 34, 35, 36, 37, 38, 39, 40, 41, 42, 43, 44, 45, 46, 47, 48, 49, 50, 51, 52, 53, 54] (by decide +kernel) (by decide +kernel)
set_option maxRecDepth 20000 in
theorem gX7_produce_X7_produceRuled : GoodIn wsX7_produce (wsV RX7 114 RX7 yX7_produceRuled wsX7_produceRuled) := goodIn_app (goodIn_of _ (by decide +kernel)) ggX7_produce_X7_produceRuled
theorem dX7_produce_0 : decode cX7_produce 0 = .ok (.aload_n 0, 1) := by decide +kernel
theorem dX7_produce_1 : decode cX7_produce 1 = .ok (.iconst 0, 1) := by decide +kernel
theorem dX7_produce_2 : decode cX7_produce 2 = .ok (.putfield 97, 3) := by decide +kernel
theorem dX7_produce_5 : decode cX7_produce 5 = .ok (.iload_n 1, 1) := by decide +kernel
theorem dX7_produce_6 : decode cX7_produce 6 = .ok (.ifCond .ne 4, 3) := by decide +kernel
theorem dX7_produce_9 : decode cX7_produce 9 = .ok (.return_, 1) := by decide +kernel
theorem dX7_produce_10 : decode cX7_produce 10 = .ok (.iload_n 1, 1) := by decide +kernel
theorem dX7_produce_11 : decode cX7_produce 11 = .ok (.iconst 1, 1) := by decide +kernel
theorem dX7_produce_12 : decode cX7_produce 12 = .ok (.isub, 1) := by decide +kernel
theorem dX7_produce_13 : decode cX7_produce 13 = .ok (.bipush 20, 2) := by decide +kernel
theorem dX7_produce_15 : decode cX7_produce 15 = .ok (.idiv, 1) := by decide +kernel
theorem dX7_produce_16 : decode cX7_produce 16 = .ok (.istore_n 2, 1) := by decide +kernel
theorem dX7_produce_17 : decode cX7_produce 17 = .ok (.iload_n 1, 1) := by decide +kernel
theorem dX7_produce_18 : decode cX7_produce 18 = .ok (.iconst 1, 1) := by decide +kernel
theorem dX7_produce_19 : decode cX7_produce 19 = .ok (.isub, 1) := by decide +kernel
theorem dX7_produce_20 : decode cX7_produce 20 = .ok (.bipush 20, 2) := by decide +kernel
theorem dX7_produce_22 : decode cX7_produce 22 = .ok (.irem, 1) := by decide +kernel
theorem dX7_produce_23 : decode cX7_produce 23 = .ok (.istore_n 3, 1) := by decide +kernel
theorem dX7_produce_24 : decode cX7_produce 24 = .ok (.iload_n 3, 1) := by decide +kernel
theorem dX7_produce_25 : decode cX7_produce 25 = .ok (.bipush 6, 2) := by decide +kernel
theorem dX7_produce_27 : decode cX7_produce 27 = .ok (.if_icmp .ne 15, 3) := by decide +kernel
theorem dX7_produce_30 : decode cX7_produce 30 = .ok (.aload_n 0, 1) := by decide +kernel
theorem dX7_produce_31 : decode cX7_produce 31 = .ok (.iload_n 2, 1) := by decide +kernel
theorem dX7_produce_32 : decode cX7_produce 32 = .ok (.iconst 4, 1) := by decide +kernel
theorem dX7_produce_33 : decode cX7_produce 33 = .ok (.invokestatic 103, 3) := by decide +kernel
theorem dX7_produce_36 : decode cX7_produce 36 = .ok (.invokevirtual 107, 3) := by decide +kernel
theorem dX7_produce_39 : decode cX7_produce 39 = .ok (.goto 54, 3) := by decide +kernel
theorem dX7_produce_42 : decode cX7_produce 42 = .ok (.iload_n 3, 1) := by decide +kernel
theorem dX7_produce_43 : decode cX7_produce 43 = .ok (.bipush 7, 2) := by decide +kernel
theorem dX7_produce_45 : decode cX7_produce 45 = .ok (.if_icmp .ne 15, 3) := by decide +kernel
theorem dX7_produce_48 : decode cX7_produce 48 = .ok (.aload_n 0, 1) := by decide +kernel
theorem dX7_produce_49 : decode cX7_produce 49 = .ok (.iload_n 2, 1) := by decide +kernel
theorem dX7_produce_50 : decode cX7_produce 50 = .ok (.iconst 5, 1) := by decide +kernel
theorem dX7_produce_51 : decode cX7_produce 51 = .ok (.invokestatic 103, 3) := by decide +kernel
theorem dX7_produce_54 : decode cX7_produce 54 = .ok (.invokevirtual 107, 3) := by decide +kernel
theorem dX7_produce_57 : decode cX7_produce 57 = .ok (.goto 36, 3) := by decide +kernel
theorem dX7_produce_60 : decode cX7_produce 60 = .ok (.aload_n 0, 1) := by decide +kernel
theorem dX7_produce_61 : decode cX7_produce 61 = .ok (.getfield 25, 3) := by decide +kernel
theorem dX7_produce_64 : decode cX7_produce 64 = .ok (.iload_n 2, 1) := by decide +kernel
theorem dX7_produce_65 : decode cX7_produce 65 = .ok (.iaload, 1) := by decide +kernel
theorem dX7_produce_66 : decode cX7_produce 66 = .ok (.ifCond .lt 27, 3) := by decide +kernel
theorem dX7_produce_69 : decode cX7_produce 69 = .ok (.aload_n 0, 1) := by decide +kernel
theorem dX7_produce_70 : decode cX7_produce 70 = .ok (.iload_n 2, 1) := by decide +kernel
theorem dX7_produce_71 : decode cX7_produce 71 = .ok (.iload_n 3, 1) := by decide +kernel
theorem dX7_produce_72 : decode cX7_produce 72 = .ok (.iconst 2, 1) := by decide +kernel
theorem dX7_produce_73 : decode cX7_produce 73 = .ok (.aload_n 0, 1) := by decide +kernel
theorem dX7_produce_74 : decode cX7_produce 74 = .ok (.getfield 31, 3) := by decide +kernel
theorem dX7_produce_77 : decode cX7_produce 77 = .ok (.iload_n 2, 1) := by decide +kernel
theorem dX7_produce_78 : decode cX7_produce 78 = .ok (.iaload, 1) := by decide +kernel
theorem dX7_produce_79 : decode cX7_produce 79 = .ok (.imul, 1) := by decide +kernel
theorem dX7_produce_80 : decode cX7_produce 80 = .ok (.iconst 1, 1) := by decide +kernel
theorem dX7_produce_81 : decode cX7_produce 81 = .ok (.iadd, 1) := by decide +kernel
theorem dX7_produce_82 : decode cX7_produce 82 = .ok (.iconst 2, 1) := by decide +kernel
theorem dX7_produce_83 : decode cX7_produce 83 = .ok (.aload_n 0, 1) := by decide +kernel
theorem dX7_produce_84 : decode cX7_produce 84 = .ok (.getfield 31, 3) := by decide +kernel
theorem dX7_produce_87 : decode cX7_produce 87 = .ok (.iload_n 2, 1) := by decide +kernel
theorem dX7_produce_88 : decode cX7_produce 88 = .ok (.iaload, 1) := by decide +kernel
theorem dX7_produce_89 : decode cX7_produce 89 = .ok (.imul, 1) := by decide +kernel
theorem dX7_produce_90 : decode cX7_produce 90 = .ok (.invokevirtual 114, 3) := by decide +kernel
theorem dX7_produce_93 : decode cX7_produce 93 = .ok (.return_, 1) := by decide +kernel
set_option maxRecDepth 20000 in
theorem ggX7_production_X7_in : GoodIn wsX7_production wsX7_in := goodIn_r _ [8] (by decide +kernel) (by decide +kernel)
set_option maxRecDepth 20000 in
theorem gX7_production_X7_in : GoodIn wsX7_production (va_wsS RX7 53 yX7_in wsX7_in) := goodIn_app (goodIn_of _ (by decide +kernel)) ggX7_production_X7_in
set_option maxRecDepth 20000 in
theorem ggX7_production_X7_produce : GoodIn wsX7_production wsX7_produce := goodIn_r _ [12, 3, 13, 14, 15, 16, 7, 17, 18, 19, 20, 21, 22, 23, 24, 25, 4, 26, 27, 28, 29, 30, 31, 32, 33, 34, 35, 36, 37, 38, 39, 40, 41, 42, 43, 44, 45, 46, 47, 48, 49, 50, 51, 52, 53, 54, 55, 56, 57, 58, 59, 60, 61, 62, 63] (by decide +kernel) (by decide +kernel)
set_option maxRecDepth 20000 in
theorem gX7_production_X7_produce : GoodIn wsX7_production (wsV RX7 120 RX7 yX7_produce wsX7_produce) := goodIn_app (goodIn_of _ (by decide +kernel)) ggX7_production_X7_produce
theorem dX7_production_0 : decode cX7_production 0 = .ok (.aload_n 0, 1) := by decide +kernel
theorem dX7_production_1 : decode cX7_production 1 = .ok (.iconst 0, 1) := by decide +kernel
theorem dX7_production_2 : decode cX7_production 2 = .ok (.putfield 47, 3) := by decide +kernel
theorem dX7_production_5 : decode cX7_production 5 = .ok (.iload_n 1, 1) := by decide +kernel
theorem dX7_production_6 : decode cX7_production 6 = .ok (.i2l, 1) := by decide +kernel
theorem dX7_production_7 : decode cX7_production 7 = .ok (.lconst 0, 1) := by decide +kernel
theorem dX7_production_8 : decode cX7_production 8 = .ok (.ldc2_w 118, 3) := by decide +kernel
theorem dX7_production_11 : decode cX7_production 11 = .ok (.invokestatic 53, 3) := by decide +kernel
theorem dX7_production_14 : decode cX7_production 14 = .ok (.ifCond .ne 5, 3) := by decide +kernel
theorem dX7_production_17 : decode cX7_production 17 = .ok (.iconst (-1), 1) := by decide +kernel
theorem dX7_production_18 : decode cX7_production 18 = .ok (.ireturn, 1) := by decide +kernel
theorem dX7_production_19 : decode cX7_production 19 = .ok (.aload_n 0, 1) := by decide +kernel
theorem dX7_production_20 : decode cX7_production 20 = .ok (.iload_n 1, 1) := by decide +kernel
theorem dX7_production_21 : decode cX7_production 21 = .ok (.invokevirtual 120, 3) := by decide +kernel
theorem dX7_production_24 : decode cX7_production 24 = .ok (.iload_n 2, 1) := by decide +kernel
theorem dX7_production_25 : decode cX7_production 25 = .ok (.i2l, 1) := by decide +kernel
theorem dX7_production_26 : decode cX7_production 26 = .ok (.lconst 0, 1) := by decide +kernel
theorem dX7_production_27 : decode cX7_production 27 = .ok (.aload_n 0, 1) := by decide +kernel
theorem dX7_production_28 : decode cX7_production 28 = .ok (.getfield 97, 3) := by decide +kernel
theorem dX7_production_31 : decode cX7_production 31 = .ok (.iconst 1, 1) := by decide +kernel
theorem dX7_production_32 : decode cX7_production 32 = .ok (.isub, 1) := by decide +kernel
theorem dX7_production_33 : decode cX7_production 33 = .ok (.i2l, 1) := by decide +kernel
theorem dX7_production_34 : decode cX7_production 34 = .ok (.invokestatic 53, 3) := by decide +kernel
theorem dX7_production_37 : decode cX7_production 37 = .ok (.ifCond .eq 12, 3) := by decide +kernel
theorem dX7_production_40 : decode cX7_production 40 = .ok (.aload_n 0, 1) := by decide +kernel
theorem dX7_production_41 : decode cX7_production 41 = .ok (.getfield 44, 3) := by decide +kernel
theorem dX7_production_44 : decode cX7_production 44 = .ok (.iload_n 2, 1) := by decide +kernel
theorem dX7_production_45 : decode cX7_production 45 = .ok (.iaload, 1) := by decide +kernel
theorem dX7_production_46 : decode cX7_production 46 = .ok (.goto 5, 3) := by decide +kernel
theorem dX7_production_49 : decode cX7_production 49 = .ok (.bipush (-9), 2) := by decide +kernel
theorem dX7_production_51 : decode cX7_production 51 = .ok (.ireturn, 1) := by decide +kernel
theorem dX7_letterAt_0 : decode cX7_letterAt 0 = .ok (.aload_n 0, 1) := by decide +kernel
theorem dX7_letterAt_1 : decode cX7_letterAt 1 = .ok (.getfield 34, 3) := by decide +kernel
theorem dX7_letterAt_4 : decode cX7_letterAt 4 = .ok (.aload_n 0, 1) := by decide +kernel
theorem dX7_letterAt_5 : decode cX7_letterAt 5 = .ok (.getfield 123, 3) := by decide +kernel
theorem dX7_letterAt_8 : decode cX7_letterAt 8 = .ok (.iload_n 1, 1) := by decide +kernel
theorem dX7_letterAt_9 : decode cX7_letterAt 9 = .ok (.iadd, 1) := by decide +kernel
theorem dX7_letterAt_10 : decode cX7_letterAt 10 = .ok (.sipush 700, 3) := by decide +kernel
theorem dX7_letterAt_13 : decode cX7_letterAt 13 = .ok (.irem, 1) := by decide +kernel
theorem dX7_letterAt_14 : decode cX7_letterAt 14 = .ok (.iaload, 1) := by decide +kernel
theorem dX7_letterAt_15 : decode cX7_letterAt 15 = .ok (.ireturn, 1) := by decide +kernel
theorem dX7_puts_0 : decode cX7_puts 0 = .ok (.aload_n 0, 1) := by decide +kernel
theorem dX7_puts_1 : decode cX7_puts 1 = .ok (.getfield 34, 3) := by decide +kernel
theorem dX7_puts_4 : decode cX7_puts 4 = .ok (.aload_n 0, 1) := by decide +kernel
theorem dX7_puts_5 : decode cX7_puts 5 = .ok (.getfield 123, 3) := by decide +kernel
theorem dX7_puts_8 : decode cX7_puts 8 = .ok (.aload_n 0, 1) := by decide +kernel
theorem dX7_puts_9 : decode cX7_puts 9 = .ok (.getfield 126, 3) := by decide +kernel
theorem dX7_puts_12 : decode cX7_puts 12 = .ok (.iadd, 1) := by decide +kernel
theorem dX7_puts_13 : decode cX7_puts 13 = .ok (.sipush 700, 3) := by decide +kernel
theorem dX7_puts_16 : decode cX7_puts 16 = .ok (.irem, 1) := by decide +kernel
theorem dX7_puts_17 : decode cX7_puts 17 = .ok (.iload_n 1, 1) := by decide +kernel
theorem dX7_puts_18 : decode cX7_puts 18 = .ok (.iastore, 1) := by decide +kernel
theorem dX7_puts_19 : decode cX7_puts 19 = .ok (.aload_n 0, 1) := by decide +kernel
theorem dX7_puts_20 : decode cX7_puts 20 = .ok (.dup, 1) := by decide +kernel
theorem dX7_puts_21 : decode cX7_puts 21 = .ok (.getfield 126, 3) := by decide +kernel
theorem dX7_puts_24 : decode cX7_puts 24 = .ok (.iconst 1, 1) := by decide +kernel
theorem dX7_puts_25 : decode cX7_puts 25 = .ok (.iadd, 1) := by decide +kernel
theorem dX7_puts_26 : decode cX7_puts 26 = .ok (.putfield 126, 3) := by decide +kernel
theorem dX7_puts_29 : decode cX7_puts 29 = .ok (.return_, 1) := by decide +kernel
set_option maxRecDepth 20000 in
theorem ggX7_lay_X7_of : GoodIn wsX7_lay wsX7_of := goodIn_r _ [11] (by decide +kernel) (by decide +kernel)
set_option maxRecDepth 20000 in
theorem gX7_lay_X7_of : GoodIn wsX7_lay (va_wsS RX7 103 yX7_of wsX7_of) := goodIn_app (goodIn_of _ (by decide +kernel)) ggX7_lay_X7_of
set_option maxRecDepth 20000 in
theorem ggX7_lay_X7_puts : GoodIn wsX7_lay wsX7_puts := goodIn_r _ [15, 16, 6, 7, 17, 18, 19, 20, 21, 22, 23, 24, 25, 26, 27, 28, 29, 30, 31, 32, 33, 34, 35, 36, 37, 38, 39, 40, 41, 42, 43, 44, 45] (by decide +kernel) (by decide +kernel)
set_option maxRecDepth 20000 in
theorem gX7_lay_X7_puts : GoodIn wsX7_lay (wsV RX7 129 RX7 yX7_puts wsX7_puts) := goodIn_app (goodIn_of _ (by decide +kernel)) ggX7_lay_X7_puts
theorem dX7_lay_0 : decode cX7_lay 0 = .ok (.aload_n 0, 1) := by decide +kernel
theorem dX7_lay_1 : decode cX7_lay 1 = .ok (.iconst 0, 1) := by decide +kernel
theorem dX7_lay_2 : decode cX7_lay 2 = .ok (.putfield 47, 3) := by decide +kernel
theorem dX7_lay_5 : decode cX7_lay 5 = .ok (.iconst 4, 1) := by decide +kernel
theorem dX7_lay_6 : decode cX7_lay 6 = .ok (.iconst 2, 1) := by decide +kernel
theorem dX7_lay_7 : decode cX7_lay 7 = .ok (.aload_n 0, 1) := by decide +kernel
theorem dX7_lay_8 : decode cX7_lay 8 = .ok (.getfield 87, 3) := by decide +kernel
theorem dX7_lay_11 : decode cX7_lay 11 = .ok (.aload_n 0, 1) := by decide +kernel
theorem dX7_lay_12 : decode cX7_lay 12 = .ok (.getfield 90, 3) := by decide +kernel
theorem dX7_lay_15 : decode cX7_lay 15 = .ok (.iadd, 1) := by decide +kernel
theorem dX7_lay_16 : decode cX7_lay 16 = .ok (.imul, 1) := by decide +kernel
theorem dX7_lay_17 : decode cX7_lay 17 = .ok (.iadd, 1) := by decide +kernel
theorem dX7_lay_18 : decode cX7_lay 18 = .ok (.sipush 600, 3) := by decide +kernel
theorem dX7_lay_21 : decode cX7_lay 21 = .ok (.if_icmp .le 6, 3) := by decide +kernel
theorem dX7_lay_24 : decode cX7_lay 24 = .ok (.bipush (-3), 2) := by decide +kernel
theorem dX7_lay_26 : decode cX7_lay 26 = .ok (.ireturn, 1) := by decide +kernel
theorem dX7_lay_27 : decode cX7_lay 27 = .ok (.iconst 2, 1) := by decide +kernel
theorem dX7_lay_28 : decode cX7_lay 28 = .ok (.aload_n 0, 1) := by decide +kernel
theorem dX7_lay_29 : decode cX7_lay 29 = .ok (.getfield 81, 3) := by decide +kernel
theorem dX7_lay_32 : decode cX7_lay 32 = .ok (.imul, 1) := by decide +kernel
theorem dX7_lay_33 : decode cX7_lay 33 = .ok (.aload_n 0, 1) := by decide +kernel
theorem dX7_lay_34 : decode cX7_lay 34 = .ok (.getfield 84, 3) := by decide +kernel
theorem dX7_lay_37 : decode cX7_lay 37 = .ok (.iadd, 1) := by decide +kernel
theorem dX7_lay_38 : decode cX7_lay 38 = .ok (.istore_n 1, 1) := by decide +kernel
theorem dX7_lay_39 : decode cX7_lay 39 = .ok (.aload_n 0, 1) := by decide +kernel
theorem dX7_lay_40 : decode cX7_lay 40 = .ok (.iconst 0, 1) := by decide +kernel
theorem dX7_lay_41 : decode cX7_lay 41 = .ok (.putfield 123, 3) := by decide +kernel
theorem dX7_lay_44 : decode cX7_lay 44 = .ok (.aload_n 0, 1) := by decide +kernel
theorem dX7_lay_45 : decode cX7_lay 45 = .ok (.iconst 0, 1) := by decide +kernel
theorem dX7_lay_46 : decode cX7_lay 46 = .ok (.putfield 126, 3) := by decide +kernel
theorem dX7_lay_49 : decode cX7_lay 49 = .ok (.aload_n 0, 1) := by decide +kernel
theorem dX7_lay_50 : decode cX7_lay 50 = .ok (.iload_n 1, 1) := by decide +kernel
theorem dX7_lay_51 : decode cX7_lay 51 = .ok (.iconst 0, 1) := by decide +kernel
theorem dX7_lay_52 : decode cX7_lay 52 = .ok (.invokestatic 103, 3) := by decide +kernel
theorem dX7_lay_55 : decode cX7_lay 55 = .ok (.invokevirtual 129, 3) := by decide +kernel
theorem dX7_lay_58 : decode cX7_lay 58 = .ok (.aload_n 0, 1) := by decide +kernel
theorem dX7_lay_59 : decode cX7_lay 59 = .ok (.iconst 0, 1) := by decide +kernel
theorem dX7_lay_60 : decode cX7_lay 60 = .ok (.invokevirtual 129, 3) := by decide +kernel
theorem dX7_lay_63 : decode cX7_lay 63 = .ok (.iconst 0, 1) := by decide +kernel
theorem dX7_lay_64 : decode cX7_lay 64 = .ok (.istore_n 2, 1) := by decide +kernel
theorem dX7_lay_65 : decode cX7_lay 65 = .ok (.iload_n 2, 1) := by decide +kernel
theorem dX7_lay_66 : decode cX7_lay 66 = .ok (.aload_n 0, 1) := by decide +kernel
theorem dX7_lay_67 : decode cX7_lay 67 = .ok (.getfield 87, 3) := by decide +kernel
theorem dX7_lay_70 : decode cX7_lay 70 = .ok (.if_icmp .ge 23, 3) := by decide +kernel
theorem dX7_lay_73 : decode cX7_lay 73 = .ok (.aload_n 0, 1) := by decide +kernel
theorem dX7_lay_74 : decode cX7_lay 74 = .ok (.iload_n 1, 1) := by decide +kernel
theorem dX7_lay_75 : decode cX7_lay 75 = .ok (.iconst 1, 1) := by decide +kernel
theorem dX7_lay_76 : decode cX7_lay 76 = .ok (.invokestatic 103, 3) := by decide +kernel
theorem dX7_lay_79 : decode cX7_lay 79 = .ok (.invokevirtual 129, 3) := by decide +kernel
theorem dX7_lay_82 : decode cX7_lay 82 = .ok (.aload_n 0, 1) := by decide +kernel
theorem dX7_lay_83 : decode cX7_lay 83 = .ok (.iconst 0, 1) := by decide +kernel
theorem dX7_lay_84 : decode cX7_lay 84 = .ok (.invokevirtual 129, 3) := by decide +kernel
theorem dX7_lay_87 : decode cX7_lay 87 = .ok (.iinc 2 1, 3) := by decide +kernel
theorem dX7_lay_90 : decode cX7_lay 90 = .ok (.goto (-25), 3) := by decide +kernel
theorem dX7_lay_93 : decode cX7_lay 93 = .ok (.aload_n 0, 1) := by decide +kernel
theorem dX7_lay_94 : decode cX7_lay 94 = .ok (.iload_n 1, 1) := by decide +kernel
theorem dX7_lay_95 : decode cX7_lay 95 = .ok (.iconst 4, 1) := by decide +kernel
theorem dX7_lay_96 : decode cX7_lay 96 = .ok (.invokestatic 103, 3) := by decide +kernel
theorem dX7_lay_99 : decode cX7_lay 99 = .ok (.invokevirtual 129, 3) := by decide +kernel
theorem dX7_lay_102 : decode cX7_lay 102 = .ok (.aload_n 0, 1) := by decide +kernel
theorem dX7_lay_103 : decode cX7_lay 103 = .ok (.iconst 0, 1) := by decide +kernel
theorem dX7_lay_104 : decode cX7_lay 104 = .ok (.invokevirtual 129, 3) := by decide +kernel
theorem dX7_lay_107 : decode cX7_lay 107 = .ok (.iconst 0, 1) := by decide +kernel
theorem dX7_lay_108 : decode cX7_lay 108 = .ok (.istore_n 2, 1) := by decide +kernel
theorem dX7_lay_109 : decode cX7_lay 109 = .ok (.iload_n 2, 1) := by decide +kernel
theorem dX7_lay_110 : decode cX7_lay 110 = .ok (.aload_n 0, 1) := by decide +kernel
theorem dX7_lay_111 : decode cX7_lay 111 = .ok (.getfield 90, 3) := by decide +kernel
theorem dX7_lay_114 : decode cX7_lay 114 = .ok (.if_icmp .ge 23, 3) := by decide +kernel
theorem dX7_lay_117 : decode cX7_lay 117 = .ok (.aload_n 0, 1) := by decide +kernel
theorem dX7_lay_118 : decode cX7_lay 118 = .ok (.iload_n 1, 1) := by decide +kernel
theorem dX7_lay_119 : decode cX7_lay 119 = .ok (.iconst 5, 1) := by decide +kernel
theorem dX7_lay_120 : decode cX7_lay 120 = .ok (.invokestatic 103, 3) := by decide +kernel
theorem dX7_lay_123 : decode cX7_lay 123 = .ok (.invokevirtual 129, 3) := by decide +kernel
theorem dX7_lay_126 : decode cX7_lay 126 = .ok (.aload_n 0, 1) := by decide +kernel
theorem dX7_lay_127 : decode cX7_lay 127 = .ok (.iconst 0, 1) := by decide +kernel
theorem dX7_lay_128 : decode cX7_lay 128 = .ok (.invokevirtual 129, 3) := by decide +kernel
theorem dX7_lay_131 : decode cX7_lay 131 = .ok (.iinc 2 1, 3) := by decide +kernel
theorem dX7_lay_134 : decode cX7_lay 134 = .ok (.goto (-25), 3) := by decide +kernel
theorem dX7_lay_137 : decode cX7_lay 137 = .ok (.aload_n 0, 1) := by decide +kernel
theorem dX7_lay_138 : decode cX7_lay 138 = .ok (.getfield 126, 3) := by decide +kernel
theorem dX7_lay_141 : decode cX7_lay 141 = .ok (.ireturn, 1) := by decide +kernel
set_option maxRecDepth 20000 in
theorem ggX7_add_X7_in : GoodIn wsX7_add wsX7_in := goodIn_r _ [7] (by decide +kernel) (by decide +kernel)
set_option maxRecDepth 20000 in
theorem gX7_add_X7_in : GoodIn wsX7_add (va_wsS RX7 53 yX7_in wsX7_in) := goodIn_app (goodIn_of _ (by decide +kernel)) ggX7_add_X7_in
set_option maxRecDepth 20000 in
theorem ggX7_add_X7_puts : GoodIn wsX7_add wsX7_puts := goodIn_r _ [11, 12, 13, 3, 14, 15, 16, 17, 18, 19, 20, 21, 22, 23, 24, 25, 26, 27, 28, 29, 30, 31, 32, 33, 34, 35, 36, 37, 38, 39, 40, 41, 42] (by decide +kernel) (by decide +kernel)
set_option maxRecDepth 20000 in
theorem gX7_add_X7_puts : GoodIn wsX7_add (wsV RX7 129 RX7 yX7_puts wsX7_puts) := goodIn_app (goodIn_of _ (by decide +kernel)) ggX7_add_X7_puts
theorem dX7_add_0 : decode cX7_add 0 = .ok (.aload_n 0, 1) := by decide +kernel
theorem dX7_add_1 : decode cX7_add 1 = .ok (.iconst 0, 1) := by decide +kernel
theorem dX7_add_2 : decode cX7_add 2 = .ok (.putfield 47, 3) := by decide +kernel
theorem dX7_add_5 : decode cX7_add 5 = .ok (.iload_n 1, 1) := by decide +kernel
theorem dX7_add_6 : decode cX7_add 6 = .ok (.i2l, 1) := by decide +kernel
theorem dX7_add_7 : decode cX7_add 7 = .ok (.lconst 0, 1) := by decide +kernel
theorem dX7_add_8 : decode cX7_add 8 = .ok (.ldc2_w 118, 3) := by decide +kernel
theorem dX7_add_11 : decode cX7_add 11 = .ok (.invokestatic 53, 3) := by decide +kernel
theorem dX7_add_14 : decode cX7_add 14 = .ok (.ifCond .ne 5, 3) := by decide +kernel
theorem dX7_add_17 : decode cX7_add 17 = .ok (.iconst (-1), 1) := by decide +kernel
theorem dX7_add_18 : decode cX7_add 18 = .ok (.ireturn, 1) := by decide +kernel
theorem dX7_add_19 : decode cX7_add 19 = .ok (.aload_n 0, 1) := by decide +kernel
theorem dX7_add_20 : decode cX7_add 20 = .ok (.getfield 126, 3) := by decide +kernel
theorem dX7_add_23 : decode cX7_add 23 = .ok (.sipush 600, 3) := by decide +kernel
theorem dX7_add_26 : decode cX7_add 26 = .ok (.if_icmp .ne 6, 3) := by decide +kernel
theorem dX7_add_29 : decode cX7_add 29 = .ok (.bipush (-3), 2) := by decide +kernel
theorem dX7_add_31 : decode cX7_add 31 = .ok (.ireturn, 1) := by decide +kernel
theorem dX7_add_32 : decode cX7_add 32 = .ok (.aload_n 0, 1) := by decide +kernel
theorem dX7_add_33 : decode cX7_add 33 = .ok (.iload_n 1, 1) := by decide +kernel
theorem dX7_add_34 : decode cX7_add 34 = .ok (.invokevirtual 129, 3) := by decide +kernel
theorem dX7_add_37 : decode cX7_add 37 = .ok (.aload_n 0, 1) := by decide +kernel
theorem dX7_add_38 : decode cX7_add 38 = .ok (.getfield 126, 3) := by decide +kernel
theorem dX7_add_41 : decode cX7_add 41 = .ok (.ireturn, 1) := by decide +kernel
theorem dX7_clear_0 : decode cX7_clear 0 = .ok (.aload_n 0, 1) := by decide +kernel
theorem dX7_clear_1 : decode cX7_clear 1 = .ok (.iconst 0, 1) := by decide +kernel
theorem dX7_clear_2 : decode cX7_clear 2 = .ok (.putfield 47, 3) := by decide +kernel
theorem dX7_clear_5 : decode cX7_clear 5 = .ok (.aload_n 0, 1) := by decide +kernel
theorem dX7_clear_6 : decode cX7_clear 6 = .ok (.getfield 126, 3) := by decide +kernel
theorem dX7_clear_9 : decode cX7_clear 9 = .ok (.istore_n 1, 1) := by decide +kernel
theorem dX7_clear_10 : decode cX7_clear 10 = .ok (.aload_n 0, 1) := by decide +kernel
theorem dX7_clear_11 : decode cX7_clear 11 = .ok (.iconst 0, 1) := by decide +kernel
theorem dX7_clear_12 : decode cX7_clear 12 = .ok (.putfield 126, 3) := by decide +kernel
theorem dX7_clear_15 : decode cX7_clear 15 = .ok (.iload_n 1, 1) := by decide +kernel
theorem dX7_clear_16 : decode cX7_clear 16 = .ok (.ireturn, 1) := by decide +kernel
set_option maxRecDepth 20000 in
theorem ggX7_letter_X7_in : GoodIn wsX7_letter wsX7_in := goodIn_r _ [6] (by decide +kernel) (by decide +kernel)
set_option maxRecDepth 20000 in
theorem gX7_letter_X7_in : GoodIn wsX7_letter (va_wsS RX7 53 yX7_in wsX7_in) := goodIn_app (goodIn_of _ (by decide +kernel)) ggX7_letter_X7_in
set_option maxRecDepth 20000 in
theorem ggX7_letter_X7_letterAt : GoodIn wsX7_letter wsX7_letterAt := goodIn_r _ [10, 11, 12, 13, 14, 15, 16, 17, 18, 19, 20, 21, 22, 23, 24, 25, 26, 27, 28, 29, 30, 31, 32, 33, 34, 35, 36, 37, 38, 39, 40, 41] (by decide +kernel) (by decide +kernel)
set_option maxRecDepth 20000 in
theorem gX7_letter_X7_letterAt : GoodIn wsX7_letter (wsV RX7 132 RX7 yX7_letterAt wsX7_letterAt) := goodIn_app (goodIn_of _ (by decide +kernel)) ggX7_letter_X7_letterAt
theorem dX7_letter_0 : decode cX7_letter 0 = .ok (.aload_n 0, 1) := by decide +kernel
theorem dX7_letter_1 : decode cX7_letter 1 = .ok (.iconst 0, 1) := by decide +kernel
theorem dX7_letter_2 : decode cX7_letter 2 = .ok (.putfield 47, 3) := by decide +kernel
theorem dX7_letter_5 : decode cX7_letter 5 = .ok (.iload_n 1, 1) := by decide +kernel
theorem dX7_letter_6 : decode cX7_letter 6 = .ok (.i2l, 1) := by decide +kernel
theorem dX7_letter_7 : decode cX7_letter 7 = .ok (.lconst 0, 1) := by decide +kernel
theorem dX7_letter_8 : decode cX7_letter 8 = .ok (.aload_n 0, 1) := by decide +kernel
theorem dX7_letter_9 : decode cX7_letter 9 = .ok (.getfield 126, 3) := by decide +kernel
theorem dX7_letter_12 : decode cX7_letter 12 = .ok (.iconst 1, 1) := by decide +kernel
theorem dX7_letter_13 : decode cX7_letter 13 = .ok (.isub, 1) := by decide +kernel
theorem dX7_letter_14 : decode cX7_letter 14 = .ok (.i2l, 1) := by decide +kernel
theorem dX7_letter_15 : decode cX7_letter 15 = .ok (.invokestatic 53, 3) := by decide +kernel
theorem dX7_letter_18 : decode cX7_letter 18 = .ok (.ifCond .eq 11, 3) := by decide +kernel
theorem dX7_letter_21 : decode cX7_letter 21 = .ok (.aload_n 0, 1) := by decide +kernel
theorem dX7_letter_22 : decode cX7_letter 22 = .ok (.iload_n 1, 1) := by decide +kernel
theorem dX7_letter_23 : decode cX7_letter 23 = .ok (.invokevirtual 132, 3) := by decide +kernel
theorem dX7_letter_26 : decode cX7_letter 26 = .ok (.goto 5, 3) := by decide +kernel
theorem dX7_letter_29 : decode cX7_letter 29 = .ok (.bipush (-9), 2) := by decide +kernel
theorem dX7_letter_31 : decode cX7_letter 31 = .ok (.ireturn, 1) := by decide +kernel
theorem dX7_length_0 : decode cX7_length 0 = .ok (.aload_n 0, 1) := by decide +kernel
theorem dX7_length_1 : decode cX7_length 1 = .ok (.iconst 0, 1) := by decide +kernel
theorem dX7_length_2 : decode cX7_length 2 = .ok (.putfield 47, 3) := by decide +kernel
theorem dX7_length_5 : decode cX7_length 5 = .ok (.aload_n 0, 1) := by decide +kernel
theorem dX7_length_6 : decode cX7_length 6 = .ok (.getfield 126, 3) := by decide +kernel
theorem dX7_length_9 : decode cX7_length 9 = .ok (.ireturn, 1) := by decide +kernel
set_option maxRecDepth 20000 in
theorem ggX7_tags_X7_letterAt : GoodIn wsX7_tags wsX7_letterAt := goodIn_r _ [9, 10, 3, 41, 42, 43, 44, 45, 46, 47, 48, 49, 50, 51, 52, 53, 54, 55, 56, 57, 58, 59, 60, 61, 62, 63, 64, 65, 66, 67, 68, 69] (by decide +kernel) (by decide +kernel)
set_option maxRecDepth 20000 in
theorem gX7_tags_X7_letterAt : GoodIn wsX7_tags (wsV RX7 132 RX7 yX7_letterAt wsX7_letterAt) := goodIn_app (goodIn_of _ (by decide +kernel)) ggX7_tags_X7_letterAt
set_option maxRecDepth 20000 in
theorem ggX7_tags_X7_produce : GoodIn wsX7_tags wsX7_produce := goodIn_r _ [14, 2, 15, 16, 17, 18, 8, 19, 20, 21, 22, 23, 24, 25, 26, 27, 4, 28, 29, 30, 31, 32, 33, 34, 35, 36, 41, 42, 43, 44, 45, 46, 47, 48, 49, 50, 51, 52, 53, 54, 55, 56, 57, 58, 59, 60, 61, 62, 63, 64, 65, 66, 67, 68, 69] (by decide +kernel) (by decide +kernel)
set_option maxRecDepth 20000 in
theorem gX7_tags_X7_produce : GoodIn wsX7_tags (wsV RX7 120 RX7 yX7_produce wsX7_produce) := goodIn_app (goodIn_of _ (by decide +kernel)) ggX7_tags_X7_produce
set_option maxRecDepth 20000 in
theorem ggX7_tags_X7_puts : GoodIn wsX7_tags wsX7_puts := goodIn_r _ [40, 10, 3, 1, 41, 42, 43, 44, 45, 46, 47, 48, 49, 50, 51, 52, 53, 54, 55, 56, 57, 58, 59, 60, 61, 62, 63, 64, 65, 66, 67, 68, 69] (by decide +kernel) (by decide +kernel)
set_option maxRecDepth 20000 in
theorem gX7_tags_X7_puts : GoodIn wsX7_tags (wsV RX7 129 RX7 yX7_puts wsX7_puts) := goodIn_app (goodIn_of _ (by decide +kernel)) ggX7_tags_X7_puts
theorem dX7_tags_0 : decode cX7_tags 0 = .ok (.aload_n 0, 1) := by decide +kernel
theorem dX7_tags_1 : decode cX7_tags 1 = .ok (.getfield 126, 3) := by decide +kernel
theorem dX7_tags_4 : decode cX7_tags 4 = .ok (.iconst 2, 1) := by decide +kernel
theorem dX7_tags_5 : decode cX7_tags 5 = .ok (.if_icmp .ge 5, 3) := by decide +kernel
theorem dX7_tags_8 : decode cX7_tags 8 = .ok (.iconst 0, 1) := by decide +kernel
theorem dX7_tags_9 : decode cX7_tags 9 = .ok (.ireturn, 1) := by decide +kernel
theorem dX7_tags_10 : decode cX7_tags 10 = .ok (.aload_n 0, 1) := by decide +kernel
theorem dX7_tags_11 : decode cX7_tags 11 = .ok (.aload_n 0, 1) := by decide +kernel
theorem dX7_tags_12 : decode cX7_tags 12 = .ok (.iconst 0, 1) := by decide +kernel
theorem dX7_tags_13 : decode cX7_tags 13 = .ok (.invokevirtual 132, 3) := by decide +kernel
theorem dX7_tags_16 : decode cX7_tags 16 = .ok (.invokevirtual 120, 3) := by decide +kernel
theorem dX7_tags_19 : decode cX7_tags 19 = .ok (.aload_n 0, 1) := by decide +kernel
theorem dX7_tags_20 : decode cX7_tags 20 = .ok (.getfield 97, 3) := by decide +kernel
theorem dX7_tags_23 : decode cX7_tags 23 = .ok (.ifCond .eq 20, 3) := by decide +kernel
theorem dX7_tags_26 : decode cX7_tags 26 = .ok (.aload_n 0, 1) := by decide +kernel
theorem dX7_tags_27 : decode cX7_tags 27 = .ok (.getfield 126, 3) := by decide +kernel
theorem dX7_tags_30 : decode cX7_tags 30 = .ok (.iconst 2, 1) := by decide +kernel
theorem dX7_tags_31 : decode cX7_tags 31 = .ok (.isub, 1) := by decide +kernel
theorem dX7_tags_32 : decode cX7_tags 32 = .ok (.aload_n 0, 1) := by decide +kernel
theorem dX7_tags_33 : decode cX7_tags 33 = .ok (.getfield 97, 3) := by decide +kernel
theorem dX7_tags_36 : decode cX7_tags 36 = .ok (.iadd, 1) := by decide +kernel
theorem dX7_tags_37 : decode cX7_tags 37 = .ok (.sipush 600, 3) := by decide +kernel
theorem dX7_tags_40 : decode cX7_tags 40 = .ok (.if_icmp .le 5, 3) := by decide +kernel
theorem dX7_tags_43 : decode cX7_tags 43 = .ok (.iconst 0, 1) := by decide +kernel
theorem dX7_tags_44 : decode cX7_tags 44 = .ok (.ireturn, 1) := by decide +kernel
theorem dX7_tags_45 : decode cX7_tags 45 = .ok (.aload_n 0, 1) := by decide +kernel
theorem dX7_tags_46 : decode cX7_tags 46 = .ok (.aload_n 0, 1) := by decide +kernel
theorem dX7_tags_47 : decode cX7_tags 47 = .ok (.getfield 123, 3) := by decide +kernel
theorem dX7_tags_50 : decode cX7_tags 50 = .ok (.iconst 2, 1) := by decide +kernel
theorem dX7_tags_51 : decode cX7_tags 51 = .ok (.iadd, 1) := by decide +kernel
theorem dX7_tags_52 : decode cX7_tags 52 = .ok (.sipush 700, 3) := by decide +kernel
theorem dX7_tags_55 : decode cX7_tags 55 = .ok (.irem, 1) := by decide +kernel
theorem dX7_tags_56 : decode cX7_tags 56 = .ok (.putfield 123, 3) := by decide +kernel
theorem dX7_tags_59 : decode cX7_tags 59 = .ok (.aload_n 0, 1) := by decide +kernel
theorem dX7_tags_60 : decode cX7_tags 60 = .ok (.dup, 1) := by decide +kernel
theorem dX7_tags_61 : decode cX7_tags 61 = .ok (.getfield 126, 3) := by decide +kernel
theorem dX7_tags_64 : decode cX7_tags 64 = .ok (.iconst 2, 1) := by decide +kernel
theorem dX7_tags_65 : decode cX7_tags 65 = .ok (.isub, 1) := by decide +kernel
theorem dX7_tags_66 : decode cX7_tags 66 = .ok (.putfield 126, 3) := by decide +kernel
theorem dX7_tags_69 : decode cX7_tags 69 = .ok (.iconst 0, 1) := by decide +kernel
theorem dX7_tags_70 : decode cX7_tags 70 = .ok (.istore_n 1, 1) := by decide +kernel
theorem dX7_tags_71 : decode cX7_tags 71 = .ok (.iload_n 1, 1) := by decide +kernel
theorem dX7_tags_72 : decode cX7_tags 72 = .ok (.aload_n 0, 1) := by decide +kernel
theorem dX7_tags_73 : decode cX7_tags 73 = .ok (.getfield 97, 3) := by decide +kernel
theorem dX7_tags_76 : decode cX7_tags 76 = .ok (.if_icmp .ge 19, 3) := by decide +kernel
theorem dX7_tags_79 : decode cX7_tags 79 = .ok (.aload_n 0, 1) := by decide +kernel
theorem dX7_tags_80 : decode cX7_tags 80 = .ok (.aload_n 0, 1) := by decide +kernel
theorem dX7_tags_81 : decode cX7_tags 81 = .ok (.getfield 44, 3) := by decide +kernel
theorem dX7_tags_84 : decode cX7_tags 84 = .ok (.iload_n 1, 1) := by decide +kernel
theorem dX7_tags_85 : decode cX7_tags 85 = .ok (.iaload, 1) := by decide +kernel
theorem dX7_tags_86 : decode cX7_tags 86 = .ok (.invokevirtual 129, 3) := by decide +kernel
theorem dX7_tags_89 : decode cX7_tags 89 = .ok (.iinc 1 1, 3) := by decide +kernel
theorem dX7_tags_92 : decode cX7_tags 92 = .ok (.goto (-21), 3) := by decide +kernel
theorem dX7_tags_95 : decode cX7_tags 95 = .ok (.iconst 1, 1) := by decide +kernel
theorem dX7_tags_96 : decode cX7_tags 96 = .ok (.ireturn, 1) := by decide +kernel
set_option maxRecDepth 20000 in
theorem ggX7_tag_X7_in : GoodIn wsX7_tag wsX7_in := goodIn_r _ [6] (by decide +kernel) (by decide +kernel)
set_option maxRecDepth 20000 in
theorem gX7_tag_X7_in : GoodIn wsX7_tag (va_wsS RX7 53 yX7_in wsX7_in) := goodIn_app (goodIn_of _ (by decide +kernel)) ggX7_tag_X7_in
set_option maxRecDepth 20000 in
theorem ggX7_tag_X7_tags : GoodIn wsX7_tag wsX7_tags := goodIn_r _ [10, 11, 12, 13, 14, 15, 16, 17, 5, 18, 19, 20, 21, 22, 23, 24, 25, 26, 27, 28, 29, 30, 31, 32, 33, 34, 35, 36, 37, 38, 39, 40, 41, 42, 43, 44, 45, 46, 47, 48, 49, 50, 51, 52, 53, 54, 55, 56, 57, 58, 59, 60, 61, 62, 63, 64, 65, 66, 67, 68, 69, 70, 71, 72, 73, 74, 75, 76, 77, 78] (by decide +kernel) (by decide +kernel)
set_option maxRecDepth 20000 in
theorem gX7_tag_X7_tags : GoodIn wsX7_tag (wsV RX7 138 RX7 yX7_tags wsX7_tags) := goodIn_app (goodIn_of _ (by decide +kernel)) ggX7_tag_X7_tags
theorem dX7_tag_0 : decode cX7_tag 0 = .ok (.aload_n 0, 1) := by decide +kernel
theorem dX7_tag_1 : decode cX7_tag 1 = .ok (.iconst 0, 1) := by decide +kernel
theorem dX7_tag_2 : decode cX7_tag 2 = .ok (.putfield 47, 3) := by decide +kernel
theorem dX7_tag_5 : decode cX7_tag 5 = .ok (.iload_n 1, 1) := by decide +kernel
theorem dX7_tag_6 : decode cX7_tag 6 = .ok (.i2l, 1) := by decide +kernel
theorem dX7_tag_7 : decode cX7_tag 7 = .ok (.lconst 1, 1) := by decide +kernel
theorem dX7_tag_8 : decode cX7_tag 8 = .ok (.ldc2_w 136, 3) := by decide +kernel
theorem dX7_tag_11 : decode cX7_tag 11 = .ok (.invokestatic 53, 3) := by decide +kernel
theorem dX7_tag_14 : decode cX7_tag 14 = .ok (.ifCond .ne 5, 3) := by decide +kernel
theorem dX7_tag_17 : decode cX7_tag 17 = .ok (.iconst (-1), 1) := by decide +kernel
theorem dX7_tag_18 : decode cX7_tag 18 = .ok (.ireturn, 1) := by decide +kernel
theorem dX7_tag_19 : decode cX7_tag 19 = .ok (.iconst 0, 1) := by decide +kernel
theorem dX7_tag_20 : decode cX7_tag 20 = .ok (.istore_n 2, 1) := by decide +kernel
theorem dX7_tag_21 : decode cX7_tag 21 = .ok (.iload_n 2, 1) := by decide +kernel
theorem dX7_tag_22 : decode cX7_tag 22 = .ok (.iload_n 1, 1) := by decide +kernel
theorem dX7_tag_23 : decode cX7_tag 23 = .ok (.if_icmp .ge 16, 3) := by decide +kernel
theorem dX7_tag_26 : decode cX7_tag 26 = .ok (.aload_n 0, 1) := by decide +kernel
theorem dX7_tag_27 : decode cX7_tag 27 = .ok (.invokevirtual 138, 3) := by decide +kernel
theorem dX7_tag_30 : decode cX7_tag 30 = .ok (.ifCond .eq 9, 3) := by decide +kernel
theorem dX7_tag_33 : decode cX7_tag 33 = .ok (.iinc 2 1, 3) := by decide +kernel
theorem dX7_tag_36 : decode cX7_tag 36 = .ok (.goto (-15), 3) := by decide +kernel
theorem dX7_tag_39 : decode cX7_tag 39 = .ok (.iload_n 2, 1) := by decide +kernel
theorem dX7_tag_40 : decode cX7_tag 40 = .ok (.ireturn, 1) := by decide +kernel
set_option maxRecDepth 20000 in
theorem ggX7_tells_X7_letterAt : GoodIn wsX7_tells wsX7_letterAt := goodIn_r _ [9, 10, 11, 15, 16, 17, 18, 19, 20, 21, 22, 23, 24, 25, 26, 27, 28, 29, 30, 31, 32, 33, 34, 35, 36, 37, 38, 39, 40, 41, 42, 43] (by decide +kernel) (by decide +kernel)
set_option maxRecDepth 20000 in
theorem gX7_tells_X7_letterAt : GoodIn wsX7_tells (wsV RX7 132 RX7 yX7_letterAt wsX7_letterAt) := goodIn_app (goodIn_of _ (by decide +kernel)) ggX7_tells_X7_letterAt
set_option maxRecDepth 20000 in
theorem ggX7_tells_X7_of : GoodIn wsX7_tells wsX7_of := goodIn_r _ [14] (by decide +kernel) (by decide +kernel)
set_option maxRecDepth 20000 in
theorem gX7_tells_X7_of : GoodIn wsX7_tells (va_wsS RX7 103 yX7_of wsX7_of) := goodIn_app (goodIn_of _ (by decide +kernel)) ggX7_tells_X7_of
theorem dX7_tells_0 : decode cX7_tells 0 = .ok (.aload_n 0, 1) := by decide +kernel
theorem dX7_tells_1 : decode cX7_tells 1 = .ok (.getfield 126, 3) := by decide +kernel
theorem dX7_tells_4 : decode cX7_tells 4 = .ok (.iconst 4, 1) := by decide +kernel
theorem dX7_tells_5 : decode cX7_tells 5 = .ok (.if_icmp .lt 34, 3) := by decide +kernel
theorem dX7_tells_8 : decode cX7_tells 8 = .ok (.aload_n 0, 1) := by decide +kernel
theorem dX7_tells_9 : decode cX7_tells 9 = .ok (.getfield 126, 3) := by decide +kernel
theorem dX7_tells_12 : decode cX7_tells 12 = .ok (.iconst 2, 1) := by decide +kernel
theorem dX7_tells_13 : decode cX7_tells 13 = .ok (.irem, 1) := by decide +kernel
theorem dX7_tells_14 : decode cX7_tells 14 = .ok (.iconst 1, 1) := by decide +kernel
theorem dX7_tells_15 : decode cX7_tells 15 = .ok (.if_icmp .eq 24, 3) := by decide +kernel
theorem dX7_tells_18 : decode cX7_tells 18 = .ok (.aload_n 0, 1) := by decide +kernel
theorem dX7_tells_19 : decode cX7_tells 19 = .ok (.iconst 0, 1) := by decide +kernel
theorem dX7_tells_20 : decode cX7_tells 20 = .ok (.invokevirtual 132, 3) := by decide +kernel
theorem dX7_tells_23 : decode cX7_tells 23 = .ok (.ifCond .eq 16, 3) := by decide +kernel
theorem dX7_tells_26 : decode cX7_tells 26 = .ok (.aload_n 0, 1) := by decide +kernel
theorem dX7_tells_27 : decode cX7_tells 27 = .ok (.iconst 0, 1) := by decide +kernel
theorem dX7_tells_28 : decode cX7_tells 28 = .ok (.invokevirtual 132, 3) := by decide +kernel
theorem dX7_tells_31 : decode cX7_tells 31 = .ok (.iconst 1, 1) := by decide +kernel
theorem dX7_tells_32 : decode cX7_tells 32 = .ok (.isub, 1) := by decide +kernel
theorem dX7_tells_33 : decode cX7_tells 33 = .ok (.bipush 20, 2) := by decide +kernel
theorem dX7_tells_35 : decode cX7_tells 35 = .ok (.irem, 1) := by decide +kernel
theorem dX7_tells_36 : decode cX7_tells 36 = .ok (.ifCond .eq 5, 3) := by decide +kernel
theorem dX7_tells_39 : decode cX7_tells 39 = .ok (.iconst 0, 1) := by decide +kernel
theorem dX7_tells_40 : decode cX7_tells 40 = .ok (.ireturn, 1) := by decide +kernel
theorem dX7_tells_41 : decode cX7_tells 41 = .ok (.aload_n 0, 1) := by decide +kernel
theorem dX7_tells_42 : decode cX7_tells 42 = .ok (.aload_n 0, 1) := by decide +kernel
theorem dX7_tells_43 : decode cX7_tells 43 = .ok (.iconst 0, 1) := by decide +kernel
theorem dX7_tells_44 : decode cX7_tells 44 = .ok (.invokevirtual 132, 3) := by decide +kernel
theorem dX7_tells_47 : decode cX7_tells 47 = .ok (.iconst 1, 1) := by decide +kernel
theorem dX7_tells_48 : decode cX7_tells 48 = .ok (.isub, 1) := by decide +kernel
theorem dX7_tells_49 : decode cX7_tells 49 = .ok (.bipush 20, 2) := by decide +kernel
theorem dX7_tells_51 : decode cX7_tells 51 = .ok (.idiv, 1) := by decide +kernel
theorem dX7_tells_52 : decode cX7_tells 52 = .ok (.putfield 141, 3) := by decide +kernel
theorem dX7_tells_55 : decode cX7_tells 55 = .ok (.aload_n 0, 1) := by decide +kernel
theorem dX7_tells_56 : decode cX7_tells 56 = .ok (.iconst 0, 1) := by decide +kernel
theorem dX7_tells_57 : decode cX7_tells 57 = .ok (.putfield 144, 3) := by decide +kernel
theorem dX7_tells_60 : decode cX7_tells 60 = .ok (.aload_n 0, 1) := by decide +kernel
theorem dX7_tells_61 : decode cX7_tells 61 = .ok (.iconst 0, 1) := by decide +kernel
theorem dX7_tells_62 : decode cX7_tells 62 = .ok (.putfield 147, 3) := by decide +kernel
theorem dX7_tells_65 : decode cX7_tells 65 = .ok (.iconst 0, 1) := by decide +kernel
theorem dX7_tells_66 : decode cX7_tells 66 = .ok (.istore_n 1, 1) := by decide +kernel
theorem dX7_tells_67 : decode cX7_tells 67 = .ok (.iconst 0, 1) := by decide +kernel
theorem dX7_tells_68 : decode cX7_tells 68 = .ok (.istore_n 2, 1) := by decide +kernel
theorem dX7_tells_69 : decode cX7_tells 69 = .ok (.iload_n 2, 1) := by decide +kernel
theorem dX7_tells_70 : decode cX7_tells 70 = .ok (.aload_n 0, 1) := by decide +kernel
theorem dX7_tells_71 : decode cX7_tells 71 = .ok (.getfield 126, 3) := by decide +kernel
theorem dX7_tells_74 : decode cX7_tells 74 = .ok (.if_icmp .ge 121, 3) := by decide +kernel
theorem dX7_tells_77 : decode cX7_tells 77 = .ok (.aload_n 0, 1) := by decide +kernel
theorem dX7_tells_78 : decode cX7_tells 78 = .ok (.iload_n 2, 1) := by decide +kernel
theorem dX7_tells_79 : decode cX7_tells 79 = .ok (.invokevirtual 132, 3) := by decide +kernel
theorem dX7_tells_82 : decode cX7_tells 82 = .ok (.istore_n 3, 1) := by decide +kernel
theorem dX7_tells_83 : decode cX7_tells 83 = .ok (.aload_n 0, 1) := by decide +kernel
theorem dX7_tells_84 : decode cX7_tells 84 = .ok (.iload_n 2, 1) := by decide +kernel
theorem dX7_tells_85 : decode cX7_tells 85 = .ok (.iconst 1, 1) := by decide +kernel
theorem dX7_tells_86 : decode cX7_tells 86 = .ok (.iadd, 1) := by decide +kernel
theorem dX7_tells_87 : decode cX7_tells 87 = .ok (.invokevirtual 132, 3) := by decide +kernel
theorem dX7_tells_90 : decode cX7_tells 90 = .ok (.ifCond .eq 5, 3) := by decide +kernel
theorem dX7_tells_93 : decode cX7_tells 93 = .ok (.iconst 0, 1) := by decide +kernel
theorem dX7_tells_94 : decode cX7_tells 94 = .ok (.ireturn, 1) := by decide +kernel
theorem dX7_tells_95 : decode cX7_tells 95 = .ok (.iload_n 2, 1) := by decide +kernel
theorem dX7_tells_96 : decode cX7_tells 96 = .ok (.ifCond .le 24, 3) := by decide +kernel
theorem dX7_tells_99 : decode cX7_tells 99 = .ok (.iload_n 3, 1) := by decide +kernel
theorem dX7_tells_100 : decode cX7_tells 100 = .ok (.aload_n 0, 1) := by decide +kernel
theorem dX7_tells_101 : decode cX7_tells 101 = .ok (.getfield 141, 3) := by decide +kernel
theorem dX7_tells_104 : decode cX7_tells 104 = .ok (.iconst 4, 1) := by decide +kernel
theorem dX7_tells_105 : decode cX7_tells 105 = .ok (.invokestatic 103, 3) := by decide +kernel
theorem dX7_tells_108 : decode cX7_tells 108 = .ok (.if_icmp .ne 12, 3) := by decide +kernel
theorem dX7_tells_111 : decode cX7_tells 111 = .ok (.iload_n 1, 1) := by decide +kernel
theorem dX7_tells_112 : decode cX7_tells 112 = .ok (.ifCond .ne 8, 3) := by decide +kernel
theorem dX7_tells_115 : decode cX7_tells 115 = .ok (.iconst 1, 1) := by decide +kernel
theorem dX7_tells_116 : decode cX7_tells 116 = .ok (.istore_n 1, 1) := by decide +kernel
theorem dX7_tells_117 : decode cX7_tells 117 = .ok (.goto 72, 3) := by decide +kernel
theorem dX7_tells_120 : decode cX7_tells 120 = .ok (.iload_n 2, 1) := by decide +kernel
theorem dX7_tells_121 : decode cX7_tells 121 = .ok (.ifCond .le 62, 3) := by decide +kernel
theorem dX7_tells_124 : decode cX7_tells 124 = .ok (.iload_n 3, 1) := by decide +kernel
theorem dX7_tells_125 : decode cX7_tells 125 = .ok (.aload_n 0, 1) := by decide +kernel
theorem dX7_tells_126 : decode cX7_tells 126 = .ok (.getfield 141, 3) := by decide +kernel
theorem dX7_tells_129 : decode cX7_tells 129 = .ok (.iload_n 1, 1) := by decide +kernel
theorem dX7_tells_130 : decode cX7_tells 130 = .ok (.ifCond .eq 7, 3) := by decide +kernel
theorem dX7_tells_133 : decode cX7_tells 133 = .ok (.iconst 5, 1) := by decide +kernel
theorem dX7_tells_134 : decode cX7_tells 134 = .ok (.goto 4, 3) := by decide +kernel
theorem dX7_tells_137 : decode cX7_tells 137 = .ok (.iconst 1, 1) := by decide +kernel
theorem dX7_tells_138 : decode cX7_tells 138 = .ok (.invokestatic 103, 3) := by decide +kernel
theorem dX7_tells_141 : decode cX7_tells 141 = .ok (.if_icmp .ne 42, 3) := by decide +kernel
theorem dX7_tells_144 : decode cX7_tells 144 = .ok (.aload_n 0, 1) := by decide +kernel
theorem dX7_tells_145 : decode cX7_tells 145 = .ok (.dup, 1) := by decide +kernel
theorem dX7_tells_146 : decode cX7_tells 146 = .ok (.getfield 144, 3) := by decide +kernel
theorem dX7_tells_149 : decode cX7_tells 149 = .ok (.iload_n 1, 1) := by decide +kernel
theorem dX7_tells_150 : decode cX7_tells 150 = .ok (.ifCond .eq 7, 3) := by decide +kernel
theorem dX7_tells_153 : decode cX7_tells 153 = .ok (.iconst 0, 1) := by decide +kernel
theorem dX7_tells_154 : decode cX7_tells 154 = .ok (.goto 4, 3) := by decide +kernel
theorem dX7_tells_157 : decode cX7_tells 157 = .ok (.iconst 1, 1) := by decide +kernel
theorem dX7_tells_158 : decode cX7_tells 158 = .ok (.iadd, 1) := by decide +kernel
theorem dX7_tells_159 : decode cX7_tells 159 = .ok (.putfield 144, 3) := by decide +kernel
theorem dX7_tells_162 : decode cX7_tells 162 = .ok (.aload_n 0, 1) := by decide +kernel
theorem dX7_tells_163 : decode cX7_tells 163 = .ok (.dup, 1) := by decide +kernel
theorem dX7_tells_164 : decode cX7_tells 164 = .ok (.getfield 147, 3) := by decide +kernel
theorem dX7_tells_167 : decode cX7_tells 167 = .ok (.iload_n 1, 1) := by decide +kernel
theorem dX7_tells_168 : decode cX7_tells 168 = .ok (.ifCond .eq 7, 3) := by decide +kernel
theorem dX7_tells_171 : decode cX7_tells 171 = .ok (.iconst 1, 1) := by decide +kernel
theorem dX7_tells_172 : decode cX7_tells 172 = .ok (.goto 4, 3) := by decide +kernel
theorem dX7_tells_175 : decode cX7_tells 175 = .ok (.iconst 0, 1) := by decide +kernel
theorem dX7_tells_176 : decode cX7_tells 176 = .ok (.iadd, 1) := by decide +kernel
theorem dX7_tells_177 : decode cX7_tells 177 = .ok (.putfield 147, 3) := by decide +kernel
theorem dX7_tells_180 : decode cX7_tells 180 = .ok (.goto 9, 3) := by decide +kernel
theorem dX7_tells_183 : decode cX7_tells 183 = .ok (.iload_n 2, 1) := by decide +kernel
theorem dX7_tells_184 : decode cX7_tells 184 = .ok (.ifCond .le 5, 3) := by decide +kernel
theorem dX7_tells_187 : decode cX7_tells 187 = .ok (.iconst 0, 1) := by decide +kernel
theorem dX7_tells_188 : decode cX7_tells 188 = .ok (.ireturn, 1) := by decide +kernel
theorem dX7_tells_189 : decode cX7_tells 189 = .ok (.iinc 2 2, 3) := by decide +kernel
theorem dX7_tells_192 : decode cX7_tells 192 = .ok (.goto (-123), 3) := by decide +kernel
theorem dX7_tells_195 : decode cX7_tells 195 = .ok (.iload_n 1, 1) := by decide +kernel
theorem dX7_tells_196 : decode cX7_tells 196 = .ok (.ireturn, 1) := by decide +kernel
set_option maxRecDepth 20000 in
theorem ggX7_next_X7_letterAt : GoodIn wsX7_next wsX7_letterAt := goodIn_r _ [10, 11, 5, 55, 56, 57, 58, 59, 60, 61, 62, 63, 64, 65, 66, 67, 68, 69, 70, 71, 72, 73, 74, 75, 76, 77, 78, 79, 80, 81, 82, 83] (by decide +kernel) (by decide +kernel)
set_option maxRecDepth 20000 in
theorem gX7_next_X7_letterAt : GoodIn wsX7_next (wsV RX7 132 RX7 yX7_letterAt wsX7_letterAt) := goodIn_app (goodIn_of _ (by decide +kernel)) ggX7_next_X7_letterAt
set_option maxRecDepth 20000 in
theorem ggX7_next_X7_tags : GoodIn wsX7_next wsX7_tags := goodIn_r _ [15, 2, 16, 5, 17, 6, 7, 8, 9, 10, 11, 18, 19, 20, 21, 22, 23, 24, 25, 26, 27, 28, 29, 30, 31, 32, 33, 34, 35, 36, 37, 38, 39, 40, 41, 42, 43, 44, 45, 46, 47, 55, 56, 57, 58, 59, 60, 61, 62, 63, 64, 65, 66, 67, 68, 69, 70, 71, 72, 73, 74, 75, 76, 77, 78, 79, 80, 81, 82, 83] (by decide +kernel) (by decide +kernel)
set_option maxRecDepth 20000 in
theorem gX7_next_X7_tags : GoodIn wsX7_next (wsV RX7 138 RX7 yX7_tags wsX7_tags) := goodIn_app (goodIn_of _ (by decide +kernel)) ggX7_next_X7_tags
set_option maxRecDepth 20000 in
theorem ggX7_next_X7_tells : GoodIn wsX7_next wsX7_tells := goodIn_r _ [51, 2, 52, 53, 54, 6, 7, 8, 9, 10, 11, 5, 24, 25, 26, 55, 56, 57, 58, 59, 60, 61, 62, 63, 64, 65, 66, 67, 68, 69, 70, 71, 72, 73, 74, 75, 76, 77, 78, 79, 80, 81, 82, 83] (by decide +kernel) (by decide +kernel)
set_option maxRecDepth 20000 in
theorem gX7_next_X7_tells : GoodIn wsX7_next (wsV RX7 153 RX7 yX7_tells wsX7_tells) := goodIn_app (goodIn_of _ (by decide +kernel)) ggX7_next_X7_tells
set_option maxRecDepth 20000 in
theorem ggX7_next_X7_puts : GoodIn wsX7_next wsX7_puts := goodIn_r _ [47, 11, 5, 2, 55, 56, 57, 58, 59, 60, 61, 62, 63, 64, 65, 66, 67, 68, 69, 70, 71, 72, 73, 74, 75, 76, 77, 78, 79, 80, 81, 82, 83] (by decide +kernel) (by decide +kernel)
set_option maxRecDepth 20000 in
theorem gX7_next_X7_puts : GoodIn wsX7_next (wsV RX7 129 RX7 yX7_puts wsX7_puts) := goodIn_app (goodIn_of _ (by decide +kernel)) ggX7_next_X7_puts
theorem dX7_next_0 : decode cX7_next 0 = .ok (.aload_n 0, 1) := by decide +kernel
theorem dX7_next_1 : decode cX7_next 1 = .ok (.iconst 0, 1) := by decide +kernel
theorem dX7_next_2 : decode cX7_next 2 = .ok (.putfield 47, 3) := by decide +kernel
theorem dX7_next_5 : decode cX7_next 5 = .ok (.aload_n 0, 1) := by decide +kernel
theorem dX7_next_6 : decode cX7_next 6 = .ok (.aload_n 0, 1) := by decide +kernel
theorem dX7_next_7 : decode cX7_next 7 = .ok (.getfield 126, 3) := by decide +kernel
theorem dX7_next_10 : decode cX7_next 10 = .ok (.putfield 150, 3) := by decide +kernel
theorem dX7_next_13 : decode cX7_next 13 = .ok (.iconst 0, 1) := by decide +kernel
theorem dX7_next_14 : decode cX7_next 14 = .ok (.istore_n 1, 1) := by decide +kernel
theorem dX7_next_15 : decode cX7_next 15 = .ok (.iload_n 1, 1) := by decide +kernel
theorem dX7_next_16 : decode cX7_next 16 = .ok (.aload_n 0, 1) := by decide +kernel
theorem dX7_next_17 : decode cX7_next 17 = .ok (.getfield 126, 3) := by decide +kernel
theorem dX7_next_20 : decode cX7_next 20 = .ok (.if_icmp .ge 20, 3) := by decide +kernel
theorem dX7_next_23 : decode cX7_next 23 = .ok (.aload_n 0, 1) := by decide +kernel
theorem dX7_next_24 : decode cX7_next 24 = .ok (.getfield 37, 3) := by decide +kernel
theorem dX7_next_27 : decode cX7_next 27 = .ok (.iload_n 1, 1) := by decide +kernel
theorem dX7_next_28 : decode cX7_next 28 = .ok (.aload_n 0, 1) := by decide +kernel
theorem dX7_next_29 : decode cX7_next 29 = .ok (.iload_n 1, 1) := by decide +kernel
theorem dX7_next_30 : decode cX7_next 30 = .ok (.invokevirtual 132, 3) := by decide +kernel
theorem dX7_next_33 : decode cX7_next 33 = .ok (.iastore, 1) := by decide +kernel
theorem dX7_next_34 : decode cX7_next 34 = .ok (.iinc 1 1, 3) := by decide +kernel
theorem dX7_next_37 : decode cX7_next 37 = .ok (.goto (-22), 3) := by decide +kernel
theorem dX7_next_40 : decode cX7_next 40 = .ok (.iconst 0, 1) := by decide +kernel
theorem dX7_next_41 : decode cX7_next 41 = .ok (.istore_n 1, 1) := by decide +kernel
theorem dX7_next_42 : decode cX7_next 42 = .ok (.iload_n 1, 1) := by decide +kernel
theorem dX7_next_43 : decode cX7_next 43 = .ok (.sipush 20000, 3) := by decide +kernel
theorem dX7_next_46 : decode cX7_next 46 = .ok (.if_icmp .ge 22, 3) := by decide +kernel
theorem dX7_next_49 : decode cX7_next 49 = .ok (.aload_n 0, 1) := by decide +kernel
theorem dX7_next_50 : decode cX7_next 50 = .ok (.invokevirtual 138, 3) := by decide +kernel
theorem dX7_next_53 : decode cX7_next 53 = .ok (.ifCond .eq 15, 3) := by decide +kernel
theorem dX7_next_56 : decode cX7_next 56 = .ok (.iinc 1 1, 3) := by decide +kernel
theorem dX7_next_59 : decode cX7_next 59 = .ok (.aload_n 0, 1) := by decide +kernel
theorem dX7_next_60 : decode cX7_next 60 = .ok (.invokevirtual 153, 3) := by decide +kernel
theorem dX7_next_63 : decode cX7_next 63 = .ok (.ifCond .eq (-21), 3) := by decide +kernel
theorem dX7_next_66 : decode cX7_next 66 = .ok (.iload_n 1, 1) := by decide +kernel
theorem dX7_next_67 : decode cX7_next 67 = .ok (.ireturn, 1) := by decide +kernel
theorem dX7_next_68 : decode cX7_next 68 = .ok (.aload_n 0, 1) := by decide +kernel
theorem dX7_next_69 : decode cX7_next 69 = .ok (.iconst 0, 1) := by decide +kernel
theorem dX7_next_70 : decode cX7_next 70 = .ok (.putfield 123, 3) := by decide +kernel
theorem dX7_next_73 : decode cX7_next 73 = .ok (.aload_n 0, 1) := by decide +kernel
theorem dX7_next_74 : decode cX7_next 74 = .ok (.iconst 0, 1) := by decide +kernel
theorem dX7_next_75 : decode cX7_next 75 = .ok (.putfield 126, 3) := by decide +kernel
theorem dX7_next_78 : decode cX7_next 78 = .ok (.iconst 0, 1) := by decide +kernel
theorem dX7_next_79 : decode cX7_next 79 = .ok (.istore_n 2, 1) := by decide +kernel
theorem dX7_next_80 : decode cX7_next 80 = .ok (.iload_n 2, 1) := by decide +kernel
theorem dX7_next_81 : decode cX7_next 81 = .ok (.aload_n 0, 1) := by decide +kernel
theorem dX7_next_82 : decode cX7_next 82 = .ok (.getfield 150, 3) := by decide +kernel
theorem dX7_next_85 : decode cX7_next 85 = .ok (.if_icmp .ge 19, 3) := by decide +kernel
theorem dX7_next_88 : decode cX7_next 88 = .ok (.aload_n 0, 1) := by decide +kernel
theorem dX7_next_89 : decode cX7_next 89 = .ok (.aload_n 0, 1) := by decide +kernel
theorem dX7_next_90 : decode cX7_next 90 = .ok (.getfield 37, 3) := by decide +kernel
theorem dX7_next_93 : decode cX7_next 93 = .ok (.iload_n 2, 1) := by decide +kernel
theorem dX7_next_94 : decode cX7_next 94 = .ok (.iaload, 1) := by decide +kernel
theorem dX7_next_95 : decode cX7_next 95 = .ok (.invokevirtual 129, 3) := by decide +kernel
theorem dX7_next_98 : decode cX7_next 98 = .ok (.iinc 2 1, 3) := by decide +kernel
theorem dX7_next_101 : decode cX7_next 101 = .ok (.goto (-21), 3) := by decide +kernel
theorem dX7_next_104 : decode cX7_next 104 = .ok (.bipush (-2), 2) := by decide +kernel
theorem dX7_next_106 : decode cX7_next 106 = .ok (.ireturn, 1) := by decide +kernel
set_option maxRecDepth 20000 in
theorem ggX7_told_X7_in : GoodIn wsX7_told wsX7_in := goodIn_r _ [9] (by decide +kernel) (by decide +kernel)
set_option maxRecDepth 20000 in
theorem gX7_told_X7_in : GoodIn wsX7_told (va_wsS RX7 53 yX7_in wsX7_in) := goodIn_app (goodIn_of _ (by decide +kernel)) ggX7_told_X7_in
set_option maxRecDepth 20000 in
theorem ggX7_told_X7_tells : GoodIn wsX7_told wsX7_tells := goodIn_r _ [13, 14, 3, 4, 5, 15, 16, 17, 8, 18, 19, 20, 21, 22, 23, 24, 25, 26, 27, 28, 29, 30, 31, 32, 33, 34, 35, 36, 37, 38, 39, 40, 41, 42, 43, 44, 45, 46, 47, 48, 49, 50, 51, 52] (by decide +kernel) (by decide +kernel)
set_option maxRecDepth 20000 in
theorem gX7_told_X7_tells : GoodIn wsX7_told (wsV RX7 153 RX7 yX7_tells wsX7_tells) := goodIn_app (goodIn_of _ (by decide +kernel)) ggX7_told_X7_tells
theorem dX7_told_0 : decode cX7_told 0 = .ok (.aload_n 0, 1) := by decide +kernel
theorem dX7_told_1 : decode cX7_told 1 = .ok (.iconst 0, 1) := by decide +kernel
theorem dX7_told_2 : decode cX7_told 2 = .ok (.putfield 47, 3) := by decide +kernel
theorem dX7_told_5 : decode cX7_told 5 = .ok (.iload_n 1, 1) := by decide +kernel
theorem dX7_told_6 : decode cX7_told 6 = .ok (.i2l, 1) := by decide +kernel
theorem dX7_told_7 : decode cX7_told 7 = .ok (.lconst 0, 1) := by decide +kernel
theorem dX7_told_8 : decode cX7_told 8 = .ok (.ldc2_w 57, 3) := by decide +kernel
theorem dX7_told_11 : decode cX7_told 11 = .ok (.invokestatic 53, 3) := by decide +kernel
theorem dX7_told_14 : decode cX7_told 14 = .ok (.ifCond .ne 5, 3) := by decide +kernel
theorem dX7_told_17 : decode cX7_told 17 = .ok (.iconst (-1), 1) := by decide +kernel
theorem dX7_told_18 : decode cX7_told 18 = .ok (.ireturn, 1) := by decide +kernel
theorem dX7_told_19 : decode cX7_told 19 = .ok (.aload_n 0, 1) := by decide +kernel
theorem dX7_told_20 : decode cX7_told 20 = .ok (.invokevirtual 153, 3) := by decide +kernel
theorem dX7_told_23 : decode cX7_told 23 = .ok (.ifCond .ne 6, 3) := by decide +kernel
theorem dX7_told_26 : decode cX7_told 26 = .ok (.bipush (-9), 2) := by decide +kernel
theorem dX7_told_28 : decode cX7_told 28 = .ok (.ireturn, 1) := by decide +kernel
theorem dX7_told_29 : decode cX7_told 29 = .ok (.iload_n 1, 1) := by decide +kernel
theorem dX7_told_30 : decode cX7_told 30 = .ok (.ifCond .ne 12, 3) := by decide +kernel
theorem dX7_told_33 : decode cX7_told 33 = .ok (.aload_n 0, 1) := by decide +kernel
theorem dX7_told_34 : decode cX7_told 34 = .ok (.getfield 141, 3) := by decide +kernel
theorem dX7_told_37 : decode cX7_told 37 = .ok (.iconst 2, 1) := by decide +kernel
theorem dX7_told_38 : decode cX7_told 38 = .ok (.idiv, 1) := by decide +kernel
theorem dX7_told_39 : decode cX7_told 39 = .ok (.goto 33, 3) := by decide +kernel
theorem dX7_told_42 : decode cX7_told 42 = .ok (.iload_n 1, 1) := by decide +kernel
theorem dX7_told_43 : decode cX7_told 43 = .ok (.iconst 1, 1) := by decide +kernel
theorem dX7_told_44 : decode cX7_told 44 = .ok (.if_icmp .ne 12, 3) := by decide +kernel
theorem dX7_told_47 : decode cX7_told 47 = .ok (.aload_n 0, 1) := by decide +kernel
theorem dX7_told_48 : decode cX7_told 48 = .ok (.getfield 141, 3) := by decide +kernel
theorem dX7_told_51 : decode cX7_told 51 = .ok (.iconst 2, 1) := by decide +kernel
theorem dX7_told_52 : decode cX7_told 52 = .ok (.irem, 1) := by decide +kernel
theorem dX7_told_53 : decode cX7_told 53 = .ok (.goto 19, 3) := by decide +kernel
theorem dX7_told_56 : decode cX7_told 56 = .ok (.iload_n 1, 1) := by decide +kernel
theorem dX7_told_57 : decode cX7_told 57 = .ok (.iconst 2, 1) := by decide +kernel
theorem dX7_told_58 : decode cX7_told 58 = .ok (.if_icmp .ne 10, 3) := by decide +kernel
theorem dX7_told_61 : decode cX7_told 61 = .ok (.aload_n 0, 1) := by decide +kernel
theorem dX7_told_62 : decode cX7_told 62 = .ok (.getfield 144, 3) := by decide +kernel
theorem dX7_told_65 : decode cX7_told 65 = .ok (.goto 7, 3) := by decide +kernel
theorem dX7_told_68 : decode cX7_told 68 = .ok (.aload_n 0, 1) := by decide +kernel
theorem dX7_told_69 : decode cX7_told 69 = .ok (.getfield 147, 3) := by decide +kernel
theorem dX7_told_72 : decode cX7_told 72 = .ok (.ireturn, 1) := by decide +kernel
theorem dX7_bitAt_0 : decode cX7_bitAt 0 = .ok (.aload_n 0, 1) := by decide +kernel
theorem dX7_bitAt_1 : decode cX7_bitAt 1 = .ok (.getfield 41, 3) := by decide +kernel
theorem dX7_bitAt_4 : decode cX7_bitAt 4 = .ok (.aload_n 0, 1) := by decide +kernel
theorem dX7_bitAt_5 : decode cX7_bitAt 5 = .ok (.getfield 156, 3) := by decide +kernel
theorem dX7_bitAt_8 : decode cX7_bitAt 8 = .ok (.iload_n 1, 1) := by decide +kernel
theorem dX7_bitAt_9 : decode cX7_bitAt 9 = .ok (.iadd, 1) := by decide +kernel
theorem dX7_bitAt_10 : decode cX7_bitAt 10 = .ok (.ldc 40, 2) := by decide +kernel
theorem dX7_bitAt_12 : decode cX7_bitAt 12 = .ok (.irem, 1) := by decide +kernel
theorem dX7_bitAt_13 : decode cX7_bitAt 13 = .ok (.iaload, 1) := by decide +kernel
theorem dX7_bitAt_14 : decode cX7_bitAt 14 = .ok (.ireturn, 1) := by decide +kernel
theorem dX7_putBit_0 : decode cX7_putBit 0 = .ok (.aload_n 0, 1) := by decide +kernel
theorem dX7_putBit_1 : decode cX7_putBit 1 = .ok (.getfield 41, 3) := by decide +kernel
theorem dX7_putBit_4 : decode cX7_putBit 4 = .ok (.aload_n 0, 1) := by decide +kernel
theorem dX7_putBit_5 : decode cX7_putBit 5 = .ok (.getfield 156, 3) := by decide +kernel
theorem dX7_putBit_8 : decode cX7_putBit 8 = .ok (.aload_n 0, 1) := by decide +kernel
theorem dX7_putBit_9 : decode cX7_putBit 9 = .ok (.getfield 159, 3) := by decide +kernel
theorem dX7_putBit_12 : decode cX7_putBit 12 = .ok (.iadd, 1) := by decide +kernel
theorem dX7_putBit_13 : decode cX7_putBit 13 = .ok (.ldc 40, 2) := by decide +kernel
theorem dX7_putBit_15 : decode cX7_putBit 15 = .ok (.irem, 1) := by decide +kernel
theorem dX7_putBit_16 : decode cX7_putBit 16 = .ok (.iload_n 1, 1) := by decide +kernel
theorem dX7_putBit_17 : decode cX7_putBit 17 = .ok (.iastore, 1) := by decide +kernel
theorem dX7_putBit_18 : decode cX7_putBit 18 = .ok (.aload_n 0, 1) := by decide +kernel
theorem dX7_putBit_19 : decode cX7_putBit 19 = .ok (.dup, 1) := by decide +kernel
theorem dX7_putBit_20 : decode cX7_putBit 20 = .ok (.getfield 159, 3) := by decide +kernel
theorem dX7_putBit_23 : decode cX7_putBit 23 = .ok (.iconst 1, 1) := by decide +kernel
theorem dX7_putBit_24 : decode cX7_putBit 24 = .ok (.iadd, 1) := by decide +kernel
theorem dX7_putBit_25 : decode cX7_putBit 25 = .ok (.putfield 159, 3) := by decide +kernel
theorem dX7_putBit_28 : decode cX7_putBit 28 = .ok (.return_, 1) := by decide +kernel
set_option maxRecDepth 20000 in
theorem ggX7_appendant_X7_in : GoodIn wsX7_appendant wsX7_in := goodIn_r _ [8] (by decide +kernel) (by decide +kernel)
set_option maxRecDepth 20000 in
theorem gX7_appendant_X7_in : GoodIn wsX7_appendant (va_wsS RX7 53 yX7_in wsX7_in) := goodIn_app (goodIn_of _ (by decide +kernel)) ggX7_appendant_X7_in
set_option maxRecDepth 20000 in
theorem ggX7_appendant_X7_produce : GoodIn wsX7_appendant wsX7_produce := goodIn_r _ [12, 3, 13, 14, 15, 16, 7, 17, 18, 19, 20, 21, 22, 23, 24, 25, 4, 26, 27, 28, 29, 30, 31, 32, 33, 34, 35, 36, 37, 38, 39, 40, 41, 42, 43, 44, 45, 46, 47, 48, 49, 50, 51, 52, 53, 54, 55, 56, 57, 58, 59, 60, 61, 62, 63] (by decide +kernel) (by decide +kernel)
set_option maxRecDepth 20000 in
theorem gX7_appendant_X7_produce : GoodIn wsX7_appendant (wsV RX7 120 RX7 yX7_produce wsX7_produce) := goodIn_app (goodIn_of _ (by decide +kernel)) ggX7_appendant_X7_produce
theorem dX7_appendant_0 : decode cX7_appendant 0 = .ok (.aload_n 0, 1) := by decide +kernel
theorem dX7_appendant_1 : decode cX7_appendant 1 = .ok (.iconst 0, 1) := by decide +kernel
theorem dX7_appendant_2 : decode cX7_appendant 2 = .ok (.putfield 47, 3) := by decide +kernel
theorem dX7_appendant_5 : decode cX7_appendant 5 = .ok (.iload_n 1, 1) := by decide +kernel
theorem dX7_appendant_6 : decode cX7_appendant 6 = .ok (.i2l, 1) := by decide +kernel
theorem dX7_appendant_7 : decode cX7_appendant 7 = .ok (.lconst 0, 1) := by decide +kernel
theorem dX7_appendant_8 : decode cX7_appendant 8 = .ok (.ldc2_w 162, 3) := by decide +kernel
theorem dX7_appendant_11 : decode cX7_appendant 11 = .ok (.invokestatic 53, 3) := by decide +kernel
theorem dX7_appendant_14 : decode cX7_appendant 14 = .ok (.ifCond .ne 5, 3) := by decide +kernel
theorem dX7_appendant_17 : decode cX7_appendant 17 = .ok (.iconst (-1), 1) := by decide +kernel
theorem dX7_appendant_18 : decode cX7_appendant 18 = .ok (.ireturn, 1) := by decide +kernel
theorem dX7_appendant_19 : decode cX7_appendant 19 = .ok (.aload_n 0, 1) := by decide +kernel
theorem dX7_appendant_20 : decode cX7_appendant 20 = .ok (.iconst 0, 1) := by decide +kernel
theorem dX7_appendant_21 : decode cX7_appendant 21 = .ok (.putfield 97, 3) := by decide +kernel
theorem dX7_appendant_24 : decode cX7_appendant 24 = .ok (.iload_n 1, 1) := by decide +kernel
theorem dX7_appendant_25 : decode cX7_appendant 25 = .ok (.bipush 121, 2) := by decide +kernel
theorem dX7_appendant_27 : decode cX7_appendant 27 = .ok (.if_icmp .ge 8, 3) := by decide +kernel
theorem dX7_appendant_30 : decode cX7_appendant 30 = .ok (.aload_n 0, 1) := by decide +kernel
theorem dX7_appendant_31 : decode cX7_appendant 31 = .ok (.iload_n 1, 1) := by decide +kernel
theorem dX7_appendant_32 : decode cX7_appendant 32 = .ok (.invokevirtual 120, 3) := by decide +kernel
theorem dX7_appendant_35 : decode cX7_appendant 35 = .ok (.iload_n 2, 1) := by decide +kernel
theorem dX7_appendant_36 : decode cX7_appendant 36 = .ok (.i2l, 1) := by decide +kernel
theorem dX7_appendant_37 : decode cX7_appendant 37 = .ok (.lconst 0, 1) := by decide +kernel
theorem dX7_appendant_38 : decode cX7_appendant 38 = .ok (.bipush 121, 2) := by decide +kernel
theorem dX7_appendant_40 : decode cX7_appendant 40 = .ok (.aload_n 0, 1) := by decide +kernel
theorem dX7_appendant_41 : decode cX7_appendant 41 = .ok (.getfield 97, 3) := by decide +kernel
theorem dX7_appendant_44 : decode cX7_appendant 44 = .ok (.imul, 1) := by decide +kernel
theorem dX7_appendant_45 : decode cX7_appendant 45 = .ok (.iconst 1, 1) := by decide +kernel
theorem dX7_appendant_46 : decode cX7_appendant 46 = .ok (.isub, 1) := by decide +kernel
theorem dX7_appendant_47 : decode cX7_appendant 47 = .ok (.i2l, 1) := by decide +kernel
theorem dX7_appendant_48 : decode cX7_appendant 48 = .ok (.invokestatic 53, 3) := by decide +kernel
theorem dX7_appendant_51 : decode cX7_appendant 51 = .ok (.ifCond .eq 27, 3) := by decide +kernel
theorem dX7_appendant_54 : decode cX7_appendant 54 = .ok (.aload_n 0, 1) := by decide +kernel
theorem dX7_appendant_55 : decode cX7_appendant 55 = .ok (.getfield 44, 3) := by decide +kernel
theorem dX7_appendant_58 : decode cX7_appendant 58 = .ok (.iload_n 2, 1) := by decide +kernel
theorem dX7_appendant_59 : decode cX7_appendant 59 = .ok (.bipush 121, 2) := by decide +kernel
theorem dX7_appendant_61 : decode cX7_appendant 61 = .ok (.idiv, 1) := by decide +kernel
theorem dX7_appendant_62 : decode cX7_appendant 62 = .ok (.iaload, 1) := by decide +kernel
theorem dX7_appendant_63 : decode cX7_appendant 63 = .ok (.iload_n 2, 1) := by decide +kernel
theorem dX7_appendant_64 : decode cX7_appendant 64 = .ok (.bipush 121, 2) := by decide +kernel
theorem dX7_appendant_66 : decode cX7_appendant 66 = .ok (.irem, 1) := by decide +kernel
theorem dX7_appendant_67 : decode cX7_appendant 67 = .ok (.if_icmp .ne 7, 3) := by decide +kernel
theorem dX7_appendant_70 : decode cX7_appendant 70 = .ok (.iconst 1, 1) := by decide +kernel
theorem dX7_appendant_71 : decode cX7_appendant 71 = .ok (.goto 9, 3) := by decide +kernel
theorem dX7_appendant_74 : decode cX7_appendant 74 = .ok (.iconst 0, 1) := by decide +kernel
theorem dX7_appendant_75 : decode cX7_appendant 75 = .ok (.goto 5, 3) := by decide +kernel
theorem dX7_appendant_78 : decode cX7_appendant 78 = .ok (.bipush (-9), 2) := by decide +kernel
theorem dX7_appendant_80 : decode cX7_appendant 80 = .ok (.ireturn, 1) := by decide +kernel
set_option maxRecDepth 20000 in
theorem ggX7_spread_X7_letterAt : GoodIn wsX7_spread wsX7_letterAt := goodIn_r _ [11, 12, 13, 20, 21, 22, 23, 24, 25, 26, 27, 28, 29, 30, 31, 32, 33, 34, 35, 36, 37, 38, 39, 40, 41, 42, 43, 44, 45, 46, 47, 48] (by decide +kernel) (by decide +kernel)
set_option maxRecDepth 20000 in
theorem gX7_spread_X7_letterAt : GoodIn wsX7_spread (wsV RX7 132 RX7 yX7_letterAt wsX7_letterAt) := goodIn_app (goodIn_of _ (by decide +kernel)) ggX7_spread_X7_letterAt
set_option maxRecDepth 20000 in
theorem ggX7_spread_X7_putBit : GoodIn wsX7_spread wsX7_putBit := goodIn_r _ [17, 18, 4, 5, 19, 20, 21, 22, 23, 24, 25, 26, 27, 28, 29, 30, 31, 32, 33, 34, 35, 36, 37, 38, 39, 40, 41, 42, 43, 44, 45, 46, 47, 48] (by decide +kernel) (by decide +kernel)
set_option maxRecDepth 20000 in
theorem gX7_spread_X7_putBit : GoodIn wsX7_spread (wsV RX7 168 RX7 yX7_putBit wsX7_putBit) := goodIn_app (goodIn_of _ (by decide +kernel)) ggX7_spread_X7_putBit
theorem dX7_spread_0 : decode cX7_spread 0 = .ok (.aload_n 0, 1) := by decide +kernel
theorem dX7_spread_1 : decode cX7_spread 1 = .ok (.iconst 0, 1) := by decide +kernel
theorem dX7_spread_2 : decode cX7_spread 2 = .ok (.putfield 47, 3) := by decide +kernel
theorem dX7_spread_5 : decode cX7_spread 5 = .ok (.bipush 121, 2) := by decide +kernel
theorem dX7_spread_7 : decode cX7_spread 7 = .ok (.aload_n 0, 1) := by decide +kernel
theorem dX7_spread_8 : decode cX7_spread 8 = .ok (.getfield 126, 3) := by decide +kernel
theorem dX7_spread_11 : decode cX7_spread 11 = .ok (.imul, 1) := by decide +kernel
theorem dX7_spread_12 : decode cX7_spread 12 = .ok (.ldc 164, 2) := by decide +kernel
theorem dX7_spread_14 : decode cX7_spread 14 = .ok (.if_icmp .le 6, 3) := by decide +kernel
theorem dX7_spread_17 : decode cX7_spread 17 = .ok (.bipush (-3), 2) := by decide +kernel
theorem dX7_spread_19 : decode cX7_spread 19 = .ok (.ireturn, 1) := by decide +kernel
theorem dX7_spread_20 : decode cX7_spread 20 = .ok (.aload_n 0, 1) := by decide +kernel
theorem dX7_spread_21 : decode cX7_spread 21 = .ok (.iconst 0, 1) := by decide +kernel
theorem dX7_spread_22 : decode cX7_spread 22 = .ok (.putfield 156, 3) := by decide +kernel
theorem dX7_spread_25 : decode cX7_spread 25 = .ok (.aload_n 0, 1) := by decide +kernel
theorem dX7_spread_26 : decode cX7_spread 26 = .ok (.iconst 0, 1) := by decide +kernel
theorem dX7_spread_27 : decode cX7_spread 27 = .ok (.putfield 159, 3) := by decide +kernel
theorem dX7_spread_30 : decode cX7_spread 30 = .ok (.aload_n 0, 1) := by decide +kernel
theorem dX7_spread_31 : decode cX7_spread 31 = .ok (.iconst 0, 1) := by decide +kernel
theorem dX7_spread_32 : decode cX7_spread 32 = .ok (.putfield 165, 3) := by decide +kernel
theorem dX7_spread_35 : decode cX7_spread 35 = .ok (.iconst 0, 1) := by decide +kernel
theorem dX7_spread_36 : decode cX7_spread 36 = .ok (.istore_n 1, 1) := by decide +kernel
theorem dX7_spread_37 : decode cX7_spread 37 = .ok (.iload_n 1, 1) := by decide +kernel
theorem dX7_spread_38 : decode cX7_spread 38 = .ok (.aload_n 0, 1) := by decide +kernel
theorem dX7_spread_39 : decode cX7_spread 39 = .ok (.getfield 126, 3) := by decide +kernel
theorem dX7_spread_42 : decode cX7_spread 42 = .ok (.if_icmp .ge 41, 3) := by decide +kernel
theorem dX7_spread_45 : decode cX7_spread 45 = .ok (.iconst 0, 1) := by decide +kernel
theorem dX7_spread_46 : decode cX7_spread 46 = .ok (.istore_n 2, 1) := by decide +kernel
theorem dX7_spread_47 : decode cX7_spread 47 = .ok (.iload_n 2, 1) := by decide +kernel
theorem dX7_spread_48 : decode cX7_spread 48 = .ok (.bipush 121, 2) := by decide +kernel
theorem dX7_spread_50 : decode cX7_spread 50 = .ok (.if_icmp .ge 27, 3) := by decide +kernel
theorem dX7_spread_53 : decode cX7_spread 53 = .ok (.aload_n 0, 1) := by decide +kernel
theorem dX7_spread_54 : decode cX7_spread 54 = .ok (.aload_n 0, 1) := by decide +kernel
theorem dX7_spread_55 : decode cX7_spread 55 = .ok (.iload_n 1, 1) := by decide +kernel
theorem dX7_spread_56 : decode cX7_spread 56 = .ok (.invokevirtual 132, 3) := by decide +kernel
theorem dX7_spread_59 : decode cX7_spread 59 = .ok (.iload_n 2, 1) := by decide +kernel
theorem dX7_spread_60 : decode cX7_spread 60 = .ok (.if_icmp .ne 7, 3) := by decide +kernel
theorem dX7_spread_63 : decode cX7_spread 63 = .ok (.iconst 1, 1) := by decide +kernel
theorem dX7_spread_64 : decode cX7_spread 64 = .ok (.goto 4, 3) := by decide +kernel
theorem dX7_spread_67 : decode cX7_spread 67 = .ok (.iconst 0, 1) := by decide +kernel
theorem dX7_spread_68 : decode cX7_spread 68 = .ok (.invokevirtual 168, 3) := by decide +kernel
theorem dX7_spread_71 : decode cX7_spread 71 = .ok (.iinc 2 1, 3) := by decide +kernel
theorem dX7_spread_74 : decode cX7_spread 74 = .ok (.goto (-27), 3) := by decide +kernel
theorem dX7_spread_77 : decode cX7_spread 77 = .ok (.iinc 1 1, 3) := by decide +kernel
theorem dX7_spread_80 : decode cX7_spread 80 = .ok (.goto (-43), 3) := by decide +kernel
theorem dX7_spread_83 : decode cX7_spread 83 = .ok (.aload_n 0, 1) := by decide +kernel
theorem dX7_spread_84 : decode cX7_spread 84 = .ok (.getfield 159, 3) := by decide +kernel
theorem dX7_spread_87 : decode cX7_spread 87 = .ok (.ireturn, 1) := by decide +kernel
set_option maxRecDepth 20000 in
theorem ggX7_letterOf_X7_bitAt : GoodIn wsX7_letterOf wsX7_bitAt := goodIn_r _ [5, 6, 7, 8, 9, 10, 11, 12, 13, 14, 15, 16, 17, 18, 19, 20, 21, 22, 23, 24, 25, 26, 27, 28, 29, 30, 31, 32, 33, 34, 35, 36, 37] (by decide +kernel) (by decide +kernel)
set_option maxRecDepth 20000 in
theorem gX7_letterOf_X7_bitAt : GoodIn wsX7_letterOf (wsV RX7 171 RX7 yX7_bitAt wsX7_bitAt) := goodIn_app (goodIn_of _ (by decide +kernel)) ggX7_letterOf_X7_bitAt
theorem dX7_letterOf_0 : decode cX7_letterOf 0 = .ok (.bipush (-9), 2) := by decide +kernel
theorem dX7_letterOf_2 : decode cX7_letterOf 2 = .ok (.istore_n 2, 1) := by decide +kernel
theorem dX7_letterOf_3 : decode cX7_letterOf 3 = .ok (.iconst 0, 1) := by decide +kernel
theorem dX7_letterOf_4 : decode cX7_letterOf 4 = .ok (.istore_n 3, 1) := by decide +kernel
theorem dX7_letterOf_5 : decode cX7_letterOf 5 = .ok (.iconst 0, 1) := by decide +kernel
theorem dX7_letterOf_6 : decode cX7_letterOf 6 = .ok (.istore 4, 2) := by decide +kernel
theorem dX7_letterOf_8 : decode cX7_letterOf 8 = .ok (.iload 4, 2) := by decide +kernel
theorem dX7_letterOf_10 : decode cX7_letterOf 10 = .ok (.bipush 121, 2) := by decide +kernel
theorem dX7_letterOf_12 : decode cX7_letterOf 12 = .ok (.if_icmp .ge 27, 3) := by decide +kernel
theorem dX7_letterOf_15 : decode cX7_letterOf 15 = .ok (.aload_n 0, 1) := by decide +kernel
theorem dX7_letterOf_16 : decode cX7_letterOf 16 = .ok (.iload_n 1, 1) := by decide +kernel
theorem dX7_letterOf_17 : decode cX7_letterOf 17 = .ok (.iload 4, 2) := by decide +kernel
theorem dX7_letterOf_19 : decode cX7_letterOf 19 = .ok (.iadd, 1) := by decide +kernel
theorem dX7_letterOf_20 : decode cX7_letterOf 20 = .ok (.invokevirtual 171, 3) := by decide +kernel
theorem dX7_letterOf_23 : decode cX7_letterOf 23 = .ok (.iconst 1, 1) := by decide +kernel
theorem dX7_letterOf_24 : decode cX7_letterOf 24 = .ok (.if_icmp .ne 9, 3) := by decide +kernel
theorem dX7_letterOf_27 : decode cX7_letterOf 27 = .ok (.iload 4, 2) := by decide +kernel
theorem dX7_letterOf_29 : decode cX7_letterOf 29 = .ok (.istore_n 2, 1) := by decide +kernel
theorem dX7_letterOf_30 : decode cX7_letterOf 30 = .ok (.iinc 3 1, 3) := by decide +kernel
theorem dX7_letterOf_33 : decode cX7_letterOf 33 = .ok (.iinc 4 1, 3) := by decide +kernel
theorem dX7_letterOf_36 : decode cX7_letterOf 36 = .ok (.goto (-28), 3) := by decide +kernel
theorem dX7_letterOf_39 : decode cX7_letterOf 39 = .ok (.iload_n 3, 1) := by decide +kernel
theorem dX7_letterOf_40 : decode cX7_letterOf 40 = .ok (.iconst 1, 1) := by decide +kernel
theorem dX7_letterOf_41 : decode cX7_letterOf 41 = .ok (.if_icmp .ne 7, 3) := by decide +kernel
theorem dX7_letterOf_44 : decode cX7_letterOf 44 = .ok (.iload_n 2, 1) := by decide +kernel
theorem dX7_letterOf_45 : decode cX7_letterOf 45 = .ok (.goto 5, 3) := by decide +kernel
theorem dX7_letterOf_48 : decode cX7_letterOf 48 = .ok (.bipush (-9), 2) := by decide +kernel
theorem dX7_letterOf_50 : decode cX7_letterOf 50 = .ok (.ireturn, 1) := by decide +kernel
set_option maxRecDepth 20000 in
theorem ggX7_isStill_X7_letterOf : GoodIn wsX7_isStill wsX7_letterOf := goodIn_r _ [8, 9, 10, 11, 7, 12, 13, 14, 15, 43, 44, 45, 46, 47, 48, 49, 50, 51, 52, 53, 54, 55, 56, 57, 58, 59, 60, 61, 62, 63, 64, 65, 66, 67, 68, 69, 70, 71] (by decide +kernel) (by decide +kernel)
set_option maxRecDepth 20000 in
theorem gX7_isStill_X7_letterOf : GoodIn wsX7_isStill (wsV RX7 174 RX7 yX7_letterOf wsX7_letterOf) := goodIn_app (goodIn_of _ (by decide +kernel)) ggX7_isStill_X7_letterOf
set_option maxRecDepth 20000 in
theorem ggX7_isStill_X7_produce : GoodIn wsX7_isStill wsX7_produce := goodIn_r _ [19, 3, 20, 21, 22, 23, 7, 24, 25, 26, 27, 28, 29, 30, 31, 32, 33, 34, 35, 36, 37, 38, 39, 40, 41, 42, 43, 44, 45, 46, 47, 48, 49, 50, 51, 52, 53, 54, 55, 56, 57, 58, 59, 60, 61, 62, 63, 64, 65, 66, 67, 68, 69, 70, 71] (by decide +kernel) (by decide +kernel)
set_option maxRecDepth 20000 in
theorem gX7_isStill_X7_produce : GoodIn wsX7_isStill (wsV RX7 120 RX7 yX7_produce wsX7_produce) := goodIn_app (goodIn_of _ (by decide +kernel)) ggX7_isStill_X7_produce
theorem dX7_isStill_0 : decode cX7_isStill 0 = .ok (.aload_n 0, 1) := by decide +kernel
theorem dX7_isStill_1 : decode cX7_isStill 1 = .ok (.getfield 165, 3) := by decide +kernel
theorem dX7_isStill_4 : decode cX7_isStill 4 = .ok (.ifCond .eq 5, 3) := by decide +kernel
theorem dX7_isStill_7 : decode cX7_isStill 7 = .ok (.iconst 0, 1) := by decide +kernel
theorem dX7_isStill_8 : decode cX7_isStill 8 = .ok (.ireturn, 1) := by decide +kernel
theorem dX7_isStill_9 : decode cX7_isStill 9 = .ok (.aload_n 0, 1) := by decide +kernel
theorem dX7_isStill_10 : decode cX7_isStill 10 = .ok (.getfield 159, 3) := by decide +kernel
theorem dX7_isStill_13 : decode cX7_isStill 13 = .ok (.sipush 242, 3) := by decide +kernel
theorem dX7_isStill_16 : decode cX7_isStill 16 = .ok (.if_icmp .ge 5, 3) := by decide +kernel
theorem dX7_isStill_19 : decode cX7_isStill 19 = .ok (.iconst 1, 1) := by decide +kernel
theorem dX7_isStill_20 : decode cX7_isStill 20 = .ok (.ireturn, 1) := by decide +kernel
theorem dX7_isStill_21 : decode cX7_isStill 21 = .ok (.aload_n 0, 1) := by decide +kernel
theorem dX7_isStill_22 : decode cX7_isStill 22 = .ok (.iconst 0, 1) := by decide +kernel
theorem dX7_isStill_23 : decode cX7_isStill 23 = .ok (.invokevirtual 174, 3) := by decide +kernel
theorem dX7_isStill_26 : decode cX7_isStill 26 = .ok (.istore_n 1, 1) := by decide +kernel
theorem dX7_isStill_27 : decode cX7_isStill 27 = .ok (.iload_n 1, 1) := by decide +kernel
theorem dX7_isStill_28 : decode cX7_isStill 28 = .ok (.bipush (-9), 2) := by decide +kernel
theorem dX7_isStill_30 : decode cX7_isStill 30 = .ok (.if_icmp .ne 5, 3) := by decide +kernel
theorem dX7_isStill_33 : decode cX7_isStill 33 = .ok (.iconst 0, 1) := by decide +kernel
theorem dX7_isStill_34 : decode cX7_isStill 34 = .ok (.ireturn, 1) := by decide +kernel
theorem dX7_isStill_35 : decode cX7_isStill 35 = .ok (.aload_n 0, 1) := by decide +kernel
theorem dX7_isStill_36 : decode cX7_isStill 36 = .ok (.iload_n 1, 1) := by decide +kernel
theorem dX7_isStill_37 : decode cX7_isStill 37 = .ok (.invokevirtual 120, 3) := by decide +kernel
theorem dX7_isStill_40 : decode cX7_isStill 40 = .ok (.aload_n 0, 1) := by decide +kernel
theorem dX7_isStill_41 : decode cX7_isStill 41 = .ok (.getfield 97, 3) := by decide +kernel
theorem dX7_isStill_44 : decode cX7_isStill 44 = .ok (.ifCond .ne 7, 3) := by decide +kernel
theorem dX7_isStill_47 : decode cX7_isStill 47 = .ok (.iconst 1, 1) := by decide +kernel
theorem dX7_isStill_48 : decode cX7_isStill 48 = .ok (.goto 4, 3) := by decide +kernel
theorem dX7_isStill_51 : decode cX7_isStill 51 = .ok (.iconst 0, 1) := by decide +kernel
theorem dX7_isStill_52 : decode cX7_isStill 52 = .ok (.ireturn, 1) := by decide +kernel
set_option maxRecDepth 20000 in
theorem ggX7_cycles_X7_isStill : GoodIn wsX7_cycles wsX7_isStill := goodIn_r _ [12, 2, 3, 1, 13, 14, 15, 11, 16, 17, 18, 19, 20, 21, 5, 6, 22, 23, 24, 25, 26, 27, 28, 29, 30, 31, 32, 33, 34, 35, 36, 37, 38, 7, 39, 40, 41, 42, 43, 44, 45, 46, 47, 52, 53, 54, 55, 56, 57, 58, 59, 60, 61, 62, 63, 64, 65, 66, 67, 68, 69, 70, 71, 72, 73, 74, 75, 76, 77, 78, 79, 80] (by decide +kernel) (by decide +kernel)
set_option maxRecDepth 20000 in
theorem gX7_cycles_X7_isStill : GoodIn wsX7_cycles (wsV RX7 177 RX7 yX7_isStill wsX7_isStill) := goodIn_app (goodIn_of _ (by decide +kernel)) ggX7_cycles_X7_isStill
set_option maxRecDepth 20000 in
theorem ggX7_cycles_X7_bitAt : GoodIn wsX7_cycles wsX7_bitAt := goodIn_r _ [20, 21, 5, 6, 52, 53, 54, 55, 56, 57, 58, 59, 60, 61, 62, 63, 64, 65, 66, 67, 68, 69, 70, 71, 72, 73, 74, 75, 76, 77, 78, 79, 80] (by decide +kernel) (by decide +kernel)
set_option maxRecDepth 20000 in
theorem gX7_cycles_X7_bitAt : GoodIn wsX7_cycles (wsV RX7 171 RX7 yX7_bitAt wsX7_bitAt) := goodIn_app (goodIn_of _ (by decide +kernel)) ggX7_cycles_X7_bitAt
set_option maxRecDepth 20000 in
theorem ggX7_cycles_X7_produce : GoodIn wsX7_cycles wsX7_produce := goodIn_r _ [25, 1, 26, 27, 28, 29, 11, 30, 31, 32, 33, 34, 35, 36, 37, 38, 7, 39, 40, 41, 42, 43, 44, 45, 46, 47, 52, 53, 54, 55, 56, 57, 58, 59, 60, 61, 62, 63, 64, 65, 66, 67, 68, 69, 70, 71, 72, 73, 74, 75, 76, 77, 78, 79, 80] (by decide +kernel) (by decide +kernel)
set_option maxRecDepth 20000 in
theorem gX7_cycles_X7_produce : GoodIn wsX7_cycles (wsV RX7 120 RX7 yX7_produce wsX7_produce) := goodIn_app (goodIn_of _ (by decide +kernel)) ggX7_cycles_X7_produce
set_option maxRecDepth 20000 in
theorem ggX7_cycles_X7_putBit : GoodIn wsX7_cycles wsX7_putBit := goodIn_r _ [51, 21, 5, 3, 6, 52, 53, 54, 55, 56, 57, 58, 59, 60, 61, 62, 63, 64, 65, 66, 67, 68, 69, 70, 71, 72, 73, 74, 75, 76, 77, 78, 79, 80] (by decide +kernel) (by decide +kernel)
set_option maxRecDepth 20000 in
theorem gX7_cycles_X7_putBit : GoodIn wsX7_cycles (wsV RX7 168 RX7 yX7_putBit wsX7_putBit) := goodIn_app (goodIn_of _ (by decide +kernel)) ggX7_cycles_X7_putBit
theorem dX7_cycles_0 : decode cX7_cycles 0 = .ok (.aload_n 0, 1) := by decide +kernel
theorem dX7_cycles_1 : decode cX7_cycles 1 = .ok (.invokevirtual 177, 3) := by decide +kernel
theorem dX7_cycles_4 : decode cX7_cycles 4 = .ok (.ifCond .eq 5, 3) := by decide +kernel
theorem dX7_cycles_7 : decode cX7_cycles 7 = .ok (.iconst 0, 1) := by decide +kernel
theorem dX7_cycles_8 : decode cX7_cycles 8 = .ok (.ireturn, 1) := by decide +kernel
theorem dX7_cycles_9 : decode cX7_cycles 9 = .ok (.aload_n 0, 1) := by decide +kernel
theorem dX7_cycles_10 : decode cX7_cycles 10 = .ok (.iconst 0, 1) := by decide +kernel
theorem dX7_cycles_11 : decode cX7_cycles 11 = .ok (.invokevirtual 171, 3) := by decide +kernel
theorem dX7_cycles_14 : decode cX7_cycles 14 = .ok (.iconst 1, 1) := by decide +kernel
theorem dX7_cycles_15 : decode cX7_cycles 15 = .ok (.if_icmp .ne 7, 3) := by decide +kernel
theorem dX7_cycles_18 : decode cX7_cycles 18 = .ok (.iconst 1, 1) := by decide +kernel
theorem dX7_cycles_19 : decode cX7_cycles 19 = .ok (.goto 4, 3) := by decide +kernel
theorem dX7_cycles_22 : decode cX7_cycles 22 = .ok (.iconst 0, 1) := by decide +kernel
theorem dX7_cycles_23 : decode cX7_cycles 23 = .ok (.istore_n 1, 1) := by decide +kernel
theorem dX7_cycles_24 : decode cX7_cycles 24 = .ok (.aload_n 0, 1) := by decide +kernel
theorem dX7_cycles_25 : decode cX7_cycles 25 = .ok (.iconst 0, 1) := by decide +kernel
theorem dX7_cycles_26 : decode cX7_cycles 26 = .ok (.putfield 97, 3) := by decide +kernel
theorem dX7_cycles_29 : decode cX7_cycles 29 = .ok (.iload_n 1, 1) := by decide +kernel
theorem dX7_cycles_30 : decode cX7_cycles 30 = .ok (.ifCond .eq 20, 3) := by decide +kernel
theorem dX7_cycles_33 : decode cX7_cycles 33 = .ok (.aload_n 0, 1) := by decide +kernel
theorem dX7_cycles_34 : decode cX7_cycles 34 = .ok (.getfield 165, 3) := by decide +kernel
theorem dX7_cycles_37 : decode cX7_cycles 37 = .ok (.bipush 121, 2) := by decide +kernel
theorem dX7_cycles_39 : decode cX7_cycles 39 = .ok (.if_icmp .ge 11, 3) := by decide +kernel
theorem dX7_cycles_42 : decode cX7_cycles 42 = .ok (.aload_n 0, 1) := by decide +kernel
theorem dX7_cycles_43 : decode cX7_cycles 43 = .ok (.aload_n 0, 1) := by decide +kernel
theorem dX7_cycles_44 : decode cX7_cycles 44 = .ok (.getfield 165, 3) := by decide +kernel
theorem dX7_cycles_47 : decode cX7_cycles 47 = .ok (.invokevirtual 120, 3) := by decide +kernel
theorem dX7_cycles_50 : decode cX7_cycles 50 = .ok (.aload_n 0, 1) := by decide +kernel
theorem dX7_cycles_51 : decode cX7_cycles 51 = .ok (.getfield 159, 3) := by decide +kernel
theorem dX7_cycles_54 : decode cX7_cycles 54 = .ok (.iconst 1, 1) := by decide +kernel
theorem dX7_cycles_55 : decode cX7_cycles 55 = .ok (.isub, 1) := by decide +kernel
theorem dX7_cycles_56 : decode cX7_cycles 56 = .ok (.bipush 121, 2) := by decide +kernel
theorem dX7_cycles_58 : decode cX7_cycles 58 = .ok (.aload_n 0, 1) := by decide +kernel
theorem dX7_cycles_59 : decode cX7_cycles 59 = .ok (.getfield 97, 3) := by decide +kernel
theorem dX7_cycles_62 : decode cX7_cycles 62 = .ok (.imul, 1) := by decide +kernel
theorem dX7_cycles_63 : decode cX7_cycles 63 = .ok (.iadd, 1) := by decide +kernel
theorem dX7_cycles_64 : decode cX7_cycles 64 = .ok (.ldc 164, 2) := by decide +kernel
theorem dX7_cycles_66 : decode cX7_cycles 66 = .ok (.if_icmp .le 5, 3) := by decide +kernel
theorem dX7_cycles_69 : decode cX7_cycles 69 = .ok (.iconst 0, 1) := by decide +kernel
theorem dX7_cycles_70 : decode cX7_cycles 70 = .ok (.ireturn, 1) := by decide +kernel
theorem dX7_cycles_71 : decode cX7_cycles 71 = .ok (.aload_n 0, 1) := by decide +kernel
theorem dX7_cycles_72 : decode cX7_cycles 72 = .ok (.aload_n 0, 1) := by decide +kernel
theorem dX7_cycles_73 : decode cX7_cycles 73 = .ok (.getfield 156, 3) := by decide +kernel
theorem dX7_cycles_76 : decode cX7_cycles 76 = .ok (.iconst 1, 1) := by decide +kernel
theorem dX7_cycles_77 : decode cX7_cycles 77 = .ok (.iadd, 1) := by decide +kernel
theorem dX7_cycles_78 : decode cX7_cycles 78 = .ok (.ldc 40, 2) := by decide +kernel
theorem dX7_cycles_80 : decode cX7_cycles 80 = .ok (.irem, 1) := by decide +kernel
theorem dX7_cycles_81 : decode cX7_cycles 81 = .ok (.putfield 156, 3) := by decide +kernel
theorem dX7_cycles_84 : decode cX7_cycles 84 = .ok (.aload_n 0, 1) := by decide +kernel
theorem dX7_cycles_85 : decode cX7_cycles 85 = .ok (.dup, 1) := by decide +kernel
theorem dX7_cycles_86 : decode cX7_cycles 86 = .ok (.getfield 159, 3) := by decide +kernel
theorem dX7_cycles_89 : decode cX7_cycles 89 = .ok (.iconst 1, 1) := by decide +kernel
theorem dX7_cycles_90 : decode cX7_cycles 90 = .ok (.isub, 1) := by decide +kernel
theorem dX7_cycles_91 : decode cX7_cycles 91 = .ok (.putfield 159, 3) := by decide +kernel
theorem dX7_cycles_94 : decode cX7_cycles 94 = .ok (.iconst 0, 1) := by decide +kernel
theorem dX7_cycles_95 : decode cX7_cycles 95 = .ok (.istore_n 2, 1) := by decide +kernel
theorem dX7_cycles_96 : decode cX7_cycles 96 = .ok (.iload_n 2, 1) := by decide +kernel
theorem dX7_cycles_97 : decode cX7_cycles 97 = .ok (.aload_n 0, 1) := by decide +kernel
theorem dX7_cycles_98 : decode cX7_cycles 98 = .ok (.getfield 97, 3) := by decide +kernel
theorem dX7_cycles_101 : decode cX7_cycles 101 = .ok (.if_icmp .ge 42, 3) := by decide +kernel
theorem dX7_cycles_104 : decode cX7_cycles 104 = .ok (.iconst 0, 1) := by decide +kernel
theorem dX7_cycles_105 : decode cX7_cycles 105 = .ok (.istore_n 3, 1) := by decide +kernel
theorem dX7_cycles_106 : decode cX7_cycles 106 = .ok (.iload_n 3, 1) := by decide +kernel
theorem dX7_cycles_107 : decode cX7_cycles 107 = .ok (.bipush 121, 2) := by decide +kernel
theorem dX7_cycles_109 : decode cX7_cycles 109 = .ok (.if_icmp .ge 28, 3) := by decide +kernel
theorem dX7_cycles_112 : decode cX7_cycles 112 = .ok (.aload_n 0, 1) := by decide +kernel
theorem dX7_cycles_113 : decode cX7_cycles 113 = .ok (.aload_n 0, 1) := by decide +kernel
theorem dX7_cycles_114 : decode cX7_cycles 114 = .ok (.getfield 44, 3) := by decide +kernel
theorem dX7_cycles_117 : decode cX7_cycles 117 = .ok (.iload_n 2, 1) := by decide +kernel
theorem dX7_cycles_118 : decode cX7_cycles 118 = .ok (.iaload, 1) := by decide +kernel
theorem dX7_cycles_119 : decode cX7_cycles 119 = .ok (.iload_n 3, 1) := by decide +kernel
theorem dX7_cycles_120 : decode cX7_cycles 120 = .ok (.if_icmp .ne 7, 3) := by decide +kernel
theorem dX7_cycles_123 : decode cX7_cycles 123 = .ok (.iconst 1, 1) := by decide +kernel
theorem dX7_cycles_124 : decode cX7_cycles 124 = .ok (.goto 4, 3) := by decide +kernel
theorem dX7_cycles_127 : decode cX7_cycles 127 = .ok (.iconst 0, 1) := by decide +kernel
theorem dX7_cycles_128 : decode cX7_cycles 128 = .ok (.invokevirtual 168, 3) := by decide +kernel
theorem dX7_cycles_131 : decode cX7_cycles 131 = .ok (.iinc 3 1, 3) := by decide +kernel
theorem dX7_cycles_134 : decode cX7_cycles 134 = .ok (.goto (-28), 3) := by decide +kernel
theorem dX7_cycles_137 : decode cX7_cycles 137 = .ok (.iinc 2 1, 3) := by decide +kernel
theorem dX7_cycles_140 : decode cX7_cycles 140 = .ok (.goto (-44), 3) := by decide +kernel
theorem dX7_cycles_143 : decode cX7_cycles 143 = .ok (.aload_n 0, 1) := by decide +kernel
theorem dX7_cycles_144 : decode cX7_cycles 144 = .ok (.aload_n 0, 1) := by decide +kernel
theorem dX7_cycles_145 : decode cX7_cycles 145 = .ok (.getfield 165, 3) := by decide +kernel
theorem dX7_cycles_148 : decode cX7_cycles 148 = .ok (.iconst 1, 1) := by decide +kernel
theorem dX7_cycles_149 : decode cX7_cycles 149 = .ok (.iadd, 1) := by decide +kernel
theorem dX7_cycles_150 : decode cX7_cycles 150 = .ok (.sipush 242, 3) := by decide +kernel
theorem dX7_cycles_153 : decode cX7_cycles 153 = .ok (.irem, 1) := by decide +kernel
theorem dX7_cycles_154 : decode cX7_cycles 154 = .ok (.putfield 165, 3) := by decide +kernel
theorem dX7_cycles_157 : decode cX7_cycles 157 = .ok (.iconst 1, 1) := by decide +kernel
theorem dX7_cycles_158 : decode cX7_cycles 158 = .ok (.ireturn, 1) := by decide +kernel
set_option maxRecDepth 20000 in
theorem ggX7_cycle_X7_in : GoodIn wsX7_cycle wsX7_in := goodIn_r _ [6] (by decide +kernel) (by decide +kernel)
set_option maxRecDepth 20000 in
theorem gX7_cycle_X7_in : GoodIn wsX7_cycle (va_wsS RX7 53 yX7_in wsX7_in) := goodIn_app (goodIn_of _ (by decide +kernel)) ggX7_cycle_X7_in
set_option maxRecDepth 20000 in
theorem ggX7_cycle_X7_cycles : GoodIn wsX7_cycle wsX7_cycles := goodIn_r _ [10, 11, 12, 13, 14, 15, 16, 17, 18, 19, 20, 5, 21, 22, 23, 24, 25, 26, 27, 28, 29, 30, 31, 32, 33, 34, 35, 36, 37, 38, 39, 40, 41, 42, 43, 44, 45, 46, 47, 48, 49, 50, 51, 52, 53, 54, 55, 56, 57, 58, 59, 60, 61, 62, 63, 64, 65, 66, 67, 68, 69, 70, 71, 72, 73, 74, 75, 76, 77, 78, 79, 80, 81, 82, 83, 84, 85, 86, 87, 88, 89] (by decide +kernel) (by decide +kernel)
set_option maxRecDepth 20000 in
theorem gX7_cycle_X7_cycles : GoodIn wsX7_cycle (wsV RX7 182 RX7 yX7_cycles wsX7_cycles) := goodIn_app (goodIn_of _ (by decide +kernel)) ggX7_cycle_X7_cycles
theorem dX7_cycle_0 : decode cX7_cycle 0 = .ok (.aload_n 0, 1) := by decide +kernel
theorem dX7_cycle_1 : decode cX7_cycle 1 = .ok (.iconst 0, 1) := by decide +kernel
theorem dX7_cycle_2 : decode cX7_cycle 2 = .ok (.putfield 47, 3) := by decide +kernel
theorem dX7_cycle_5 : decode cX7_cycle 5 = .ok (.iload_n 1, 1) := by decide +kernel
theorem dX7_cycle_6 : decode cX7_cycle 6 = .ok (.i2l, 1) := by decide +kernel
theorem dX7_cycle_7 : decode cX7_cycle 7 = .ok (.lconst 1, 1) := by decide +kernel
theorem dX7_cycle_8 : decode cX7_cycle 8 = .ok (.ldc2_w 180, 3) := by decide +kernel
theorem dX7_cycle_11 : decode cX7_cycle 11 = .ok (.invokestatic 53, 3) := by decide +kernel
theorem dX7_cycle_14 : decode cX7_cycle 14 = .ok (.ifCond .ne 5, 3) := by decide +kernel
theorem dX7_cycle_17 : decode cX7_cycle 17 = .ok (.iconst (-1), 1) := by decide +kernel
theorem dX7_cycle_18 : decode cX7_cycle 18 = .ok (.ireturn, 1) := by decide +kernel
theorem dX7_cycle_19 : decode cX7_cycle 19 = .ok (.iconst 0, 1) := by decide +kernel
theorem dX7_cycle_20 : decode cX7_cycle 20 = .ok (.istore_n 2, 1) := by decide +kernel
theorem dX7_cycle_21 : decode cX7_cycle 21 = .ok (.iload_n 2, 1) := by decide +kernel
theorem dX7_cycle_22 : decode cX7_cycle 22 = .ok (.iload_n 1, 1) := by decide +kernel
theorem dX7_cycle_23 : decode cX7_cycle 23 = .ok (.if_icmp .ge 16, 3) := by decide +kernel
theorem dX7_cycle_26 : decode cX7_cycle 26 = .ok (.aload_n 0, 1) := by decide +kernel
theorem dX7_cycle_27 : decode cX7_cycle 27 = .ok (.invokevirtual 182, 3) := by decide +kernel
theorem dX7_cycle_30 : decode cX7_cycle 30 = .ok (.ifCond .eq 9, 3) := by decide +kernel
theorem dX7_cycle_33 : decode cX7_cycle 33 = .ok (.iinc 2 1, 3) := by decide +kernel
theorem dX7_cycle_36 : decode cX7_cycle 36 = .ok (.goto (-15), 3) := by decide +kernel
theorem dX7_cycle_39 : decode cX7_cycle 39 = .ok (.iload_n 2, 1) := by decide +kernel
theorem dX7_cycle_40 : decode cX7_cycle 40 = .ok (.ireturn, 1) := by decide +kernel
set_option maxRecDepth 20000 in
theorem ggX7_bit_X7_in : GoodIn wsX7_bit wsX7_in := goodIn_r _ [6] (by decide +kernel) (by decide +kernel)
set_option maxRecDepth 20000 in
theorem gX7_bit_X7_in : GoodIn wsX7_bit (va_wsS RX7 53 yX7_in wsX7_in) := goodIn_app (goodIn_of _ (by decide +kernel)) ggX7_bit_X7_in
set_option maxRecDepth 20000 in
theorem ggX7_bit_X7_bitAt : GoodIn wsX7_bit wsX7_bitAt := goodIn_r _ [10, 11, 12, 13, 14, 15, 16, 17, 18, 19, 20, 21, 22, 23, 24, 25, 26, 27, 28, 29, 30, 31, 32, 33, 34, 35, 36, 37, 38, 39, 40, 41, 42] (by decide +kernel) (by decide +kernel)
set_option maxRecDepth 20000 in
theorem gX7_bit_X7_bitAt : GoodIn wsX7_bit (wsV RX7 171 RX7 yX7_bitAt wsX7_bitAt) := goodIn_app (goodIn_of _ (by decide +kernel)) ggX7_bit_X7_bitAt
theorem dX7_bit_0 : decode cX7_bit 0 = .ok (.aload_n 0, 1) := by decide +kernel
theorem dX7_bit_1 : decode cX7_bit 1 = .ok (.iconst 0, 1) := by decide +kernel
theorem dX7_bit_2 : decode cX7_bit 2 = .ok (.putfield 47, 3) := by decide +kernel
theorem dX7_bit_5 : decode cX7_bit 5 = .ok (.iload_n 1, 1) := by decide +kernel
theorem dX7_bit_6 : decode cX7_bit 6 = .ok (.i2l, 1) := by decide +kernel
theorem dX7_bit_7 : decode cX7_bit 7 = .ok (.lconst 0, 1) := by decide +kernel
theorem dX7_bit_8 : decode cX7_bit 8 = .ok (.aload_n 0, 1) := by decide +kernel
theorem dX7_bit_9 : decode cX7_bit 9 = .ok (.getfield 159, 3) := by decide +kernel
theorem dX7_bit_12 : decode cX7_bit 12 = .ok (.iconst 1, 1) := by decide +kernel
theorem dX7_bit_13 : decode cX7_bit 13 = .ok (.isub, 1) := by decide +kernel
theorem dX7_bit_14 : decode cX7_bit 14 = .ok (.i2l, 1) := by decide +kernel
theorem dX7_bit_15 : decode cX7_bit 15 = .ok (.invokestatic 53, 3) := by decide +kernel
theorem dX7_bit_18 : decode cX7_bit 18 = .ok (.ifCond .eq 11, 3) := by decide +kernel
theorem dX7_bit_21 : decode cX7_bit 21 = .ok (.aload_n 0, 1) := by decide +kernel
theorem dX7_bit_22 : decode cX7_bit 22 = .ok (.iload_n 1, 1) := by decide +kernel
theorem dX7_bit_23 : decode cX7_bit 23 = .ok (.invokevirtual 171, 3) := by decide +kernel
theorem dX7_bit_26 : decode cX7_bit 26 = .ok (.goto 5, 3) := by decide +kernel
theorem dX7_bit_29 : decode cX7_bit 29 = .ok (.bipush (-9), 2) := by decide +kernel
theorem dX7_bit_31 : decode cX7_bit 31 = .ok (.ireturn, 1) := by decide +kernel
set_option maxRecDepth 20000 in
theorem ggX7_bits_X7_bitAt : GoodIn wsX7_bits wsX7_bitAt := goodIn_r _ [8, 9, 10, 11, 48, 49, 50, 51, 52, 53, 54, 55, 56, 57, 58, 59, 60, 61, 62, 63, 64, 65, 66, 67, 68, 69, 70, 71, 72, 73, 74, 75, 76] (by decide +kernel) (by decide +kernel)
set_option maxRecDepth 20000 in
theorem gX7_bits_X7_bitAt : GoodIn wsX7_bits (wsV RX7 171 RX7 yX7_bitAt wsX7_bitAt) := goodIn_app (goodIn_of _ (by decide +kernel)) ggX7_bits_X7_bitAt
set_option maxRecDepth 20000 in
theorem ggX7_bits_X7_isStill : GoodIn wsX7_bits wsX7_isStill := goodIn_r _ [15, 3, 2, 16, 17, 18, 19, 7, 20, 4, 5, 6, 8, 9, 10, 11, 21, 22, 23, 24, 25, 26, 27, 28, 29, 30, 31, 32, 33, 34, 35, 36, 37, 38, 39, 40, 41, 42, 43, 44, 45, 46, 47, 48, 49, 50, 51, 52, 53, 54, 55, 56, 57, 58, 59, 60, 61, 62, 63, 64, 65, 66, 67, 68, 69, 70, 71, 72, 73, 74, 75, 76] (by decide +kernel) (by decide +kernel)
set_option maxRecDepth 20000 in
theorem gX7_bits_X7_isStill : GoodIn wsX7_bits (wsV RX7 177 RX7 yX7_isStill wsX7_isStill) := goodIn_app (goodIn_of _ (by decide +kernel)) ggX7_bits_X7_isStill
theorem dX7_bits_0 : decode cX7_bits 0 = .ok (.aload_n 0, 1) := by decide +kernel
theorem dX7_bits_1 : decode cX7_bits 1 = .ok (.iconst 0, 1) := by decide +kernel
theorem dX7_bits_2 : decode cX7_bits 2 = .ok (.putfield 47, 3) := by decide +kernel
theorem dX7_bits_5 : decode cX7_bits 5 = .ok (.iload_n 1, 1) := by decide +kernel
theorem dX7_bits_6 : decode cX7_bits 6 = .ok (.tableswitch 81 0 3 #[30, 35, 40, 68], 30) := by decide +kernel
theorem dX7_bits_36 : decode cX7_bits 36 = .ok (.aload_n 0, 1) := by decide +kernel
theorem dX7_bits_37 : decode cX7_bits 37 = .ok (.getfield 159, 3) := by decide +kernel
theorem dX7_bits_40 : decode cX7_bits 40 = .ok (.ireturn, 1) := by decide +kernel
theorem dX7_bits_41 : decode cX7_bits 41 = .ok (.aload_n 0, 1) := by decide +kernel
theorem dX7_bits_42 : decode cX7_bits 42 = .ok (.getfield 165, 3) := by decide +kernel
theorem dX7_bits_45 : decode cX7_bits 45 = .ok (.ireturn, 1) := by decide +kernel
theorem dX7_bits_46 : decode cX7_bits 46 = .ok (.iconst 0, 1) := by decide +kernel
theorem dX7_bits_47 : decode cX7_bits 47 = .ok (.istore_n 2, 1) := by decide +kernel
theorem dX7_bits_48 : decode cX7_bits 48 = .ok (.iconst 0, 1) := by decide +kernel
theorem dX7_bits_49 : decode cX7_bits 49 = .ok (.istore_n 3, 1) := by decide +kernel
theorem dX7_bits_50 : decode cX7_bits 50 = .ok (.iload_n 3, 1) := by decide +kernel
theorem dX7_bits_51 : decode cX7_bits 51 = .ok (.aload_n 0, 1) := by decide +kernel
theorem dX7_bits_52 : decode cX7_bits 52 = .ok (.getfield 159, 3) := by decide +kernel
theorem dX7_bits_55 : decode cX7_bits 55 = .ok (.if_icmp .ge 17, 3) := by decide +kernel
theorem dX7_bits_58 : decode cX7_bits 58 = .ok (.iload_n 2, 1) := by decide +kernel
theorem dX7_bits_59 : decode cX7_bits 59 = .ok (.aload_n 0, 1) := by decide +kernel
theorem dX7_bits_60 : decode cX7_bits 60 = .ok (.iload_n 3, 1) := by decide +kernel
theorem dX7_bits_61 : decode cX7_bits 61 = .ok (.invokevirtual 171, 3) := by decide +kernel
theorem dX7_bits_64 : decode cX7_bits 64 = .ok (.iadd, 1) := by decide +kernel
theorem dX7_bits_65 : decode cX7_bits 65 = .ok (.istore_n 2, 1) := by decide +kernel
theorem dX7_bits_66 : decode cX7_bits 66 = .ok (.iinc 3 1, 3) := by decide +kernel
theorem dX7_bits_69 : decode cX7_bits 69 = .ok (.goto (-19), 3) := by decide +kernel
theorem dX7_bits_72 : decode cX7_bits 72 = .ok (.iload_n 2, 1) := by decide +kernel
theorem dX7_bits_73 : decode cX7_bits 73 = .ok (.ireturn, 1) := by decide +kernel
theorem dX7_bits_74 : decode cX7_bits 74 = .ok (.aload_n 0, 1) := by decide +kernel
theorem dX7_bits_75 : decode cX7_bits 75 = .ok (.invokevirtual 177, 3) := by decide +kernel
theorem dX7_bits_78 : decode cX7_bits 78 = .ok (.ifCond .eq 7, 3) := by decide +kernel
theorem dX7_bits_81 : decode cX7_bits 81 = .ok (.iconst 1, 1) := by decide +kernel
theorem dX7_bits_82 : decode cX7_bits 82 = .ok (.goto 4, 3) := by decide +kernel
theorem dX7_bits_85 : decode cX7_bits 85 = .ok (.iconst 0, 1) := by decide +kernel
theorem dX7_bits_86 : decode cX7_bits 86 = .ok (.ireturn, 1) := by decide +kernel
theorem dX7_bits_87 : decode cX7_bits 87 = .ok (.iconst (-1), 1) := by decide +kernel
theorem dX7_bits_88 : decode cX7_bits 88 = .ok (.ireturn, 1) := by decide +kernel
set_option maxRecDepth 20000 in
theorem ggX7_gather_X7_letterOf : GoodIn wsX7_gather wsX7_letterOf := goodIn_r _ [10, 11, 12, 13, 9, 14, 15, 16, 17, 23, 24, 25, 26, 27, 28, 29, 30, 31, 32, 33, 34, 35, 36, 37, 38, 39, 40, 41, 42, 43, 44, 45, 46, 47, 48, 49, 50, 51] (by decide +kernel) (by decide +kernel)
set_option maxRecDepth 20000 in
theorem gX7_gather_X7_letterOf : GoodIn wsX7_gather (wsV RX7 174 RX7 yX7_letterOf wsX7_letterOf) := goodIn_app (goodIn_of _ (by decide +kernel)) ggX7_gather_X7_letterOf
set_option maxRecDepth 20000 in
theorem ggX7_gather_X7_puts : GoodIn wsX7_gather wsX7_puts := goodIn_r _ [21, 22, 4, 5, 23, 24, 25, 26, 27, 28, 29, 30, 31, 32, 33, 34, 35, 36, 37, 38, 39, 40, 41, 42, 43, 44, 45, 46, 47, 48, 49, 50, 51] (by decide +kernel) (by decide +kernel)
set_option maxRecDepth 20000 in
theorem gX7_gather_X7_puts : GoodIn wsX7_gather (wsV RX7 129 RX7 yX7_puts wsX7_puts) := goodIn_app (goodIn_of _ (by decide +kernel)) ggX7_gather_X7_puts
theorem dX7_gather_0 : decode cX7_gather 0 = .ok (.aload_n 0, 1) := by decide +kernel
theorem dX7_gather_1 : decode cX7_gather 1 = .ok (.iconst 0, 1) := by decide +kernel
theorem dX7_gather_2 : decode cX7_gather 2 = .ok (.putfield 47, 3) := by decide +kernel
theorem dX7_gather_5 : decode cX7_gather 5 = .ok (.aload_n 0, 1) := by decide +kernel
theorem dX7_gather_6 : decode cX7_gather 6 = .ok (.getfield 165, 3) := by decide +kernel
theorem dX7_gather_9 : decode cX7_gather 9 = .ok (.ifCond .ne 13, 3) := by decide +kernel
theorem dX7_gather_12 : decode cX7_gather 12 = .ok (.aload_n 0, 1) := by decide +kernel
theorem dX7_gather_13 : decode cX7_gather 13 = .ok (.getfield 159, 3) := by decide +kernel
theorem dX7_gather_16 : decode cX7_gather 16 = .ok (.bipush 121, 2) := by decide +kernel
theorem dX7_gather_18 : decode cX7_gather 18 = .ok (.irem, 1) := by decide +kernel
theorem dX7_gather_19 : decode cX7_gather 19 = .ok (.ifCond .eq 6, 3) := by decide +kernel
theorem dX7_gather_22 : decode cX7_gather 22 = .ok (.bipush (-2), 2) := by decide +kernel
theorem dX7_gather_24 : decode cX7_gather 24 = .ok (.ireturn, 1) := by decide +kernel
theorem dX7_gather_25 : decode cX7_gather 25 = .ok (.iconst 0, 1) := by decide +kernel
theorem dX7_gather_26 : decode cX7_gather 26 = .ok (.istore_n 1, 1) := by decide +kernel
theorem dX7_gather_27 : decode cX7_gather 27 = .ok (.iload_n 1, 1) := by decide +kernel
theorem dX7_gather_28 : decode cX7_gather 28 = .ok (.aload_n 0, 1) := by decide +kernel
theorem dX7_gather_29 : decode cX7_gather 29 = .ok (.getfield 159, 3) := by decide +kernel
theorem dX7_gather_32 : decode cX7_gather 32 = .ok (.if_icmp .ge 22, 3) := by decide +kernel
theorem dX7_gather_35 : decode cX7_gather 35 = .ok (.aload_n 0, 1) := by decide +kernel
theorem dX7_gather_36 : decode cX7_gather 36 = .ok (.iload_n 1, 1) := by decide +kernel
theorem dX7_gather_37 : decode cX7_gather 37 = .ok (.invokevirtual 174, 3) := by decide +kernel
theorem dX7_gather_40 : decode cX7_gather 40 = .ok (.bipush (-9), 2) := by decide +kernel
theorem dX7_gather_42 : decode cX7_gather 42 = .ok (.if_icmp .ne 6, 3) := by decide +kernel
theorem dX7_gather_45 : decode cX7_gather 45 = .ok (.bipush (-2), 2) := by decide +kernel
theorem dX7_gather_47 : decode cX7_gather 47 = .ok (.ireturn, 1) := by decide +kernel
theorem dX7_gather_48 : decode cX7_gather 48 = .ok (.iinc 1 121, 3) := by decide +kernel
theorem dX7_gather_51 : decode cX7_gather 51 = .ok (.goto (-24), 3) := by decide +kernel
theorem dX7_gather_54 : decode cX7_gather 54 = .ok (.aload_n 0, 1) := by decide +kernel
theorem dX7_gather_55 : decode cX7_gather 55 = .ok (.getfield 159, 3) := by decide +kernel
theorem dX7_gather_58 : decode cX7_gather 58 = .ok (.bipush 121, 2) := by decide +kernel
theorem dX7_gather_60 : decode cX7_gather 60 = .ok (.idiv, 1) := by decide +kernel
theorem dX7_gather_61 : decode cX7_gather 61 = .ok (.sipush 600, 3) := by decide +kernel
theorem dX7_gather_64 : decode cX7_gather 64 = .ok (.if_icmp .le 6, 3) := by decide +kernel
theorem dX7_gather_67 : decode cX7_gather 67 = .ok (.bipush (-3), 2) := by decide +kernel
theorem dX7_gather_69 : decode cX7_gather 69 = .ok (.ireturn, 1) := by decide +kernel
theorem dX7_gather_70 : decode cX7_gather 70 = .ok (.aload_n 0, 1) := by decide +kernel
theorem dX7_gather_71 : decode cX7_gather 71 = .ok (.iconst 0, 1) := by decide +kernel
theorem dX7_gather_72 : decode cX7_gather 72 = .ok (.putfield 123, 3) := by decide +kernel
theorem dX7_gather_75 : decode cX7_gather 75 = .ok (.aload_n 0, 1) := by decide +kernel
theorem dX7_gather_76 : decode cX7_gather 76 = .ok (.iconst 0, 1) := by decide +kernel
theorem dX7_gather_77 : decode cX7_gather 77 = .ok (.putfield 126, 3) := by decide +kernel
theorem dX7_gather_80 : decode cX7_gather 80 = .ok (.iconst 0, 1) := by decide +kernel
theorem dX7_gather_81 : decode cX7_gather 81 = .ok (.istore_n 1, 1) := by decide +kernel
theorem dX7_gather_82 : decode cX7_gather 82 = .ok (.iload_n 1, 1) := by decide +kernel
theorem dX7_gather_83 : decode cX7_gather 83 = .ok (.aload_n 0, 1) := by decide +kernel
theorem dX7_gather_84 : decode cX7_gather 84 = .ok (.getfield 159, 3) := by decide +kernel
theorem dX7_gather_87 : decode cX7_gather 87 = .ok (.if_icmp .ge 18, 3) := by decide +kernel
theorem dX7_gather_90 : decode cX7_gather 90 = .ok (.aload_n 0, 1) := by decide +kernel
theorem dX7_gather_91 : decode cX7_gather 91 = .ok (.aload_n 0, 1) := by decide +kernel
theorem dX7_gather_92 : decode cX7_gather 92 = .ok (.iload_n 1, 1) := by decide +kernel
theorem dX7_gather_93 : decode cX7_gather 93 = .ok (.invokevirtual 174, 3) := by decide +kernel
theorem dX7_gather_96 : decode cX7_gather 96 = .ok (.invokevirtual 129, 3) := by decide +kernel
theorem dX7_gather_99 : decode cX7_gather 99 = .ok (.iinc 1 121, 3) := by decide +kernel
theorem dX7_gather_102 : decode cX7_gather 102 = .ok (.goto (-20), 3) := by decide +kernel
theorem dX7_gather_105 : decode cX7_gather 105 = .ok (.aload_n 0, 1) := by decide +kernel
theorem dX7_gather_106 : decode cX7_gather 106 = .ok (.getfield 126, 3) := by decide +kernel
theorem dX7_gather_109 : decode cX7_gather 109 = .ok (.ireturn, 1) := by decide +kernel
theorem dJ11_isValidCodePoint_9a6ad_0 : decode cJ11_isValidCodePoint_9a6ad 0 = .ok (.iload_n 0, 1) := by decide +kernel
theorem dJ11_isValidCodePoint_9a6ad_1 : decode cJ11_isValidCodePoint_9a6ad 1 = .ok (.bipush 16, 2) := by decide +kernel
theorem dJ11_isValidCodePoint_9a6ad_3 : decode cJ11_isValidCodePoint_9a6ad 3 = .ok (.iushr, 1) := by decide +kernel
theorem dJ11_isValidCodePoint_9a6ad_4 : decode cJ11_isValidCodePoint_9a6ad 4 = .ok (.istore_n 1, 1) := by decide +kernel
theorem dJ11_isValidCodePoint_9a6ad_5 : decode cJ11_isValidCodePoint_9a6ad 5 = .ok (.iload_n 1, 1) := by decide +kernel
theorem dJ11_isValidCodePoint_9a6ad_6 : decode cJ11_isValidCodePoint_9a6ad 6 = .ok (.bipush 17, 2) := by decide +kernel
theorem dJ11_isValidCodePoint_9a6ad_8 : decode cJ11_isValidCodePoint_9a6ad 8 = .ok (.if_icmp .ge 7, 3) := by decide +kernel
theorem dJ11_isValidCodePoint_9a6ad_11 : decode cJ11_isValidCodePoint_9a6ad 11 = .ok (.iconst 1, 1) := by decide +kernel
theorem dJ11_isValidCodePoint_9a6ad_12 : decode cJ11_isValidCodePoint_9a6ad 12 = .ok (.goto 4, 3) := by decide +kernel
theorem dJ11_isValidCodePoint_9a6ad_15 : decode cJ11_isValidCodePoint_9a6ad 15 = .ok (.iconst 0, 1) := by decide +kernel
theorem dJ11_isValidCodePoint_9a6ad_16 : decode cJ11_isValidCodePoint_9a6ad 16 = .ok (.ireturn, 1) := by decide +kernel
theorem dJ11_highSurrogate_5068e_0 : decode cJ11_highSurrogate_5068e 0 = .ok (.iload_n 0, 1) := by decide +kernel
theorem dJ11_highSurrogate_5068e_1 : decode cJ11_highSurrogate_5068e 1 = .ok (.bipush 10, 2) := by decide +kernel
theorem dJ11_highSurrogate_5068e_3 : decode cJ11_highSurrogate_5068e 3 = .ok (.iushr, 1) := by decide +kernel
theorem dJ11_highSurrogate_5068e_4 : decode cJ11_highSurrogate_5068e 4 = .ok (.ldc 110, 2) := by decide +kernel
theorem dJ11_highSurrogate_5068e_6 : decode cJ11_highSurrogate_5068e 6 = .ok (.iadd, 1) := by decide +kernel
theorem dJ11_highSurrogate_5068e_7 : decode cJ11_highSurrogate_5068e 7 = .ok (.i2c, 1) := by decide +kernel
theorem dJ11_highSurrogate_5068e_8 : decode cJ11_highSurrogate_5068e 8 = .ok (.ireturn, 1) := by decide +kernel
theorem dJ11_lowSurrogate_5068e_0 : decode cJ11_lowSurrogate_5068e 0 = .ok (.iload_n 0, 1) := by decide +kernel
theorem dJ11_lowSurrogate_5068e_1 : decode cJ11_lowSurrogate_5068e 1 = .ok (.sipush 1023, 3) := by decide +kernel
theorem dJ11_lowSurrogate_5068e_4 : decode cJ11_lowSurrogate_5068e 4 = .ok (.iand, 1) := by decide +kernel
theorem dJ11_lowSurrogate_5068e_5 : decode cJ11_lowSurrogate_5068e 5 = .ok (.ldc 76, 2) := by decide +kernel
theorem dJ11_lowSurrogate_5068e_7 : decode cJ11_lowSurrogate_5068e 7 = .ok (.iadd, 1) := by decide +kernel
theorem dJ11_lowSurrogate_5068e_8 : decode cJ11_lowSurrogate_5068e 8 = .ok (.i2c, 1) := by decide +kernel
theorem dJ11_lowSurrogate_5068e_9 : decode cJ11_lowSurrogate_5068e 9 = .ok (.ireturn, 1) := by decide +kernel
theorem dJ9_max_7cf53_0 : decode cJ9_max_7cf53 0 = .ok (.iload_n 0, 1) := by decide +kernel
theorem dJ9_max_7cf53_1 : decode cJ9_max_7cf53 1 = .ok (.iload_n 1, 1) := by decide +kernel
theorem dJ9_max_7cf53_2 : decode cJ9_max_7cf53 2 = .ok (.if_icmp .lt 7, 3) := by decide +kernel
theorem dJ9_max_7cf53_5 : decode cJ9_max_7cf53 5 = .ok (.iload_n 0, 1) := by decide +kernel
theorem dJ9_max_7cf53_6 : decode cJ9_max_7cf53 6 = .ok (.goto 4, 3) := by decide +kernel
theorem dJ9_max_7cf53_9 : decode cJ9_max_7cf53 9 = .ok (.iload_n 1, 1) := by decide +kernel
theorem dJ9_max_7cf53_10 : decode cJ9_max_7cf53 10 = .ok (.ireturn, 1) := by decide +kernel
theorem dJ9_min_7cf53_0 : decode cJ9_min_7cf53 0 = .ok (.iload_n 0, 1) := by decide +kernel
theorem dJ9_min_7cf53_1 : decode cJ9_min_7cf53 1 = .ok (.iload_n 1, 1) := by decide +kernel
theorem dJ9_min_7cf53_2 : decode cJ9_min_7cf53 2 = .ok (.if_icmp .gt 7, 3) := by decide +kernel
theorem dJ9_min_7cf53_5 : decode cJ9_min_7cf53 5 = .ok (.iload_n 0, 1) := by decide +kernel
theorem dJ9_min_7cf53_6 : decode cJ9_min_7cf53 6 = .ok (.goto 4, 3) := by decide +kernel
theorem dJ9_min_7cf53_9 : decode cJ9_min_7cf53 9 = .ok (.iload_n 1, 1) := by decide +kernel
theorem dJ9_min_7cf53_10 : decode cJ9_min_7cf53 10 = .ok (.ireturn, 1) := by decide +kernel
set_option maxRecDepth 20000 in
theorem ggJ0_length_8abf5_J0_coder_7d493 : GoodIn wsJ0_length_8abf5 wsJ0_coder_7d493 := goodIn_r _ [6, 7, 8] (by decide +kernel) (by decide +kernel)
set_option maxRecDepth 20000 in
theorem gJ0_length_8abf5_J0_coder_7d493 : GoodIn wsJ0_length_8abf5 (wsV RJ0 335 RJ0 yJ0_coder_7d493 wsJ0_coder_7d493) := goodIn_app (goodIn_of _ (by decide +kernel)) ggJ0_length_8abf5_J0_coder_7d493
theorem dJ0_length_8abf5_0 : decode cJ0_length_8abf5 0 = .ok (.aload_n 0, 1) := by decide +kernel
theorem dJ0_length_8abf5_1 : decode cJ0_length_8abf5 1 = .ok (.getfield 9, 3) := by decide +kernel
theorem dJ0_length_8abf5_4 : decode cJ0_length_8abf5 4 = .ok (.arraylength, 1) := by decide +kernel
theorem dJ0_length_8abf5_5 : decode cJ0_length_8abf5 5 = .ok (.aload_n 0, 1) := by decide +kernel
theorem dJ0_length_8abf5_6 : decode cJ0_length_8abf5 6 = .ok (.invokevirtual 335, 3) := by decide +kernel
theorem dJ0_length_8abf5_9 : decode cJ0_length_8abf5 9 = .ok (.ishr, 1) := by decide +kernel
theorem dJ0_length_8abf5_10 : decode cJ0_length_8abf5 10 = .ok (.ireturn, 1) := by decide +kernel
set_option maxRecDepth 20000 in
theorem ggJ0_charAt_5068e_J0_isLatin1_aae02 : GoodIn wsJ0_charAt_5068e wsJ0_isLatin1_aae02 := goodIn_r _ [6, 7, 8] (by decide +kernel) (by decide +kernel)
set_option maxRecDepth 20000 in
theorem gJ0_charAt_5068e_J0_isLatin1_aae02 : GoodIn wsJ0_charAt_5068e (wsV RJ0 492 RJ0 yJ0_isLatin1_aae02 wsJ0_isLatin1_aae02) := goodIn_app (goodIn_of _ (by decide +kernel)) ggJ0_charAt_5068e_J0_isLatin1_aae02
set_option maxRecDepth 20000 in
theorem ggJ0_charAt_5068e_J1_charAt_3b067 : GoodIn wsJ0_charAt_5068e wsJ1_charAt_3b067 := goodIn_r _ [12, 13, 14, 5, 15, 16, 17, 18, 19, 20] (by decide +kernel) (by decide +kernel)
set_option maxRecDepth 20000 in
theorem gJ0_charAt_5068e_J1_charAt_3b067 : GoodIn wsJ0_charAt_5068e (va_wsS RJ0 495 yJ1_charAt_3b067 wsJ1_charAt_3b067) := goodIn_app (goodIn_of _ (by decide +kernel)) ggJ0_charAt_5068e_J1_charAt_3b067
set_option maxRecDepth 20000 in
theorem ggJ0_charAt_5068e_J2_charAt_3b067 : GoodIn wsJ0_charAt_5068e wsJ2_charAt_3b067 := goodIn_r _ [24, 25, 26, 23, 27, 28, 29, 30, 31, 14, 5, 15, 16, 17, 18, 19, 20, 32, 33, 34, 35, 36, 37] (by decide +kernel) (by decide +kernel)
set_option maxRecDepth 20000 in
theorem gJ0_charAt_5068e_J2_charAt_3b067 : GoodIn wsJ0_charAt_5068e (va_wsS RJ0 498 yJ2_charAt_3b067 wsJ2_charAt_3b067) := goodIn_app (goodIn_of _ (by decide +kernel)) ggJ0_charAt_5068e_J2_charAt_3b067
theorem dJ0_charAt_5068e_0 : decode cJ0_charAt_5068e 0 = .ok (.aload_n 0, 1) := by decide +kernel
theorem dJ0_charAt_5068e_1 : decode cJ0_charAt_5068e 1 = .ok (.invokevirtual 492, 3) := by decide +kernel
theorem dJ0_charAt_5068e_4 : decode cJ0_charAt_5068e 4 = .ok (.ifCond .eq 12, 3) := by decide +kernel
theorem dJ0_charAt_5068e_7 : decode cJ0_charAt_5068e 7 = .ok (.aload_n 0, 1) := by decide +kernel
theorem dJ0_charAt_5068e_8 : decode cJ0_charAt_5068e 8 = .ok (.getfield 9, 3) := by decide +kernel
theorem dJ0_charAt_5068e_11 : decode cJ0_charAt_5068e 11 = .ok (.iload_n 1, 1) := by decide +kernel
theorem dJ0_charAt_5068e_12 : decode cJ0_charAt_5068e 12 = .ok (.invokestatic 495, 3) := by decide +kernel
theorem dJ0_charAt_5068e_15 : decode cJ0_charAt_5068e 15 = .ok (.ireturn, 1) := by decide +kernel
theorem dJ0_charAt_5068e_16 : decode cJ0_charAt_5068e 16 = .ok (.aload_n 0, 1) := by decide +kernel
theorem dJ0_charAt_5068e_17 : decode cJ0_charAt_5068e 17 = .ok (.getfield 9, 3) := by decide +kernel
theorem dJ0_charAt_5068e_20 : decode cJ0_charAt_5068e 20 = .ok (.iload_n 1, 1) := by decide +kernel
theorem dJ0_charAt_5068e_21 : decode cJ0_charAt_5068e 21 = .ok (.invokestatic 498, 3) := by decide +kernel
theorem dJ0_charAt_5068e_24 : decode cJ0_charAt_5068e 24 = .ok (.ireturn, 1) := by decide +kernel
set_option maxRecDepth 20000 in
theorem ggJ0_indexOf_0f7a4_J0_indexOf_7cf53 : GoodIn wsJ0_indexOf_0f7a4 wsJ0_indexOf_7cf53 := goodIn_r _ [5, 6, 7, 8, 9, 4, 10, 11, 12, 13, 14, 15, 16, 17, 18, 19, 20, 21, 22, 23, 24, 25, 26, 27, 28, 29, 30, 31, 32, 33, 34, 35, 36, 37, 38, 39, 40, 41, 42, 43, 44, 45, 46, 47, 48, 49, 50, 51, 52, 53, 54, 55, 56, 57, 58, 59, 60, 61, 62, 63, 64, 65, 66, 67, 68, 69, 70, 71, 72, 73, 74, 75, 76, 77, 78, 79, 80, 81, 82, 83, 84, 85] (by decide +kernel) (by decide +kernel)
set_option maxRecDepth 20000 in
theorem gJ0_indexOf_0f7a4_J0_indexOf_7cf53 : GoodIn wsJ0_indexOf_0f7a4 (wsV RJ0 633 RJ0 yJ0_indexOf_7cf53 wsJ0_indexOf_7cf53) := goodIn_app (goodIn_of _ (by decide +kernel)) ggJ0_indexOf_0f7a4_J0_indexOf_7cf53
theorem dJ0_indexOf_0f7a4_0 : decode cJ0_indexOf_0f7a4 0 = .ok (.aload_n 0, 1) := by decide +kernel
theorem dJ0_indexOf_0f7a4_1 : decode cJ0_indexOf_0f7a4 1 = .ok (.iload_n 1, 1) := by decide +kernel
theorem dJ0_indexOf_0f7a4_2 : decode cJ0_indexOf_0f7a4 2 = .ok (.iconst 0, 1) := by decide +kernel
theorem dJ0_indexOf_0f7a4_3 : decode cJ0_indexOf_0f7a4 3 = .ok (.invokevirtual 633, 3) := by decide +kernel
theorem dJ0_indexOf_0f7a4_6 : decode cJ0_indexOf_0f7a4 6 = .ok (.ireturn, 1) := by decide +kernel
set_option maxRecDepth 20000 in
theorem ggJ0_indexOf_7cf53_J0_isLatin1_aae02 : GoodIn wsJ0_indexOf_7cf53 wsJ0_isLatin1_aae02 := goodIn_r _ [6, 7, 8] (by decide +kernel) (by decide +kernel)
set_option maxRecDepth 20000 in
theorem gJ0_indexOf_7cf53_J0_isLatin1_aae02 : GoodIn wsJ0_indexOf_7cf53 (wsV RJ0 492 RJ0 yJ0_isLatin1_aae02 wsJ0_isLatin1_aae02) := goodIn_app (goodIn_of _ (by decide +kernel)) ggJ0_indexOf_7cf53_J0_isLatin1_aae02
set_option maxRecDepth 20000 in
theorem ggJ0_indexOf_7cf53_J0_length_8abf5 : GoodIn wsJ0_indexOf_7cf53 wsJ0_length_8abf5 := goodIn_r _ [12, 1, 13, 14, 15, 5, 16, 7, 8] (by decide +kernel) (by decide +kernel)
set_option maxRecDepth 20000 in
theorem gJ0_indexOf_7cf53_J0_length_8abf5 : GoodIn wsJ0_indexOf_7cf53 (wsV RJ0 505 RJ0 yJ0_length_8abf5 wsJ0_length_8abf5) := goodIn_app (goodIn_of _ (by decide +kernel)) ggJ0_indexOf_7cf53_J0_length_8abf5
set_option maxRecDepth 20000 in
theorem ggJ0_indexOf_7cf53_J1_indexOf_4cfef : GoodIn wsJ0_indexOf_7cf53 wsJ1_indexOf_4cfef := goodIn_r _ [20, 21, 22, 23, 24, 25, 26, 27, 28, 29, 19, 30, 31, 32, 33] (by decide +kernel) (by decide +kernel)
set_option maxRecDepth 20000 in
theorem gJ0_indexOf_7cf53_J1_indexOf_4cfef : GoodIn wsJ0_indexOf_7cf53 (va_wsS RJ0 637 yJ1_indexOf_4cfef wsJ1_indexOf_4cfef) := goodIn_app (goodIn_of _ (by decide +kernel)) ggJ0_indexOf_7cf53_J1_indexOf_4cfef
set_option maxRecDepth 20000 in
theorem ggJ0_indexOf_7cf53_J2_indexOf_4cfef : GoodIn wsJ0_indexOf_7cf53 wsJ2_indexOf_4cfef := goodIn_r _ [37, 38, 22, 23, 24, 39, 26, 27, 40, 41, 42, 36, 43, 44, 45, 46, 47, 48, 49, 50, 51, 5, 52, 53, 54, 55, 56, 57, 58, 59, 60, 61, 62, 63, 64, 65, 66, 67, 68, 69, 70, 71, 72, 73, 74, 75, 76, 77, 78, 79, 80, 81] (by decide +kernel) (by decide +kernel)
set_option maxRecDepth 20000 in
theorem gJ0_indexOf_7cf53_J2_indexOf_4cfef : GoodIn wsJ0_indexOf_7cf53 (va_wsS RJ0 640 yJ2_indexOf_4cfef wsJ2_indexOf_4cfef) := goodIn_app (goodIn_of _ (by decide +kernel)) ggJ0_indexOf_7cf53_J2_indexOf_4cfef
theorem dJ0_indexOf_7cf53_0 : decode cJ0_indexOf_7cf53 0 = .ok (.aload_n 0, 1) := by decide +kernel
theorem dJ0_indexOf_7cf53_1 : decode cJ0_indexOf_7cf53 1 = .ok (.invokevirtual 492, 3) := by decide +kernel
theorem dJ0_indexOf_7cf53_4 : decode cJ0_indexOf_7cf53 4 = .ok (.ifCond .eq 19, 3) := by decide +kernel
theorem dJ0_indexOf_7cf53_7 : decode cJ0_indexOf_7cf53 7 = .ok (.aload_n 0, 1) := by decide +kernel
theorem dJ0_indexOf_7cf53_8 : decode cJ0_indexOf_7cf53 8 = .ok (.getfield 9, 3) := by decide +kernel
theorem dJ0_indexOf_7cf53_11 : decode cJ0_indexOf_7cf53 11 = .ok (.iload_n 1, 1) := by decide +kernel
theorem dJ0_indexOf_7cf53_12 : decode cJ0_indexOf_7cf53 12 = .ok (.iload_n 2, 1) := by decide +kernel
theorem dJ0_indexOf_7cf53_13 : decode cJ0_indexOf_7cf53 13 = .ok (.aload_n 0, 1) := by decide +kernel
theorem dJ0_indexOf_7cf53_14 : decode cJ0_indexOf_7cf53 14 = .ok (.invokevirtual 505, 3) := by decide +kernel
theorem dJ0_indexOf_7cf53_17 : decode cJ0_indexOf_7cf53 17 = .ok (.invokestatic 637, 3) := by decide +kernel
theorem dJ0_indexOf_7cf53_20 : decode cJ0_indexOf_7cf53 20 = .ok (.goto 16, 3) := by decide +kernel
theorem dJ0_indexOf_7cf53_23 : decode cJ0_indexOf_7cf53 23 = .ok (.aload_n 0, 1) := by decide +kernel
theorem dJ0_indexOf_7cf53_24 : decode cJ0_indexOf_7cf53 24 = .ok (.getfield 9, 3) := by decide +kernel
theorem dJ0_indexOf_7cf53_27 : decode cJ0_indexOf_7cf53 27 = .ok (.iload_n 1, 1) := by decide +kernel
theorem dJ0_indexOf_7cf53_28 : decode cJ0_indexOf_7cf53 28 = .ok (.iload_n 2, 1) := by decide +kernel
theorem dJ0_indexOf_7cf53_29 : decode cJ0_indexOf_7cf53 29 = .ok (.aload_n 0, 1) := by decide +kernel
theorem dJ0_indexOf_7cf53_30 : decode cJ0_indexOf_7cf53 30 = .ok (.invokevirtual 505, 3) := by decide +kernel
theorem dJ0_indexOf_7cf53_33 : decode cJ0_indexOf_7cf53 33 = .ok (.invokestatic 640, 3) := by decide +kernel
theorem dJ0_indexOf_7cf53_36 : decode cJ0_indexOf_7cf53 36 = .ok (.ireturn, 1) := by decide +kernel
theorem dJ0_coder_7d493_0 : decode cJ0_coder_7d493 0 = .ok (.getstatic 38, 3) := by decide +kernel
theorem dJ0_coder_7d493_3 : decode cJ0_coder_7d493 3 = .ok (.ifCond .eq 10, 3) := by decide +kernel
theorem dJ0_coder_7d493_6 : decode cJ0_coder_7d493 6 = .ok (.aload_n 0, 1) := by decide +kernel
theorem dJ0_coder_7d493_7 : decode cJ0_coder_7d493 7 = .ok (.getfield 15, 3) := by decide +kernel
theorem dJ0_coder_7d493_10 : decode cJ0_coder_7d493 10 = .ok (.goto 4, 3) := by decide +kernel
theorem dJ0_coder_7d493_13 : decode cJ0_coder_7d493 13 = .ok (.iconst 1, 1) := by decide +kernel
theorem dJ0_coder_7d493_14 : decode cJ0_coder_7d493 14 = .ok (.ireturn, 1) := by decide +kernel
theorem dJ0_isLatin1_aae02_0 : decode cJ0_isLatin1_aae02 0 = .ok (.getstatic 38, 3) := by decide +kernel
theorem dJ0_isLatin1_aae02_3 : decode cJ0_isLatin1_aae02 3 = .ok (.ifCond .eq 14, 3) := by decide +kernel
theorem dJ0_isLatin1_aae02_6 : decode cJ0_isLatin1_aae02 6 = .ok (.aload_n 0, 1) := by decide +kernel
theorem dJ0_isLatin1_aae02_7 : decode cJ0_isLatin1_aae02 7 = .ok (.getfield 15, 3) := by decide +kernel
theorem dJ0_isLatin1_aae02_10 : decode cJ0_isLatin1_aae02 10 = .ok (.ifCond .ne 7, 3) := by decide +kernel
theorem dJ0_isLatin1_aae02_13 : decode cJ0_isLatin1_aae02 13 = .ok (.iconst 1, 1) := by decide +kernel
theorem dJ0_isLatin1_aae02_14 : decode cJ0_isLatin1_aae02 14 = .ok (.goto 4, 3) := by decide +kernel
theorem dJ0_isLatin1_aae02_17 : decode cJ0_isLatin1_aae02 17 = .ok (.iconst 0, 1) := by decide +kernel
theorem dJ0_isLatin1_aae02_18 : decode cJ0_isLatin1_aae02 18 = .ok (.ireturn, 1) := by decide +kernel
set_option maxRecDepth 20000 in
theorem ggJ0_checkIndex_df160_J3_checkIndex_8e157 : GoodIn wsJ0_checkIndex_df160 wsJ3_checkIndex_8e157 := goodIn_r _ [5] (by decide +kernel) (by decide +kernel)
set_option maxRecDepth 20000 in
theorem gJ0_checkIndex_df160_J3_checkIndex_8e157 : GoodIn wsJ0_checkIndex_df160 (va_wsS RJ0 1059 yJ3_checkIndex_8e157 wsJ3_checkIndex_8e157) := goodIn_app (goodIn_of _ (by decide +kernel)) ggJ0_checkIndex_df160_J3_checkIndex_8e157
theorem dJ0_checkIndex_df160_0 : decode cJ0_checkIndex_df160 0 = .ok (.iload_n 0, 1) := by decide +kernel
theorem dJ0_checkIndex_df160_1 : decode cJ0_checkIndex_df160 1 = .ok (.iload_n 1, 1) := by decide +kernel
theorem dJ0_checkIndex_df160_2 : decode cJ0_checkIndex_df160 2 = .ok (.getstatic 1053, 3) := by decide +kernel
theorem dJ0_checkIndex_df160_5 : decode cJ0_checkIndex_df160 5 = .ok (.invokestatic 1059, 3) := by decide +kernel
theorem dJ0_checkIndex_df160_8 : decode cJ0_checkIndex_df160 8 = .ok (.pop, 1) := by decide +kernel
theorem dJ0_checkIndex_df160_9 : decode cJ0_checkIndex_df160 9 = .ok (.return_, 1) := by decide +kernel
set_option maxRecDepth 20000 in
theorem ggJ0_checkBoundsBeginEnd_23922_J3_checkFromToIndex_8c36e : GoodIn wsJ0_checkBoundsBeginEnd_23922 wsJ3_checkFromToIndex_8c36e := goodIn_r _ [5] (by decide +kernel) (by decide +kernel)
set_option maxRecDepth 20000 in
theorem gJ0_checkBoundsBeginEnd_23922_J3_checkFromToIndex_8c36e : GoodIn wsJ0_checkBoundsBeginEnd_23922 (va_wsS RJ0 1062 yJ3_checkFromToIndex_8c36e wsJ3_checkFromToIndex_8c36e) := goodIn_app (goodIn_of _ (by decide +kernel)) ggJ0_checkBoundsBeginEnd_23922_J3_checkFromToIndex_8c36e
theorem dJ0_checkBoundsBeginEnd_23922_0 : decode cJ0_checkBoundsBeginEnd_23922 0 = .ok (.iload_n 0, 1) := by decide +kernel
theorem dJ0_checkBoundsBeginEnd_23922_1 : decode cJ0_checkBoundsBeginEnd_23922 1 = .ok (.iload_n 1, 1) := by decide +kernel
theorem dJ0_checkBoundsBeginEnd_23922_2 : decode cJ0_checkBoundsBeginEnd_23922 2 = .ok (.iload_n 2, 1) := by decide +kernel
theorem dJ0_checkBoundsBeginEnd_23922_3 : decode cJ0_checkBoundsBeginEnd_23922 3 = .ok (.getstatic 1053, 3) := by decide +kernel
theorem dJ0_checkBoundsBeginEnd_23922_6 : decode cJ0_checkBoundsBeginEnd_23922 6 = .ok (.invokestatic 1062, 3) := by decide +kernel
theorem dJ0_checkBoundsBeginEnd_23922_9 : decode cJ0_checkBoundsBeginEnd_23922 9 = .ok (.pop, 1) := by decide +kernel
theorem dJ0_checkBoundsBeginEnd_23922_10 : decode cJ0_checkBoundsBeginEnd_23922 10 = .ok (.return_, 1) := by decide +kernel
set_option maxRecDepth 20000 in
theorem ggJ1_charAt_3b067_J0_checkIndex_df160 : GoodIn wsJ1_charAt_3b067 wsJ0_checkIndex_df160 := goodIn_r _ [4, 5, 6, 7, 8, 9] (by decide +kernel) (by decide +kernel)
set_option maxRecDepth 20000 in
theorem gJ1_charAt_3b067_J0_checkIndex_df160 : GoodIn wsJ1_charAt_3b067 (va_wsS RJ1 9 yJ0_checkIndex_df160 wsJ0_checkIndex_df160) := goodIn_app (goodIn_of _ (by decide +kernel)) ggJ1_charAt_3b067_J0_checkIndex_df160
theorem dJ1_charAt_3b067_0 : decode cJ1_charAt_3b067 0 = .ok (.iload_n 1, 1) := by decide +kernel
theorem dJ1_charAt_3b067_1 : decode cJ1_charAt_3b067 1 = .ok (.aload_n 0, 1) := by decide +kernel
theorem dJ1_charAt_3b067_2 : decode cJ1_charAt_3b067 2 = .ok (.arraylength, 1) := by decide +kernel
theorem dJ1_charAt_3b067_3 : decode cJ1_charAt_3b067 3 = .ok (.invokestatic 9, 3) := by decide +kernel
theorem dJ1_charAt_3b067_6 : decode cJ1_charAt_3b067 6 = .ok (.aload_n 0, 1) := by decide +kernel
theorem dJ1_charAt_3b067_7 : decode cJ1_charAt_3b067 7 = .ok (.iload_n 1, 1) := by decide +kernel
theorem dJ1_charAt_3b067_8 : decode cJ1_charAt_3b067 8 = .ok (.baload, 1) := by decide +kernel
theorem dJ1_charAt_3b067_9 : decode cJ1_charAt_3b067 9 = .ok (.sipush 255, 3) := by decide +kernel
theorem dJ1_charAt_3b067_12 : decode cJ1_charAt_3b067 12 = .ok (.iand, 1) := by decide +kernel
theorem dJ1_charAt_3b067_13 : decode cJ1_charAt_3b067 13 = .ok (.i2c, 1) := by decide +kernel
theorem dJ1_charAt_3b067_14 : decode cJ1_charAt_3b067 14 = .ok (.ireturn, 1) := by decide +kernel
theorem dJ1_canEncode_9a6ad_0 : decode cJ1_canEncode_9a6ad 0 = .ok (.iload_n 0, 1) := by decide +kernel
theorem dJ1_canEncode_9a6ad_1 : decode cJ1_canEncode_9a6ad 1 = .ok (.ifCond .lt 14, 3) := by decide +kernel
theorem dJ1_canEncode_9a6ad_4 : decode cJ1_canEncode_9a6ad 4 = .ok (.iload_n 0, 1) := by decide +kernel
theorem dJ1_canEncode_9a6ad_5 : decode cJ1_canEncode_9a6ad 5 = .ok (.sipush 255, 3) := by decide +kernel
theorem dJ1_canEncode_9a6ad_8 : decode cJ1_canEncode_9a6ad 8 = .ok (.if_icmp .gt 7, 3) := by decide +kernel
theorem dJ1_canEncode_9a6ad_11 : decode cJ1_canEncode_9a6ad 11 = .ok (.iconst 1, 1) := by decide +kernel
theorem dJ1_canEncode_9a6ad_12 : decode cJ1_canEncode_9a6ad 12 = .ok (.goto 4, 3) := by decide +kernel
theorem dJ1_canEncode_9a6ad_15 : decode cJ1_canEncode_9a6ad 15 = .ok (.iconst 0, 1) := by decide +kernel
theorem dJ1_canEncode_9a6ad_16 : decode cJ1_canEncode_9a6ad 16 = .ok (.ireturn, 1) := by decide +kernel
set_option maxRecDepth 20000 in
theorem ggJ1_indexOf_4cfef_J1_canEncode_9a6ad : GoodIn wsJ1_indexOf_4cfef wsJ1_canEncode_9a6ad := goodIn_r _ [11] (by decide +kernel) (by decide +kernel)
set_option maxRecDepth 20000 in
theorem gJ1_indexOf_4cfef_J1_canEncode_9a6ad : GoodIn wsJ1_indexOf_4cfef (va_wsS RJ1 88 yJ1_canEncode_9a6ad wsJ1_canEncode_9a6ad) := goodIn_app (goodIn_of _ (by decide +kernel)) ggJ1_indexOf_4cfef_J1_canEncode_9a6ad
set_option maxRecDepth 20000 in
theorem ggJ1_indexOf_4cfef_J1_indexOfChar_4cfef : GoodIn wsJ1_indexOf_4cfef wsJ1_indexOfChar_4cfef := goodIn_r _ [14] (by decide +kernel) (by decide +kernel)
set_option maxRecDepth 20000 in
theorem gJ1_indexOf_4cfef_J1_indexOfChar_4cfef : GoodIn wsJ1_indexOf_4cfef (va_wsS RJ1 95 yJ1_indexOfChar_4cfef wsJ1_indexOfChar_4cfef) := goodIn_app (goodIn_of _ (by decide +kernel)) ggJ1_indexOf_4cfef_J1_indexOfChar_4cfef
theorem dJ1_indexOf_4cfef_0 : decode cJ1_indexOf_4cfef 0 = .ok (.iload_n 1, 1) := by decide +kernel
theorem dJ1_indexOf_4cfef_1 : decode cJ1_indexOf_4cfef 1 = .ok (.invokestatic 88, 3) := by decide +kernel
theorem dJ1_indexOf_4cfef_4 : decode cJ1_indexOf_4cfef 4 = .ok (.ifCond .ne 5, 3) := by decide +kernel
theorem dJ1_indexOf_4cfef_7 : decode cJ1_indexOf_4cfef 7 = .ok (.iconst (-1), 1) := by decide +kernel
theorem dJ1_indexOf_4cfef_8 : decode cJ1_indexOf_4cfef 8 = .ok (.ireturn, 1) := by decide +kernel
theorem dJ1_indexOf_4cfef_9 : decode cJ1_indexOf_4cfef 9 = .ok (.iload_n 2, 1) := by decide +kernel
theorem dJ1_indexOf_4cfef_10 : decode cJ1_indexOf_4cfef 10 = .ok (.iconst 0, 1) := by decide +kernel
theorem dJ1_indexOf_4cfef_11 : decode cJ1_indexOf_4cfef 11 = .ok (.invokestatic 92, 3) := by decide +kernel
theorem dJ1_indexOf_4cfef_14 : decode cJ1_indexOf_4cfef 14 = .ok (.istore_n 2, 1) := by decide +kernel
theorem dJ1_indexOf_4cfef_15 : decode cJ1_indexOf_4cfef 15 = .ok (.iload_n 3, 1) := by decide +kernel
theorem dJ1_indexOf_4cfef_16 : decode cJ1_indexOf_4cfef 16 = .ok (.aload_n 0, 1) := by decide +kernel
theorem dJ1_indexOf_4cfef_17 : decode cJ1_indexOf_4cfef 17 = .ok (.arraylength, 1) := by decide +kernel
theorem dJ1_indexOf_4cfef_18 : decode cJ1_indexOf_4cfef 18 = .ok (.invokestatic 38, 3) := by decide +kernel
theorem dJ1_indexOf_4cfef_21 : decode cJ1_indexOf_4cfef 21 = .ok (.istore_n 3, 1) := by decide +kernel
theorem dJ1_indexOf_4cfef_22 : decode cJ1_indexOf_4cfef 22 = .ok (.iload_n 2, 1) := by decide +kernel
theorem dJ1_indexOf_4cfef_23 : decode cJ1_indexOf_4cfef 23 = .ok (.iload_n 3, 1) := by decide +kernel
theorem dJ1_indexOf_4cfef_24 : decode cJ1_indexOf_4cfef 24 = .ok (.if_icmp .lt 5, 3) := by decide +kernel
theorem dJ1_indexOf_4cfef_27 : decode cJ1_indexOf_4cfef 27 = .ok (.iconst (-1), 1) := by decide +kernel
theorem dJ1_indexOf_4cfef_28 : decode cJ1_indexOf_4cfef 28 = .ok (.ireturn, 1) := by decide +kernel
theorem dJ1_indexOf_4cfef_29 : decode cJ1_indexOf_4cfef 29 = .ok (.aload_n 0, 1) := by decide +kernel
theorem dJ1_indexOf_4cfef_30 : decode cJ1_indexOf_4cfef 30 = .ok (.iload_n 1, 1) := by decide +kernel
theorem dJ1_indexOf_4cfef_31 : decode cJ1_indexOf_4cfef 31 = .ok (.iload_n 2, 1) := by decide +kernel
theorem dJ1_indexOf_4cfef_32 : decode cJ1_indexOf_4cfef 32 = .ok (.iload_n 3, 1) := by decide +kernel
theorem dJ1_indexOf_4cfef_33 : decode cJ1_indexOf_4cfef 33 = .ok (.invokestatic 95, 3) := by decide +kernel
theorem dJ1_indexOf_4cfef_36 : decode cJ1_indexOf_4cfef 36 = .ok (.ireturn, 1) := by decide +kernel
theorem dJ1_indexOfChar_4cfef_0 : decode cJ1_indexOfChar_4cfef 0 = .ok (.iload_n 1, 1) := by decide +kernel
theorem dJ1_indexOfChar_4cfef_1 : decode cJ1_indexOfChar_4cfef 1 = .ok (.i2b, 1) := by decide +kernel
theorem dJ1_indexOfChar_4cfef_2 : decode cJ1_indexOfChar_4cfef 2 = .ok (.istore 4, 2) := by decide +kernel
theorem dJ1_indexOfChar_4cfef_4 : decode cJ1_indexOfChar_4cfef 4 = .ok (.iload_n 2, 1) := by decide +kernel
theorem dJ1_indexOfChar_4cfef_5 : decode cJ1_indexOfChar_4cfef 5 = .ok (.istore 5, 2) := by decide +kernel
theorem dJ1_indexOfChar_4cfef_7 : decode cJ1_indexOfChar_4cfef 7 = .ok (.iload 5, 2) := by decide +kernel
theorem dJ1_indexOfChar_4cfef_9 : decode cJ1_indexOfChar_4cfef 9 = .ok (.iload_n 3, 1) := by decide +kernel
theorem dJ1_indexOfChar_4cfef_10 : decode cJ1_indexOfChar_4cfef 10 = .ok (.if_icmp .ge 21, 3) := by decide +kernel
theorem dJ1_indexOfChar_4cfef_13 : decode cJ1_indexOfChar_4cfef 13 = .ok (.aload_n 0, 1) := by decide +kernel
theorem dJ1_indexOfChar_4cfef_14 : decode cJ1_indexOfChar_4cfef 14 = .ok (.iload 5, 2) := by decide +kernel
theorem dJ1_indexOfChar_4cfef_16 : decode cJ1_indexOfChar_4cfef 16 = .ok (.baload, 1) := by decide +kernel
theorem dJ1_indexOfChar_4cfef_17 : decode cJ1_indexOfChar_4cfef 17 = .ok (.iload 4, 2) := by decide +kernel
theorem dJ1_indexOfChar_4cfef_19 : decode cJ1_indexOfChar_4cfef 19 = .ok (.if_icmp .ne 6, 3) := by decide +kernel
theorem dJ1_indexOfChar_4cfef_22 : decode cJ1_indexOfChar_4cfef 22 = .ok (.iload 5, 2) := by decide +kernel
theorem dJ1_indexOfChar_4cfef_24 : decode cJ1_indexOfChar_4cfef 24 = .ok (.ireturn, 1) := by decide +kernel
theorem dJ1_indexOfChar_4cfef_25 : decode cJ1_indexOfChar_4cfef 25 = .ok (.iinc 5 1, 3) := by decide +kernel
theorem dJ1_indexOfChar_4cfef_28 : decode cJ1_indexOfChar_4cfef 28 = .ok (.goto (-21), 3) := by decide +kernel
theorem dJ1_indexOfChar_4cfef_31 : decode cJ1_indexOfChar_4cfef 31 = .ok (.iconst (-1), 1) := by decide +kernel
theorem dJ1_indexOfChar_4cfef_32 : decode cJ1_indexOfChar_4cfef 32 = .ok (.ireturn, 1) := by decide +kernel
set_option maxRecDepth 20000 in
theorem ggJ2_getChar_3b067_J2_length_9d52b : GoodIn wsJ2_getChar_3b067 wsJ2_length_9d52b := goodIn_r _ [7] (by decide +kernel) (by decide +kernel)
set_option maxRecDepth 20000 in
theorem gJ2_getChar_3b067_J2_length_9d52b : GoodIn wsJ2_getChar_3b067 (va_wsS RJ2 48 yJ2_length_9d52b wsJ2_length_9d52b) := goodIn_app (goodIn_of _ (by decide +kernel)) ggJ2_getChar_3b067_J2_length_9d52b
theorem dJ2_getChar_3b067_0 : decode cJ2_getChar_3b067 0 = .ok (.getstatic 44, 3) := by decide +kernel
theorem dJ2_getChar_3b067_3 : decode cJ2_getChar_3b067 3 = .ok (.ifCond .ne 25, 3) := by decide +kernel
theorem dJ2_getChar_3b067_6 : decode cJ2_getChar_3b067 6 = .ok (.iload_n 1, 1) := by decide +kernel
theorem dJ2_getChar_3b067_7 : decode cJ2_getChar_3b067 7 = .ok (.ifCond .lt 11, 3) := by decide +kernel
theorem dJ2_getChar_3b067_10 : decode cJ2_getChar_3b067 10 = .ok (.iload_n 1, 1) := by decide +kernel
theorem dJ2_getChar_3b067_11 : decode cJ2_getChar_3b067 11 = .ok (.aload_n 0, 1) := by decide +kernel
theorem dJ2_getChar_3b067_12 : decode cJ2_getChar_3b067 12 = .ok (.invokestatic 48, 3) := by decide +kernel
theorem dJ2_getChar_3b067_15 : decode cJ2_getChar_3b067 15 = .ok (.if_icmp .lt 13, 3) := by decide +kernel
theorem dJ2_getChar_3b067_18 : decode cJ2_getChar_3b067 18 = .ok (.new 52, 3) := by decide +kernel
theorem dJ2_getChar_3b067_21 : decode cJ2_getChar_3b067 21 = .ok (.dup, 1) := by decide +kernel
theorem dJ2_getChar_3b067_22 : decode cJ2_getChar_3b067 22 = .ok (.ldc 54, 2) := by decide +kernel
theorem dJ2_getChar_3b067_24 : decode cJ2_getChar_3b067 24 = .ok (.invokespecial 56, 3) := by decide +kernel
theorem dJ2_getChar_3b067_27 : decode cJ2_getChar_3b067 27 = .ok (.athrow, 1) := by decide +kernel
theorem dJ2_getChar_3b067_28 : decode cJ2_getChar_3b067 28 = .ok (.iload_n 1, 1) := by decide +kernel
theorem dJ2_getChar_3b067_29 : decode cJ2_getChar_3b067 29 = .ok (.iconst 1, 1) := by decide +kernel
theorem dJ2_getChar_3b067_30 : decode cJ2_getChar_3b067 30 = .ok (.ishl, 1) := by decide +kernel
theorem dJ2_getChar_3b067_31 : decode cJ2_getChar_3b067 31 = .ok (.istore_n 1, 1) := by decide +kernel
theorem dJ2_getChar_3b067_32 : decode cJ2_getChar_3b067 32 = .ok (.aload_n 0, 1) := by decide +kernel
theorem dJ2_getChar_3b067_33 : decode cJ2_getChar_3b067 33 = .ok (.iload_n 1, 1) := by decide +kernel
theorem dJ2_getChar_3b067_34 : decode cJ2_getChar_3b067 34 = .ok (.iinc 1 1, 3) := by decide +kernel
theorem dJ2_getChar_3b067_37 : decode cJ2_getChar_3b067 37 = .ok (.baload, 1) := by decide +kernel
theorem dJ2_getChar_3b067_38 : decode cJ2_getChar_3b067 38 = .ok (.sipush 255, 3) := by decide +kernel
theorem dJ2_getChar_3b067_41 : decode cJ2_getChar_3b067 41 = .ok (.iand, 1) := by decide +kernel
theorem dJ2_getChar_3b067_42 : decode cJ2_getChar_3b067 42 = .ok (.getstatic 59, 3) := by decide +kernel
theorem dJ2_getChar_3b067_45 : decode cJ2_getChar_3b067 45 = .ok (.ishl, 1) := by decide +kernel
theorem dJ2_getChar_3b067_46 : decode cJ2_getChar_3b067 46 = .ok (.aload_n 0, 1) := by decide +kernel
theorem dJ2_getChar_3b067_47 : decode cJ2_getChar_3b067 47 = .ok (.iload_n 1, 1) := by decide +kernel
theorem dJ2_getChar_3b067_48 : decode cJ2_getChar_3b067 48 = .ok (.baload, 1) := by decide +kernel
theorem dJ2_getChar_3b067_49 : decode cJ2_getChar_3b067 49 = .ok (.sipush 255, 3) := by decide +kernel
theorem dJ2_getChar_3b067_52 : decode cJ2_getChar_3b067 52 = .ok (.iand, 1) := by decide +kernel
theorem dJ2_getChar_3b067_53 : decode cJ2_getChar_3b067 53 = .ok (.getstatic 63, 3) := by decide +kernel
theorem dJ2_getChar_3b067_56 : decode cJ2_getChar_3b067 56 = .ok (.ishl, 1) := by decide +kernel
theorem dJ2_getChar_3b067_57 : decode cJ2_getChar_3b067 57 = .ok (.ior, 1) := by decide +kernel
theorem dJ2_getChar_3b067_58 : decode cJ2_getChar_3b067 58 = .ok (.i2c, 1) := by decide +kernel
theorem dJ2_getChar_3b067_59 : decode cJ2_getChar_3b067 59 = .ok (.ireturn, 1) := by decide +kernel
theorem dJ2_length_9d52b_0 : decode cJ2_length_9d52b 0 = .ok (.aload_n 0, 1) := by decide +kernel
theorem dJ2_length_9d52b_1 : decode cJ2_length_9d52b 1 = .ok (.arraylength, 1) := by decide +kernel
theorem dJ2_length_9d52b_2 : decode cJ2_length_9d52b 2 = .ok (.iconst 1, 1) := by decide +kernel
theorem dJ2_length_9d52b_3 : decode cJ2_length_9d52b 3 = .ok (.ishr, 1) := by decide +kernel
theorem dJ2_length_9d52b_4 : decode cJ2_length_9d52b 4 = .ok (.ireturn, 1) := by decide +kernel
set_option maxRecDepth 20000 in
theorem ggJ2_indexOf_4cfef_J2_indexOfChar_4cfef : GoodIn wsJ2_indexOf_4cfef wsJ2_indexOfChar_4cfef := goodIn_r _ [12, 13, 14, 11, 15, 16, 17, 18, 19, 20, 21, 22, 23, 24, 25, 26, 27, 28, 29, 30, 31, 32, 33, 34, 35, 36] (by decide +kernel) (by decide +kernel)
set_option maxRecDepth 20000 in
theorem gJ2_indexOf_4cfef_J2_indexOfChar_4cfef : GoodIn wsJ2_indexOf_4cfef (va_wsS RJ2 228 yJ2_indexOfChar_4cfef wsJ2_indexOfChar_4cfef) := goodIn_app (goodIn_of _ (by decide +kernel)) ggJ2_indexOf_4cfef_J2_indexOfChar_4cfef
set_option maxRecDepth 20000 in
theorem ggJ2_indexOf_4cfef_J2_indexOfSupplementary_4cfef : GoodIn wsJ2_indexOf_4cfef wsJ2_indexOfSupplementary_4cfef := goodIn_r _ [39, 40, 41, 42, 43, 44, 45, 46, 47, 48, 49, 50, 51, 13, 14, 11, 15, 16, 17, 18, 19, 20, 21, 22, 23, 24, 25, 26, 27, 31, 32, 33, 34, 35, 36] (by decide +kernel) (by decide +kernel)
set_option maxRecDepth 20000 in
theorem gJ2_indexOf_4cfef_J2_indexOfSupplementary_4cfef : GoodIn wsJ2_indexOf_4cfef (va_wsS RJ2 232 yJ2_indexOfSupplementary_4cfef wsJ2_indexOfSupplementary_4cfef) := goodIn_app (goodIn_of _ (by decide +kernel)) ggJ2_indexOf_4cfef_J2_indexOfSupplementary_4cfef
theorem dJ2_indexOf_4cfef_0 : decode cJ2_indexOf_4cfef 0 = .ok (.iload_n 2, 1) := by decide +kernel
theorem dJ2_indexOf_4cfef_1 : decode cJ2_indexOf_4cfef 1 = .ok (.iconst 0, 1) := by decide +kernel
theorem dJ2_indexOf_4cfef_2 : decode cJ2_indexOf_4cfef 2 = .ok (.invokestatic 224, 3) := by decide +kernel
theorem dJ2_indexOf_4cfef_5 : decode cJ2_indexOf_4cfef 5 = .ok (.istore_n 2, 1) := by decide +kernel
theorem dJ2_indexOf_4cfef_6 : decode cJ2_indexOf_4cfef 6 = .ok (.iload_n 3, 1) := by decide +kernel
theorem dJ2_indexOf_4cfef_7 : decode cJ2_indexOf_4cfef 7 = .ok (.aload_n 0, 1) := by decide +kernel
theorem dJ2_indexOf_4cfef_8 : decode cJ2_indexOf_4cfef 8 = .ok (.arraylength, 1) := by decide +kernel
theorem dJ2_indexOf_4cfef_9 : decode cJ2_indexOf_4cfef 9 = .ok (.iconst 1, 1) := by decide +kernel
theorem dJ2_indexOf_4cfef_10 : decode cJ2_indexOf_4cfef 10 = .ok (.ishr, 1) := by decide +kernel
theorem dJ2_indexOf_4cfef_11 : decode cJ2_indexOf_4cfef 11 = .ok (.invokestatic 183, 3) := by decide +kernel
theorem dJ2_indexOf_4cfef_14 : decode cJ2_indexOf_4cfef 14 = .ok (.istore_n 3, 1) := by decide +kernel
theorem dJ2_indexOf_4cfef_15 : decode cJ2_indexOf_4cfef 15 = .ok (.iload_n 2, 1) := by decide +kernel
theorem dJ2_indexOf_4cfef_16 : decode cJ2_indexOf_4cfef 16 = .ok (.iload_n 3, 1) := by decide +kernel
theorem dJ2_indexOf_4cfef_17 : decode cJ2_indexOf_4cfef 17 = .ok (.if_icmp .lt 5, 3) := by decide +kernel
theorem dJ2_indexOf_4cfef_20 : decode cJ2_indexOf_4cfef 20 = .ok (.iconst (-1), 1) := by decide +kernel
theorem dJ2_indexOf_4cfef_21 : decode cJ2_indexOf_4cfef 21 = .ok (.ireturn, 1) := by decide +kernel
theorem dJ2_indexOf_4cfef_22 : decode cJ2_indexOf_4cfef 22 = .ok (.iload_n 1, 1) := by decide +kernel
theorem dJ2_indexOf_4cfef_23 : decode cJ2_indexOf_4cfef 23 = .ok (.ldc 227, 2) := by decide +kernel
theorem dJ2_indexOf_4cfef_25 : decode cJ2_indexOf_4cfef 25 = .ok (.if_icmp .ge 11, 3) := by decide +kernel
theorem dJ2_indexOf_4cfef_28 : decode cJ2_indexOf_4cfef 28 = .ok (.aload_n 0, 1) := by decide +kernel
theorem dJ2_indexOf_4cfef_29 : decode cJ2_indexOf_4cfef 29 = .ok (.iload_n 1, 1) := by decide +kernel
theorem dJ2_indexOf_4cfef_30 : decode cJ2_indexOf_4cfef 30 = .ok (.iload_n 2, 1) := by decide +kernel
theorem dJ2_indexOf_4cfef_31 : decode cJ2_indexOf_4cfef 31 = .ok (.iload_n 3, 1) := by decide +kernel
theorem dJ2_indexOf_4cfef_32 : decode cJ2_indexOf_4cfef 32 = .ok (.invokestatic 228, 3) := by decide +kernel
theorem dJ2_indexOf_4cfef_35 : decode cJ2_indexOf_4cfef 35 = .ok (.ireturn, 1) := by decide +kernel
theorem dJ2_indexOf_4cfef_36 : decode cJ2_indexOf_4cfef 36 = .ok (.aload_n 0, 1) := by decide +kernel
theorem dJ2_indexOf_4cfef_37 : decode cJ2_indexOf_4cfef 37 = .ok (.iload_n 1, 1) := by decide +kernel
theorem dJ2_indexOf_4cfef_38 : decode cJ2_indexOf_4cfef 38 = .ok (.iload_n 2, 1) := by decide +kernel
theorem dJ2_indexOf_4cfef_39 : decode cJ2_indexOf_4cfef 39 = .ok (.iload_n 3, 1) := by decide +kernel
theorem dJ2_indexOf_4cfef_40 : decode cJ2_indexOf_4cfef 40 = .ok (.invokestatic 232, 3) := by decide +kernel
theorem dJ2_indexOf_4cfef_43 : decode cJ2_indexOf_4cfef 43 = .ok (.ireturn, 1) := by decide +kernel
set_option maxRecDepth 20000 in
theorem ggJ2_indexOfChar_4cfef_J2_checkBoundsBeginEnd_d044e : GoodIn wsJ2_indexOfChar_4cfef wsJ2_checkBoundsBeginEnd_d044e := goodIn_r _ [4, 5, 6, 3, 7, 8, 9, 10, 11, 12, 13, 14, 15, 16] (by decide +kernel) (by decide +kernel)
set_option maxRecDepth 20000 in
theorem gJ2_indexOfChar_4cfef_J2_checkBoundsBeginEnd_d044e : GoodIn wsJ2_indexOfChar_4cfef (va_wsS RJ2 96 yJ2_checkBoundsBeginEnd_d044e wsJ2_checkBoundsBeginEnd_d044e) := goodIn_app (goodIn_of _ (by decide +kernel)) ggJ2_indexOfChar_4cfef_J2_checkBoundsBeginEnd_d044e
set_option maxRecDepth 20000 in
theorem ggJ2_indexOfChar_4cfef_J2_indexOfCharUnsafe_4cfef : GoodIn wsJ2_indexOfChar_4cfef wsJ2_indexOfCharUnsafe_4cfef := goodIn_r _ [19, 20, 21, 3, 22, 23, 24, 25, 5, 6, 7] (by decide +kernel) (by decide +kernel)
set_option maxRecDepth 20000 in
theorem gJ2_indexOfChar_4cfef_J2_indexOfCharUnsafe_4cfef : GoodIn wsJ2_indexOfChar_4cfef (va_wsS RJ2 244 yJ2_indexOfCharUnsafe_4cfef wsJ2_indexOfCharUnsafe_4cfef) := goodIn_app (goodIn_of _ (by decide +kernel)) ggJ2_indexOfChar_4cfef_J2_indexOfCharUnsafe_4cfef
theorem dJ2_indexOfChar_4cfef_0 : decode cJ2_indexOfChar_4cfef 0 = .ok (.iload_n 2, 1) := by decide +kernel
theorem dJ2_indexOfChar_4cfef_1 : decode cJ2_indexOfChar_4cfef 1 = .ok (.iload_n 3, 1) := by decide +kernel
theorem dJ2_indexOfChar_4cfef_2 : decode cJ2_indexOfChar_4cfef 2 = .ok (.aload_n 0, 1) := by decide +kernel
theorem dJ2_indexOfChar_4cfef_3 : decode cJ2_indexOfChar_4cfef 3 = .ok (.invokestatic 96, 3) := by decide +kernel
theorem dJ2_indexOfChar_4cfef_6 : decode cJ2_indexOfChar_4cfef 6 = .ok (.aload_n 0, 1) := by decide +kernel
theorem dJ2_indexOfChar_4cfef_7 : decode cJ2_indexOfChar_4cfef 7 = .ok (.iload_n 1, 1) := by decide +kernel
theorem dJ2_indexOfChar_4cfef_8 : decode cJ2_indexOfChar_4cfef 8 = .ok (.iload_n 2, 1) := by decide +kernel
theorem dJ2_indexOfChar_4cfef_9 : decode cJ2_indexOfChar_4cfef 9 = .ok (.iload_n 3, 1) := by decide +kernel
theorem dJ2_indexOfChar_4cfef_10 : decode cJ2_indexOfChar_4cfef 10 = .ok (.invokestatic 244, 3) := by decide +kernel
theorem dJ2_indexOfChar_4cfef_13 : decode cJ2_indexOfChar_4cfef 13 = .ok (.ireturn, 1) := by decide +kernel
set_option maxRecDepth 20000 in
theorem ggJ2_indexOfCharUnsafe_4cfef_J2_getChar_3b067 : GoodIn wsJ2_indexOfCharUnsafe_4cfef wsJ2_getChar_3b067 := goodIn_r _ [4, 5, 6, 7, 8, 9, 3, 10] (by decide +kernel) (by decide +kernel)
set_option maxRecDepth 20000 in
theorem gJ2_indexOfCharUnsafe_4cfef_J2_getChar_3b067 : GoodIn wsJ2_indexOfCharUnsafe_4cfef (va_wsS RJ2 71 yJ2_getChar_3b067 wsJ2_getChar_3b067) := goodIn_app (goodIn_of _ (by decide +kernel)) ggJ2_indexOfCharUnsafe_4cfef_J2_getChar_3b067
theorem dJ2_indexOfCharUnsafe_4cfef_0 : decode cJ2_indexOfCharUnsafe_4cfef 0 = .ok (.iload_n 2, 1) := by decide +kernel
theorem dJ2_indexOfCharUnsafe_4cfef_1 : decode cJ2_indexOfCharUnsafe_4cfef 1 = .ok (.istore 4, 2) := by decide +kernel
theorem dJ2_indexOfCharUnsafe_4cfef_3 : decode cJ2_indexOfCharUnsafe_4cfef 3 = .ok (.iload 4, 2) := by decide +kernel
theorem dJ2_indexOfCharUnsafe_4cfef_5 : decode cJ2_indexOfCharUnsafe_4cfef 5 = .ok (.iload_n 3, 1) := by decide +kernel
theorem dJ2_indexOfCharUnsafe_4cfef_6 : decode cJ2_indexOfCharUnsafe_4cfef 6 = .ok (.if_icmp .ge 22, 3) := by decide +kernel
theorem dJ2_indexOfCharUnsafe_4cfef_9 : decode cJ2_indexOfCharUnsafe_4cfef 9 = .ok (.aload_n 0, 1) := by decide +kernel
theorem dJ2_indexOfCharUnsafe_4cfef_10 : decode cJ2_indexOfCharUnsafe_4cfef 10 = .ok (.iload 4, 2) := by decide +kernel
theorem dJ2_indexOfCharUnsafe_4cfef_12 : decode cJ2_indexOfCharUnsafe_4cfef 12 = .ok (.invokestatic 71, 3) := by decide +kernel
theorem dJ2_indexOfCharUnsafe_4cfef_15 : decode cJ2_indexOfCharUnsafe_4cfef 15 = .ok (.iload_n 1, 1) := by decide +kernel
theorem dJ2_indexOfCharUnsafe_4cfef_16 : decode cJ2_indexOfCharUnsafe_4cfef 16 = .ok (.if_icmp .ne 6, 3) := by decide +kernel
theorem dJ2_indexOfCharUnsafe_4cfef_19 : decode cJ2_indexOfCharUnsafe_4cfef 19 = .ok (.iload 4, 2) := by decide +kernel
theorem dJ2_indexOfCharUnsafe_4cfef_21 : decode cJ2_indexOfCharUnsafe_4cfef 21 = .ok (.ireturn, 1) := by decide +kernel
theorem dJ2_indexOfCharUnsafe_4cfef_22 : decode cJ2_indexOfCharUnsafe_4cfef 22 = .ok (.iinc 4 1, 3) := by decide +kernel
theorem dJ2_indexOfCharUnsafe_4cfef_25 : decode cJ2_indexOfCharUnsafe_4cfef 25 = .ok (.goto (-22), 3) := by decide +kernel
theorem dJ2_indexOfCharUnsafe_4cfef_28 : decode cJ2_indexOfCharUnsafe_4cfef 28 = .ok (.iconst (-1), 1) := by decide +kernel
theorem dJ2_indexOfCharUnsafe_4cfef_29 : decode cJ2_indexOfCharUnsafe_4cfef 29 = .ok (.ireturn, 1) := by decide +kernel
set_option maxRecDepth 20000 in
theorem ggJ2_indexOfSupplementary_4cfef_J11_isValidCodePoint_9a6ad : GoodIn wsJ2_indexOfSupplementary_4cfef wsJ11_isValidCodePoint_9a6ad := goodIn_r _ [4] (by decide +kernel) (by decide +kernel)
set_option maxRecDepth 20000 in
theorem gJ2_indexOfSupplementary_4cfef_J11_isValidCodePoint_9a6ad : GoodIn wsJ2_indexOfSupplementary_4cfef (va_wsS RJ2 164 yJ11_isValidCodePoint_9a6ad wsJ11_isValidCodePoint_9a6ad) := goodIn_app (goodIn_of _ (by decide +kernel)) ggJ2_indexOfSupplementary_4cfef_J11_isValidCodePoint_9a6ad
set_option maxRecDepth 20000 in
theorem ggJ2_indexOfSupplementary_4cfef_J11_highSurrogate_5068e : GoodIn wsJ2_indexOfSupplementary_4cfef wsJ11_highSurrogate_5068e := goodIn_r _ [7, 8] (by decide +kernel) (by decide +kernel)
set_option maxRecDepth 20000 in
theorem gJ2_indexOfSupplementary_4cfef_J11_highSurrogate_5068e : GoodIn wsJ2_indexOfSupplementary_4cfef (va_wsS RJ2 157 yJ11_highSurrogate_5068e wsJ11_highSurrogate_5068e) := goodIn_app (goodIn_of _ (by decide +kernel)) ggJ2_indexOfSupplementary_4cfef_J11_highSurrogate_5068e
set_option maxRecDepth 20000 in
theorem ggJ2_indexOfSupplementary_4cfef_J11_lowSurrogate_5068e : GoodIn wsJ2_indexOfSupplementary_4cfef wsJ11_lowSurrogate_5068e := goodIn_r _ [11, 12] (by decide +kernel) (by decide +kernel)
set_option maxRecDepth 20000 in
theorem gJ2_indexOfSupplementary_4cfef_J11_lowSurrogate_5068e : GoodIn wsJ2_indexOfSupplementary_4cfef (va_wsS RJ2 161 yJ11_lowSurrogate_5068e wsJ11_lowSurrogate_5068e) := goodIn_app (goodIn_of _ (by decide +kernel)) ggJ2_indexOfSupplementary_4cfef_J11_lowSurrogate_5068e
set_option maxRecDepth 20000 in
theorem ggJ2_indexOfSupplementary_4cfef_J2_checkBoundsBeginEnd_d044e : GoodIn wsJ2_indexOfSupplementary_4cfef wsJ2_checkBoundsBeginEnd_d044e := goodIn_r _ [16, 17, 18, 15, 19, 20, 21, 22, 23, 24, 25, 26, 27, 28] (by decide +kernel) (by decide +kernel)
set_option maxRecDepth 20000 in
theorem gJ2_indexOfSupplementary_4cfef_J2_checkBoundsBeginEnd_d044e : GoodIn wsJ2_indexOfSupplementary_4cfef (va_wsS RJ2 96 yJ2_checkBoundsBeginEnd_d044e wsJ2_checkBoundsBeginEnd_d044e) := goodIn_app (goodIn_of _ (by decide +kernel)) ggJ2_indexOfSupplementary_4cfef_J2_checkBoundsBeginEnd_d044e
set_option maxRecDepth 20000 in
theorem ggJ2_indexOfSupplementary_4cfef_J2_getChar_3b067 : GoodIn wsJ2_indexOfSupplementary_4cfef wsJ2_getChar_3b067 := goodIn_r _ [31, 32, 33, 34, 17, 18, 15, 19] (by decide +kernel) (by decide +kernel)
set_option maxRecDepth 20000 in
theorem gJ2_indexOfSupplementary_4cfef_J2_getChar_3b067 : GoodIn wsJ2_indexOfSupplementary_4cfef (va_wsS RJ2 71 yJ2_getChar_3b067 wsJ2_getChar_3b067) := goodIn_app (goodIn_of _ (by decide +kernel)) ggJ2_indexOfSupplementary_4cfef_J2_getChar_3b067
theorem dJ2_indexOfSupplementary_4cfef_0 : decode cJ2_indexOfSupplementary_4cfef 0 = .ok (.iload_n 1, 1) := by decide +kernel
theorem dJ2_indexOfSupplementary_4cfef_1 : decode cJ2_indexOfSupplementary_4cfef 1 = .ok (.invokestatic 164, 3) := by decide +kernel
theorem dJ2_indexOfSupplementary_4cfef_4 : decode cJ2_indexOfSupplementary_4cfef 4 = .ok (.ifCond .eq 65, 3) := by decide +kernel
theorem dJ2_indexOfSupplementary_4cfef_7 : decode cJ2_indexOfSupplementary_4cfef 7 = .ok (.iload_n 1, 1) := by decide +kernel
theorem dJ2_indexOfSupplementary_4cfef_8 : decode cJ2_indexOfSupplementary_4cfef 8 = .ok (.invokestatic 157, 3) := by decide +kernel
theorem dJ2_indexOfSupplementary_4cfef_11 : decode cJ2_indexOfSupplementary_4cfef 11 = .ok (.istore 4, 2) := by decide +kernel
theorem dJ2_indexOfSupplementary_4cfef_13 : decode cJ2_indexOfSupplementary_4cfef 13 = .ok (.iload_n 1, 1) := by decide +kernel
theorem dJ2_indexOfSupplementary_4cfef_14 : decode cJ2_indexOfSupplementary_4cfef 14 = .ok (.invokestatic 161, 3) := by decide +kernel
theorem dJ2_indexOfSupplementary_4cfef_17 : decode cJ2_indexOfSupplementary_4cfef 17 = .ok (.istore 5, 2) := by decide +kernel
theorem dJ2_indexOfSupplementary_4cfef_19 : decode cJ2_indexOfSupplementary_4cfef 19 = .ok (.iload_n 2, 1) := by decide +kernel
theorem dJ2_indexOfSupplementary_4cfef_20 : decode cJ2_indexOfSupplementary_4cfef 20 = .ok (.iload_n 3, 1) := by decide +kernel
theorem dJ2_indexOfSupplementary_4cfef_21 : decode cJ2_indexOfSupplementary_4cfef 21 = .ok (.aload_n 0, 1) := by decide +kernel
theorem dJ2_indexOfSupplementary_4cfef_22 : decode cJ2_indexOfSupplementary_4cfef 22 = .ok (.invokestatic 96, 3) := by decide +kernel
theorem dJ2_indexOfSupplementary_4cfef_25 : decode cJ2_indexOfSupplementary_4cfef 25 = .ok (.iload_n 2, 1) := by decide +kernel
theorem dJ2_indexOfSupplementary_4cfef_26 : decode cJ2_indexOfSupplementary_4cfef 26 = .ok (.istore 6, 2) := by decide +kernel
theorem dJ2_indexOfSupplementary_4cfef_28 : decode cJ2_indexOfSupplementary_4cfef 28 = .ok (.iload 6, 2) := by decide +kernel
theorem dJ2_indexOfSupplementary_4cfef_30 : decode cJ2_indexOfSupplementary_4cfef 30 = .ok (.iload_n 3, 1) := by decide +kernel
theorem dJ2_indexOfSupplementary_4cfef_31 : decode cJ2_indexOfSupplementary_4cfef 31 = .ok (.iconst 1, 1) := by decide +kernel
theorem dJ2_indexOfSupplementary_4cfef_32 : decode cJ2_indexOfSupplementary_4cfef 32 = .ok (.isub, 1) := by decide +kernel
theorem dJ2_indexOfSupplementary_4cfef_33 : decode cJ2_indexOfSupplementary_4cfef 33 = .ok (.if_icmp .ge 36, 3) := by decide +kernel
theorem dJ2_indexOfSupplementary_4cfef_36 : decode cJ2_indexOfSupplementary_4cfef 36 = .ok (.aload_n 0, 1) := by decide +kernel
theorem dJ2_indexOfSupplementary_4cfef_37 : decode cJ2_indexOfSupplementary_4cfef 37 = .ok (.iload 6, 2) := by decide +kernel
theorem dJ2_indexOfSupplementary_4cfef_39 : decode cJ2_indexOfSupplementary_4cfef 39 = .ok (.invokestatic 71, 3) := by decide +kernel
theorem dJ2_indexOfSupplementary_4cfef_42 : decode cJ2_indexOfSupplementary_4cfef 42 = .ok (.iload 4, 2) := by decide +kernel
theorem dJ2_indexOfSupplementary_4cfef_44 : decode cJ2_indexOfSupplementary_4cfef 44 = .ok (.if_icmp .ne 19, 3) := by decide +kernel
theorem dJ2_indexOfSupplementary_4cfef_47 : decode cJ2_indexOfSupplementary_4cfef 47 = .ok (.aload_n 0, 1) := by decide +kernel
theorem dJ2_indexOfSupplementary_4cfef_48 : decode cJ2_indexOfSupplementary_4cfef 48 = .ok (.iload 6, 2) := by decide +kernel
theorem dJ2_indexOfSupplementary_4cfef_50 : decode cJ2_indexOfSupplementary_4cfef 50 = .ok (.iconst 1, 1) := by decide +kernel
theorem dJ2_indexOfSupplementary_4cfef_51 : decode cJ2_indexOfSupplementary_4cfef 51 = .ok (.iadd, 1) := by decide +kernel
theorem dJ2_indexOfSupplementary_4cfef_52 : decode cJ2_indexOfSupplementary_4cfef 52 = .ok (.invokestatic 71, 3) := by decide +kernel
theorem dJ2_indexOfSupplementary_4cfef_55 : decode cJ2_indexOfSupplementary_4cfef 55 = .ok (.iload 5, 2) := by decide +kernel
theorem dJ2_indexOfSupplementary_4cfef_57 : decode cJ2_indexOfSupplementary_4cfef 57 = .ok (.if_icmp .ne 6, 3) := by decide +kernel
theorem dJ2_indexOfSupplementary_4cfef_60 : decode cJ2_indexOfSupplementary_4cfef 60 = .ok (.iload 6, 2) := by decide +kernel
theorem dJ2_indexOfSupplementary_4cfef_62 : decode cJ2_indexOfSupplementary_4cfef 62 = .ok (.ireturn, 1) := by decide +kernel
theorem dJ2_indexOfSupplementary_4cfef_63 : decode cJ2_indexOfSupplementary_4cfef 63 = .ok (.iinc 6 1, 3) := by decide +kernel
theorem dJ2_indexOfSupplementary_4cfef_66 : decode cJ2_indexOfSupplementary_4cfef 66 = .ok (.goto (-38), 3) := by decide +kernel
theorem dJ2_indexOfSupplementary_4cfef_69 : decode cJ2_indexOfSupplementary_4cfef 69 = .ok (.iconst (-1), 1) := by decide +kernel
theorem dJ2_indexOfSupplementary_4cfef_70 : decode cJ2_indexOfSupplementary_4cfef 70 = .ok (.ireturn, 1) := by decide +kernel
set_option maxRecDepth 20000 in
theorem ggJ2_charAt_3b067_J2_checkIndex_2214a : GoodIn wsJ2_charAt_3b067 wsJ2_checkIndex_2214a := goodIn_r _ [4, 5, 6, 3, 7, 8, 9, 10, 11, 12, 13, 14, 15, 16] (by decide +kernel) (by decide +kernel)
set_option maxRecDepth 20000 in
theorem gJ2_charAt_3b067_J2_checkIndex_2214a : GoodIn wsJ2_charAt_3b067 (va_wsS RJ2 67 yJ2_checkIndex_2214a wsJ2_checkIndex_2214a) := goodIn_app (goodIn_of _ (by decide +kernel)) ggJ2_charAt_3b067_J2_checkIndex_2214a
set_option maxRecDepth 20000 in
theorem ggJ2_charAt_3b067_J2_getChar_3b067 : GoodIn wsJ2_charAt_3b067 wsJ2_getChar_3b067 := goodIn_r _ [19, 20, 21, 22, 5, 6, 3, 7] (by decide +kernel) (by decide +kernel)
set_option maxRecDepth 20000 in
theorem gJ2_charAt_3b067_J2_getChar_3b067 : GoodIn wsJ2_charAt_3b067 (va_wsS RJ2 71 yJ2_getChar_3b067 wsJ2_getChar_3b067) := goodIn_app (goodIn_of _ (by decide +kernel)) ggJ2_charAt_3b067_J2_getChar_3b067
theorem dJ2_charAt_3b067_0 : decode cJ2_charAt_3b067 0 = .ok (.iload_n 1, 1) := by decide +kernel
theorem dJ2_charAt_3b067_1 : decode cJ2_charAt_3b067 1 = .ok (.aload_n 0, 1) := by decide +kernel
theorem dJ2_charAt_3b067_2 : decode cJ2_charAt_3b067 2 = .ok (.invokestatic 67, 3) := by decide +kernel
theorem dJ2_charAt_3b067_5 : decode cJ2_charAt_3b067 5 = .ok (.aload_n 0, 1) := by decide +kernel
theorem dJ2_charAt_3b067_6 : decode cJ2_charAt_3b067 6 = .ok (.iload_n 1, 1) := by decide +kernel
theorem dJ2_charAt_3b067_7 : decode cJ2_charAt_3b067 7 = .ok (.invokestatic 71, 3) := by decide +kernel
theorem dJ2_charAt_3b067_10 : decode cJ2_charAt_3b067 10 = .ok (.ireturn, 1) := by decide +kernel
set_option maxRecDepth 20000 in
theorem ggJ2_checkIndex_2214a_J2_length_9d52b : GoodIn wsJ2_checkIndex_2214a wsJ2_length_9d52b := goodIn_r _ [4] (by decide +kernel) (by decide +kernel)
set_option maxRecDepth 20000 in
theorem gJ2_checkIndex_2214a_J2_length_9d52b : GoodIn wsJ2_checkIndex_2214a (va_wsS RJ2 48 yJ2_length_9d52b wsJ2_length_9d52b) := goodIn_app (goodIn_of _ (by decide +kernel)) ggJ2_checkIndex_2214a_J2_length_9d52b
set_option maxRecDepth 20000 in
theorem ggJ2_checkIndex_2214a_J0_checkIndex_df160 : GoodIn wsJ2_checkIndex_2214a wsJ0_checkIndex_df160 := goodIn_r _ [8, 9, 10, 11, 12, 13] (by decide +kernel) (by decide +kernel)
set_option maxRecDepth 20000 in
theorem gJ2_checkIndex_2214a_J0_checkIndex_df160 : GoodIn wsJ2_checkIndex_2214a (va_wsS RJ2 414 yJ0_checkIndex_df160 wsJ0_checkIndex_df160) := goodIn_app (goodIn_of _ (by decide +kernel)) ggJ2_checkIndex_2214a_J0_checkIndex_df160
theorem dJ2_checkIndex_2214a_0 : decode cJ2_checkIndex_2214a 0 = .ok (.iload_n 0, 1) := by decide +kernel
theorem dJ2_checkIndex_2214a_1 : decode cJ2_checkIndex_2214a 1 = .ok (.aload_n 1, 1) := by decide +kernel
theorem dJ2_checkIndex_2214a_2 : decode cJ2_checkIndex_2214a 2 = .ok (.invokestatic 48, 3) := by decide +kernel
theorem dJ2_checkIndex_2214a_5 : decode cJ2_checkIndex_2214a 5 = .ok (.invokestatic 414, 3) := by decide +kernel
theorem dJ2_checkIndex_2214a_8 : decode cJ2_checkIndex_2214a 8 = .ok (.return_, 1) := by decide +kernel
set_option maxRecDepth 20000 in
theorem ggJ2_checkBoundsBeginEnd_d044e_J2_length_9d52b : GoodIn wsJ2_checkBoundsBeginEnd_d044e wsJ2_length_9d52b := goodIn_r _ [4] (by decide +kernel) (by decide +kernel)
set_option maxRecDepth 20000 in
theorem gJ2_checkBoundsBeginEnd_d044e_J2_length_9d52b : GoodIn wsJ2_checkBoundsBeginEnd_d044e (va_wsS RJ2 48 yJ2_length_9d52b wsJ2_length_9d52b) := goodIn_app (goodIn_of _ (by decide +kernel)) ggJ2_checkBoundsBeginEnd_d044e_J2_length_9d52b
set_option maxRecDepth 20000 in
theorem ggJ2_checkBoundsBeginEnd_d044e_J0_checkBoundsBeginEnd_23922 : GoodIn wsJ2_checkBoundsBeginEnd_d044e wsJ0_checkBoundsBeginEnd_23922 := goodIn_r _ [8, 9, 10, 11, 12, 13] (by decide +kernel) (by decide +kernel)
set_option maxRecDepth 20000 in
theorem gJ2_checkBoundsBeginEnd_d044e_J0_checkBoundsBeginEnd_23922 : GoodIn wsJ2_checkBoundsBeginEnd_d044e (va_wsS RJ2 241 yJ0_checkBoundsBeginEnd_23922 wsJ0_checkBoundsBeginEnd_23922) := goodIn_app (goodIn_of _ (by decide +kernel)) ggJ2_checkBoundsBeginEnd_d044e_J0_checkBoundsBeginEnd_23922
theorem dJ2_checkBoundsBeginEnd_d044e_0 : decode cJ2_checkBoundsBeginEnd_d044e 0 = .ok (.iload_n 0, 1) := by decide +kernel
theorem dJ2_checkBoundsBeginEnd_d044e_1 : decode cJ2_checkBoundsBeginEnd_d044e 1 = .ok (.iload_n 1, 1) := by decide +kernel
theorem dJ2_checkBoundsBeginEnd_d044e_2 : decode cJ2_checkBoundsBeginEnd_d044e 2 = .ok (.aload_n 2, 1) := by decide +kernel
theorem dJ2_checkBoundsBeginEnd_d044e_3 : decode cJ2_checkBoundsBeginEnd_d044e 3 = .ok (.invokestatic 48, 3) := by decide +kernel
theorem dJ2_checkBoundsBeginEnd_d044e_6 : decode cJ2_checkBoundsBeginEnd_d044e 6 = .ok (.invokestatic 241, 3) := by decide +kernel
theorem dJ2_checkBoundsBeginEnd_d044e_9 : decode cJ2_checkBoundsBeginEnd_d044e 9 = .ok (.return_, 1) := by decide +kernel
theorem dJ3_checkIndex_8e157_0 : decode cJ3_checkIndex_8e157 0 = .ok (.iload_n 0, 1) := by decide +kernel
theorem dJ3_checkIndex_8e157_1 : decode cJ3_checkIndex_8e157 1 = .ok (.ifCond .lt 8, 3) := by decide +kernel
theorem dJ3_checkIndex_8e157_4 : decode cJ3_checkIndex_8e157 4 = .ok (.iload_n 0, 1) := by decide +kernel
theorem dJ3_checkIndex_8e157_5 : decode cJ3_checkIndex_8e157 5 = .ok (.iload_n 1, 1) := by decide +kernel
theorem dJ3_checkIndex_8e157_6 : decode cJ3_checkIndex_8e157 6 = .ok (.if_icmp .lt 10, 3) := by decide +kernel
theorem dJ3_checkIndex_8e157_9 : decode cJ3_checkIndex_8e157 9 = .ok (.aload_n 2, 1) := by decide +kernel
theorem dJ3_checkIndex_8e157_10 : decode cJ3_checkIndex_8e157 10 = .ok (.iload_n 0, 1) := by decide +kernel
theorem dJ3_checkIndex_8e157_11 : decode cJ3_checkIndex_8e157 11 = .ok (.iload_n 1, 1) := by decide +kernel
theorem dJ3_checkIndex_8e157_12 : decode cJ3_checkIndex_8e157 12 = .ok (.invokestatic 95, 3) := by decide +kernel
theorem dJ3_checkIndex_8e157_15 : decode cJ3_checkIndex_8e157 15 = .ok (.athrow, 1) := by decide +kernel
theorem dJ3_checkIndex_8e157_16 : decode cJ3_checkIndex_8e157 16 = .ok (.iload_n 0, 1) := by decide +kernel
theorem dJ3_checkIndex_8e157_17 : decode cJ3_checkIndex_8e157 17 = .ok (.ireturn, 1) := by decide +kernel
theorem dJ3_checkFromToIndex_8c36e_0 : decode cJ3_checkFromToIndex_8c36e 0 = .ok (.iload_n 0, 1) := by decide +kernel
theorem dJ3_checkFromToIndex_8c36e_1 : decode cJ3_checkFromToIndex_8c36e 1 = .ok (.ifCond .lt 13, 3) := by decide +kernel
theorem dJ3_checkFromToIndex_8c36e_4 : decode cJ3_checkFromToIndex_8c36e 4 = .ok (.iload_n 0, 1) := by decide +kernel
theorem dJ3_checkFromToIndex_8c36e_5 : decode cJ3_checkFromToIndex_8c36e 5 = .ok (.iload_n 1, 1) := by decide +kernel
theorem dJ3_checkFromToIndex_8c36e_6 : decode cJ3_checkFromToIndex_8c36e 6 = .ok (.if_icmp .gt 8, 3) := by decide +kernel
theorem dJ3_checkFromToIndex_8c36e_9 : decode cJ3_checkFromToIndex_8c36e 9 = .ok (.iload_n 1, 1) := by decide +kernel
theorem dJ3_checkFromToIndex_8c36e_10 : decode cJ3_checkFromToIndex_8c36e 10 = .ok (.iload_n 2, 1) := by decide +kernel
theorem dJ3_checkFromToIndex_8c36e_11 : decode cJ3_checkFromToIndex_8c36e 11 = .ok (.if_icmp .le 11, 3) := by decide +kernel
theorem dJ3_checkFromToIndex_8c36e_14 : decode cJ3_checkFromToIndex_8c36e 14 = .ok (.aload_n 3, 1) := by decide +kernel
theorem dJ3_checkFromToIndex_8c36e_15 : decode cJ3_checkFromToIndex_8c36e 15 = .ok (.iload_n 0, 1) := by decide +kernel
theorem dJ3_checkFromToIndex_8c36e_16 : decode cJ3_checkFromToIndex_8c36e 16 = .ok (.iload_n 1, 1) := by decide +kernel
theorem dJ3_checkFromToIndex_8c36e_17 : decode cJ3_checkFromToIndex_8c36e 17 = .ok (.iload_n 2, 1) := by decide +kernel
theorem dJ3_checkFromToIndex_8c36e_18 : decode cJ3_checkFromToIndex_8c36e 18 = .ok (.invokestatic 99, 3) := by decide +kernel
theorem dJ3_checkFromToIndex_8c36e_21 : decode cJ3_checkFromToIndex_8c36e 21 = .ok (.athrow, 1) := by decide +kernel
theorem dJ3_checkFromToIndex_8c36e_22 : decode cJ3_checkFromToIndex_8c36e 22 = .ok (.iload_n 0, 1) := by decide +kernel
theorem dJ3_checkFromToIndex_8c36e_23 : decode cJ3_checkFromToIndex_8c36e 23 = .ok (.ireturn, 1) := by decide +kernel
set_option maxRecDepth 20000 in
theorem ggL_law_X6_init : GoodIn wsL_law wsX6_init := goodIn_r _ [8, 9, 10, 11, 12, 13, 14, 15, 16, 17, 18, 19, 20, 21, 22, 23, 24, 25, 26, 27, 28, 29, 30, 31, 32, 33, 34, 35, 36, 37, 38, 39, 40, 41, 42, 43, 44, 45, 46, 47, 48, 49, 50, 51, 52, 53, 54, 55, 56, 57, 58, 59, 60, 61, 62, 63, 64, 65, 66, 67, 68, 69, 70, 71, 72, 73, 74, 75, 76, 77, 78, 79, 80, 81, 82, 83, 84, 85, 86, 87, 88, 89, 90, 91, 92, 93, 94, 95, 96, 97, 98, 99, 100, 101, 102, 103, 104, 105, 106, 107, 108, 109, 110, 111, 112, 113, 114, 115, 116, 117, 118, 119, 120, 121, 122, 123, 124, 125, 126, 127, 128, 129, 130, 131, 132, 133, 134, 135, 136, 137, 138, 139, 140, 141, 142, 143, 144, 145, 146, 147, 148, 149, 150, 151, 152, 153, 154, 155, 156, 157, 158, 159, 160, 161, 162, 163, 164, 165, 166, 167, 168, 169, 170, 171, 172, 173, 174, 175, 176, 177, 178, 179, 2, 180, 181, 182, 183, 184, 185, 186, 187, 188, 189, 190, 191, 192, 193, 194, 195, 196, 197, 198, 199, 200, 201, 202, 203, 204, 798, 799, 800, 801, 802, 803, 804, 764, 765, 766, 767, 768, 805, 806, 807, 808, 809, 810, 811, 812, 813, 814, 815, 816, 817, 818, 819, 820, 821, 822] (by decide +kernel) (by decide +kernel)
set_option maxRecDepth 20000 in
theorem gL_law_X6_init : GoodIn wsL_law (wsX6_init) := ggL_law_X6_init
set_option maxRecDepth 20000 in
theorem ggL_law_X7_init : GoodIn wsL_law wsX7_init := goodIn_r _ [207, 208, 10, 11, 35, 209, 210, 211, 212, 213, 214, 215, 216, 217, 218, 219, 220, 221, 769, 770, 771, 772, 773, 774, 775, 776, 777, 778, 779, 780, 781, 782, 783, 784, 785, 786, 787, 788, 789, 790, 791, 792, 793, 794, 795, 796, 797] (by decide +kernel) (by decide +kernel)
set_option maxRecDepth 20000 in
theorem gL_law_X7_init : GoodIn wsL_law (wsX7_init) := ggL_law_X7_init
set_option maxRecDepth 20000 in
theorem ggL_law_X6_line : GoodIn wsL_law wsX6_line := goodIn_r _ [225, 15, 226, 227, 2, 228, 229, 230, 231, 14, 232, 233, 37, 38, 39, 40, 764, 765, 766, 767, 768, 798, 799, 800, 801, 802, 803, 804] (by decide +kernel) (by decide +kernel)
set_option maxRecDepth 20000 in
theorem gL_law_X6_line : GoodIn wsL_law (wsV RL 13 RX6 yX6_line wsX6_line) := goodIn_app (goodIn_of _ (by decide +kernel)) ggL_law_X6_line
set_option maxRecDepth 20000 in
theorem ggL_law_X7_line : GoodIn wsL_law wsX7_line := goodIn_r _ [237, 238, 239, 240, 241, 242, 210, 211, 212, 213, 243, 244, 5, 245, 769, 770, 771, 772, 773, 774, 775, 776, 777, 778, 779, 780, 781, 782, 783, 784, 785, 786, 787, 788, 789, 790, 791, 792, 793, 794, 795, 796, 797] (by decide +kernel) (by decide +kernel)
set_option maxRecDepth 20000 in
theorem gL_law_X7_line : GoodIn wsL_law (wsV RL 17 RX7 yX7_line wsX7_line) := goodIn_app (goodIn_of _ (by decide +kernel)) ggL_law_X7_line
set_option maxRecDepth 20000 in
theorem ggL_law_X6_wipe : GoodIn wsL_law wsX6_wipe := goodIn_r _ [249, 15, 250, 251, 252, 14, 253, 233, 254, 764, 765, 766, 767, 768, 798, 799, 800, 801, 802, 803, 804] (by decide +kernel) (by decide +kernel)
set_option maxRecDepth 20000 in
theorem gL_law_X6_wipe : GoodIn wsL_law (wsV RL 18 RX6 yX6_wipe wsX6_wipe) := goodIn_app (goodIn_of _ (by decide +kernel)) ggL_law_X6_wipe
set_option maxRecDepth 20000 in
theorem ggL_law_X7_wipe : GoodIn wsL_law wsX7_wipe := goodIn_r _ [258, 238, 242, 259, 769, 770, 771, 772, 773, 774, 775, 776, 777, 778, 779, 780, 781, 782, 783, 784, 785, 786, 787, 788, 789, 790, 791, 792, 793, 794, 795, 796, 797] (by decide +kernel) (by decide +kernel)
set_option maxRecDepth 20000 in
theorem gL_law_X7_wipe : GoodIn wsL_law (wsV RL 22 RX7 yX7_wipe wsX7_wipe) := goodIn_app (goodIn_of _ (by decide +kernel)) ggL_law_X7_wipe
set_option maxRecDepth 20000 in
theorem ggL_law_X6_set : GoodIn wsL_law wsX6_set := goodIn_r _ [263, 15, 226, 227, 2, 228, 264, 265, 266, 14, 267, 36, 764, 765, 766, 767, 768, 798, 799, 800, 801, 802, 803, 804] (by decide +kernel) (by decide +kernel)
set_option maxRecDepth 20000 in
theorem gL_law_X6_set : GoodIn wsL_law (wsV RL 23 RX6 yX6_set wsX6_set) := goodIn_app (goodIn_of _ (by decide +kernel)) ggL_law_X6_set
set_option maxRecDepth 20000 in
theorem ggL_law_X7_set : GoodIn wsL_law wsX7_set := goodIn_r _ [271, 238, 240, 272, 209, 243, 244, 5, 245, 769, 770, 771, 772, 773, 774, 775, 776, 777, 778, 779, 780, 781, 782, 783, 784, 785, 786, 787, 788, 789, 790, 791, 792, 793, 794, 795, 796, 797] (by decide +kernel) (by decide +kernel)
set_option maxRecDepth 20000 in
theorem gL_law_X7_set : GoodIn wsL_law (wsV RL 27 RX7 yX7_set wsX7_set) := goodIn_app (goodIn_of _ (by decide +kernel)) ggL_law_X7_set
set_option maxRecDepth 20000 in
theorem ggL_law_X6_counter : GoodIn wsL_law wsX6_counter := goodIn_r _ [276, 15, 226, 227, 2, 228, 277, 278, 279, 14, 280, 36, 764, 765, 766, 767, 768, 798, 799, 800, 801, 802, 803, 804] (by decide +kernel) (by decide +kernel)
set_option maxRecDepth 20000 in
theorem gL_law_X6_counter : GoodIn wsL_law (wsV RL 28 RX6 yX6_counter wsX6_counter) := goodIn_app (goodIn_of _ (by decide +kernel)) ggL_law_X6_counter
set_option maxRecDepth 20000 in
theorem ggL_law_X7_counter : GoodIn wsL_law wsX7_counter := goodIn_r _ [284, 238, 240, 209, 243, 244, 5, 245, 769, 770, 771, 772, 773, 774, 775, 776, 777, 778, 779, 780, 781, 782, 783, 784, 785, 786, 787, 788, 789, 790, 791, 792, 793, 794, 795, 796, 797] (by decide +kernel) (by decide +kernel)
set_option maxRecDepth 20000 in
theorem gL_law_X7_counter : GoodIn wsL_law (wsV RL 32 RX7 yX7_counter wsX7_counter) := goodIn_app (goodIn_of _ (by decide +kernel)) ggL_law_X7_counter
set_option maxRecDepth 20000 in
theorem ggL_law_X6_count : GoodIn wsL_law wsX6_count := goodIn_r _ [288, 15, 226, 227, 2, 228, 289, 290, 291, 14, 292, 293, 294, 295, 296, 254, 233, 37, 38, 297, 298, 299, 300, 36, 39, 301, 302, 303, 304, 40, 764, 765, 766, 767, 768, 798, 799, 800, 801, 802, 803, 804] (by decide +kernel) (by decide +kernel)
set_option maxRecDepth 20000 in
theorem gL_law_X6_count : GoodIn wsL_law (wsV RL 33 RX6 yX6_count wsX6_count) := goodIn_app (goodIn_of _ (by decide +kernel)) ggL_law_X6_count
set_option maxRecDepth 20000 in
theorem ggL_law_X7_count : GoodIn wsL_law wsX7_count := goodIn_r _ [308, 238, 309, 211, 259, 210, 209, 212, 213, 243, 244, 5, 245, 310, 311, 312, 313, 242, 769, 770, 771, 772, 773, 774, 775, 776, 777, 778, 779, 780, 781, 782, 783, 784, 785, 786, 787, 788, 789, 790, 791, 792, 793, 794, 795, 796, 797] (by decide +kernel) (by decide +kernel)
set_option maxRecDepth 20000 in
theorem gL_law_X7_count : GoodIn wsL_law (wsV RL 36 RX7 yX7_count wsX7_count) := goodIn_app (goodIn_of _ (by decide +kernel)) ggL_law_X7_count
set_option maxRecDepth 20000 in
theorem ggL_law_X6_at : GoodIn wsL_law wsX6_at := goodIn_r _ [317, 15, 318, 319, 320, 14, 321, 254, 764, 765, 766, 767, 768, 798, 799, 800, 801, 802, 803, 804] (by decide +kernel) (by decide +kernel)
set_option maxRecDepth 20000 in
theorem gL_law_X6_at : GoodIn wsL_law (wsV RL 37 RX6 yX6_at wsX6_at) := goodIn_app (goodIn_of _ (by decide +kernel)) ggL_law_X6_at
set_option maxRecDepth 20000 in
theorem ggL_law_X7_at : GoodIn wsL_law wsX7_at := goodIn_r _ [325, 238, 259, 769, 770, 771, 772, 773, 774, 775, 776, 777, 778, 779, 780, 781, 782, 783, 784, 785, 786, 787, 788, 789, 790, 791, 792, 793, 794, 795, 796, 797] (by decide +kernel) (by decide +kernel)
set_option maxRecDepth 20000 in
theorem gL_law_X7_at : GoodIn wsL_law (wsV RL 40 RX7 yX7_at wsX7_at) := goodIn_app (goodIn_of _ (by decide +kernel)) ggL_law_X7_at
set_option maxRecDepth 20000 in
theorem ggL_law_X6_go : GoodIn wsL_law wsX6_go := goodIn_r _ [329, 15, 226, 227, 2, 228, 330, 331, 332, 14, 333, 254, 764, 765, 766, 767, 768, 798, 799, 800, 801, 802, 803, 804] (by decide +kernel) (by decide +kernel)
set_option maxRecDepth 20000 in
theorem gL_law_X6_go : GoodIn wsL_law (wsV RL 41 RX6 yX6_go wsX6_go) := goodIn_app (goodIn_of _ (by decide +kernel)) ggL_law_X6_go
set_option maxRecDepth 20000 in
theorem ggL_law_X7_go : GoodIn wsL_law wsX7_go := goodIn_r _ [337, 238, 241, 259, 243, 244, 5, 245, 769, 770, 771, 772, 773, 774, 775, 776, 777, 778, 779, 780, 781, 782, 783, 784, 785, 786, 787, 788, 789, 790, 791, 792, 793, 794, 795, 796, 797] (by decide +kernel) (by decide +kernel)
set_option maxRecDepth 20000 in
theorem gL_law_X7_go : GoodIn wsL_law (wsV RL 44 RX7 yX7_go wsX7_go) := goodIn_app (goodIn_of _ (by decide +kernel)) ggL_law_X7_go
set_option maxRecDepth 20000 in
theorem ggL_law_X6_rule : GoodIn wsL_law wsX6_rule := goodIn_r _ [341, 23, 19, 226, 227, 2, 228, 342, 179, 180, 343, 344, 345, 22, 346, 55, 56, 57, 58, 53, 59, 60, 61, 62, 63, 64, 65, 66, 67, 68, 69, 70, 71, 72, 73, 74, 75, 76, 77, 78, 79, 80, 81, 82, 83, 84, 85, 86, 87, 88, 89, 90, 91, 92, 93, 94, 95, 96, 97, 98, 99, 100, 101, 102, 103, 104, 105, 106, 107, 108, 109, 110, 111, 112, 113, 114, 115, 116, 117, 118, 119, 120, 121, 122, 123, 124, 125, 126, 127, 128, 129, 130, 131, 132, 133, 134, 135, 136, 137, 138, 139, 140, 141, 142, 143, 144, 145, 146, 147, 148, 149, 150, 151, 152, 153, 154, 155, 156, 157, 158, 159, 160, 161, 162, 163, 164, 165, 166, 167, 168, 169, 170, 171, 172, 173, 174, 175, 176, 177, 178, 181, 182, 183, 184, 54, 347, 348, 349, 18, 350, 45, 351, 46, 47, 48, 764, 765, 766, 767, 768, 814, 815, 805, 806, 807, 808, 809, 810, 811, 812, 813] (by decide +kernel) (by decide +kernel)
set_option maxRecDepth 20000 in
theorem gL_law_X6_rule : GoodIn wsL_law (wsV RL 45 RX6 yX6_rule wsX6_rule) := goodIn_app (goodIn_of _ (by decide +kernel)) ggL_law_X6_rule
set_option maxRecDepth 20000 in
theorem ggL_law_X7_rule : GoodIn wsL_law wsX7_rule := goodIn_r _ [355, 238, 239, 214, 215, 216, 356, 357, 5, 358, 243, 244, 245, 769, 770, 771, 772, 773, 774, 775, 776, 777, 778, 779, 780, 781, 782, 783, 784, 785, 786, 787, 788, 789, 790, 791, 792, 793, 794, 795, 796, 797] (by decide +kernel) (by decide +kernel)
set_option maxRecDepth 20000 in
theorem gL_law_X7_rule : GoodIn wsL_law (wsV RL 49 RX7 yX7_rule wsX7_rule) := goodIn_app (goodIn_of _ (by decide +kernel)) ggL_law_X7_rule
set_option maxRecDepth 20000 in
theorem ggL_law_X6_unrule : GoodIn wsL_law wsX6_unrule := goodIn_r _ [362, 23, 19, 226, 227, 2, 228, 342, 179, 180, 363, 56, 57, 22, 58, 53, 59, 60, 61, 62, 63, 64, 65, 66, 67, 68, 69, 70, 71, 72, 73, 74, 75, 76, 77, 78, 79, 80, 81, 82, 83, 84, 85, 86, 87, 88, 89, 90, 91, 92, 93, 94, 95, 96, 97, 98, 99, 100, 101, 102, 103, 104, 105, 106, 107, 108, 109, 110, 111, 112, 113, 114, 115, 116, 117, 118, 119, 120, 121, 122, 123, 124, 125, 126, 127, 128, 129, 130, 131, 132, 133, 134, 135, 136, 137, 138, 139, 140, 141, 142, 143, 144, 145, 146, 147, 148, 149, 150, 151, 152, 153, 154, 155, 156, 157, 158, 159, 160, 161, 162, 163, 164, 165, 166, 167, 168, 169, 170, 171, 172, 173, 174, 175, 176, 177, 178, 181, 182, 183, 184, 54, 364, 365, 366, 18, 367, 45, 351, 764, 765, 766, 767, 768, 814, 815, 805, 806, 807, 808, 809, 810, 811, 812, 813] (by decide +kernel) (by decide +kernel)
set_option maxRecDepth 20000 in
theorem gL_law_X6_unrule : GoodIn wsL_law (wsV RL 50 RX6 yX6_unrule wsX6_unrule) := goodIn_app (goodIn_of _ (by decide +kernel)) ggL_law_X6_unrule
set_option maxRecDepth 20000 in
theorem ggL_law_X7_unrule : GoodIn wsL_law wsX7_unrule := goodIn_r _ [371, 238, 214, 356, 357, 5, 358, 239, 243, 244, 245, 769, 770, 771, 772, 773, 774, 775, 776, 777, 778, 779, 780, 781, 782, 783, 784, 785, 786, 787, 788, 789, 790, 791, 792, 793, 794, 795, 796, 797] (by decide +kernel) (by decide +kernel)
set_option maxRecDepth 20000 in
theorem gL_law_X7_unrule : GoodIn wsL_law (wsV RL 53 RX7 yX7_unrule wsX7_unrule) := goodIn_app (goodIn_of _ (by decide +kernel)) ggL_law_X7_unrule
set_option maxRecDepth 20000 in
theorem ggL_law_X6_place : GoodIn wsL_law wsX6_place := goodIn_r _ [375, 376, 19, 226, 227, 2, 228, 377, 378, 379, 18, 380, 381, 382, 383, 384, 764, 765, 766, 767, 768, 805, 806, 807, 808, 809, 810, 811, 812, 813] (by decide +kernel) (by decide +kernel)
set_option maxRecDepth 20000 in
theorem gL_law_X6_place : GoodIn wsL_law (wsV RL 54 RX6 yX6_place wsX6_place) := goodIn_app (goodIn_of _ (by decide +kernel)) ggL_law_X6_place
set_option maxRecDepth 20000 in
theorem ggL_law_X7_place : GoodIn wsL_law wsX7_place := goodIn_r _ [388, 238, 389, 390, 391, 392, 393, 356, 357, 5, 358, 239, 243, 244, 245, 769, 770, 771, 772, 773, 774, 775, 776, 777, 778, 779, 780, 781, 782, 783, 784, 785, 786, 787, 788, 789, 790, 791, 792, 793, 794, 795, 796, 797] (by decide +kernel) (by decide +kernel)
set_option maxRecDepth 20000 in
theorem gL_law_X7_place : GoodIn wsL_law (wsV RL 57 RX7 yX7_place wsX7_place) := goodIn_app (goodIn_of _ (by decide +kernel)) ggL_law_X7_place
set_option maxRecDepth 20000 in
theorem ggL_law_X6_move : GoodIn wsL_law wsX6_move := goodIn_r _ [397, 19, 226, 227, 2, 228, 398, 399, 400, 18, 401, 402, 403, 404, 405, 381, 382, 47, 383, 384, 46, 406, 48, 407, 408, 409, 410, 45, 179, 180, 764, 765, 766, 767, 768, 805, 806, 807, 808, 809, 810, 811, 812, 813] (by decide +kernel) (by decide +kernel)
set_option maxRecDepth 20000 in
theorem gL_law_X6_move : GoodIn wsL_law (wsV RL 58 RX6 yX6_move wsX6_move) := goodIn_app (goodIn_of _ (by decide +kernel)) ggL_law_X6_move
set_option maxRecDepth 20000 in
theorem ggL_law_X7_move : GoodIn wsL_law wsX7_move := goodIn_r _ [414, 238, 309, 390, 391, 215, 392, 214, 393, 216, 243, 244, 5, 245, 415, 416, 417, 418, 419, 769, 770, 771, 772, 773, 774, 775, 776, 777, 778, 779, 780, 781, 782, 783, 784, 785, 786, 787, 788, 789, 790, 791, 792, 793, 794, 795, 796, 797] (by decide +kernel) (by decide +kernel)
set_option maxRecDepth 20000 in
theorem gL_law_X7_move : GoodIn wsL_law (wsV RL 61 RX7 yX7_move wsX7_move) := goodIn_app (goodIn_of _ (by decide +kernel)) ggL_law_X7_move
set_option maxRecDepth 20000 in
theorem ggL_law_X6_where : GoodIn wsL_law wsX6_where := goodIn_r _ [423, 19, 424, 408, 409, 18, 410, 45, 381, 382, 179, 2, 180, 425, 426, 427, 764, 765, 766, 767, 768, 805, 806, 807, 808, 809, 810, 811, 812, 813] (by decide +kernel) (by decide +kernel)
set_option maxRecDepth 20000 in
theorem gL_law_X6_where : GoodIn wsL_law (wsV RL 62 RX6 yX6_where wsX6_where) := goodIn_app (goodIn_of _ (by decide +kernel)) ggL_law_X6_where
set_option maxRecDepth 20000 in
theorem ggL_law_X7_where : GoodIn wsL_law wsX7_where := goodIn_r _ [431, 238, 390, 391, 392, 393, 214, 769, 770, 771, 772, 773, 774, 775, 776, 777, 778, 779, 780, 781, 782, 783, 784, 785, 786, 787, 788, 789, 790, 791, 792, 793, 794, 795, 796, 797] (by decide +kernel) (by decide +kernel)
set_option maxRecDepth 20000 in
theorem gL_law_X7_where : GoodIn wsL_law (wsV RL 65 RX7 yX7_where wsX7_where) := goodIn_app (goodIn_of _ (by decide +kernel)) ggL_law_X7_where
set_option maxRecDepth 20000 in
theorem ggL_law_X6_production : GoodIn wsL_law wsX6_production := goodIn_r _ [435, 23, 226, 227, 2, 228, 436, 437, 438, 22, 439, 54, 440, 441, 442, 443, 53, 764, 765, 766, 767, 768, 814, 815] (by decide +kernel) (by decide +kernel)
set_option maxRecDepth 20000 in
theorem gL_law_X6_production : GoodIn wsL_law (wsV RL 66 RX6 yX6_production wsX6_production) := goodIn_app (goodIn_of _ (by decide +kernel)) ggL_law_X6_production
set_option maxRecDepth 20000 in
theorem ggL_law_X7_production : GoodIn wsL_law wsX7_production := goodIn_r _ [447, 238, 448, 449, 221, 243, 244, 5, 245, 450, 451, 452, 453, 214, 216, 454, 455, 456, 457, 458, 459, 460, 461, 462, 463, 464, 465, 466, 467, 468, 215, 469, 470, 471, 472, 769, 770, 771, 772, 773, 774, 775, 776, 777, 778, 779, 780, 781, 782, 783, 784, 785, 786, 787, 788, 789, 790, 791, 792, 793, 794, 795, 796, 797] (by decide +kernel) (by decide +kernel)
set_option maxRecDepth 20000 in
theorem gL_law_X7_production : GoodIn wsL_law (wsV RL 69 RX7 yX7_production wsX7_production) := goodIn_app (goodIn_of _ (by decide +kernel)) ggL_law_X7_production
set_option maxRecDepth 20000 in
theorem ggL_law_X6_lay : GoodIn wsL_law wsX6_lay := goodIn_r _ [476, 27, 19, 342, 179, 2, 180, 477, 478, 479, 26, 480, 191, 481, 482, 483, 190, 484, 485, 486, 487, 488, 489, 490, 491, 492, 493, 494, 198, 495, 496, 497, 498, 764, 765, 766, 767, 768, 805, 806, 807, 808, 809, 810, 811, 812, 813, 816, 817, 820, 821, 822] (by decide +kernel) (by decide +kernel)
set_option maxRecDepth 20000 in
theorem gL_law_X6_lay : GoodIn wsL_law (wsV RL 70 RX6 yX6_lay wsX6_lay) := goodIn_app (goodIn_of _ (by decide +kernel)) ggL_law_X6_lay
set_option maxRecDepth 20000 in
theorem ggL_law_X7_lay : GoodIn wsL_law wsX7_lay := goodIn_r _ [502, 238, 392, 393, 390, 391, 503, 504, 454, 455, 5, 456, 505, 506, 507, 508, 217, 769, 770, 771, 772, 773, 774, 775, 776, 777, 778, 779, 780, 781, 782, 783, 784, 785, 786, 787, 788, 789, 790, 791, 792, 793, 794, 795, 796, 797] (by decide +kernel) (by decide +kernel)
set_option maxRecDepth 20000 in
theorem gL_law_X7_lay : GoodIn wsL_law (wsV RL 73 RX7 yX7_lay wsX7_lay) := goodIn_app (goodIn_of _ (by decide +kernel)) ggL_law_X7_lay
set_option maxRecDepth 20000 in
theorem ggL_law_X6_add : GoodIn wsL_law wsX6_add := goodIn_r _ [512, 27, 226, 227, 2, 228, 513, 514, 515, 26, 516, 191, 491, 492, 493, 190, 494, 486, 198, 485, 495, 496, 497, 498, 764, 765, 766, 767, 768, 816, 817, 820, 821, 822] (by decide +kernel) (by decide +kernel)
set_option maxRecDepth 20000 in
theorem gL_law_X6_add : GoodIn wsL_law (wsV RL 74 RX6 yX6_add wsX6_add) := goodIn_app (goodIn_of _ (by decide +kernel)) ggL_law_X6_add
set_option maxRecDepth 20000 in
theorem ggL_law_X7_add : GoodIn wsL_law wsX7_add := goodIn_r _ [520, 238, 448, 504, 243, 244, 5, 245, 505, 506, 507, 508, 217, 503, 769, 770, 771, 772, 773, 774, 775, 776, 777, 778, 779, 780, 781, 782, 783, 784, 785, 786, 787, 788, 789, 790, 791, 792, 793, 794, 795, 796, 797] (by decide +kernel) (by decide +kernel)
set_option maxRecDepth 20000 in
theorem gL_law_X7_add : GoodIn wsL_law (wsV RL 77 RX7 yX7_add wsX7_add) := goodIn_app (goodIn_of _ (by decide +kernel)) ggL_law_X7_add
set_option maxRecDepth 20000 in
theorem ggL_law_X6_clear : GoodIn wsL_law wsX6_clear := goodIn_r _ [524, 27, 525, 482, 483, 190, 484, 485, 486, 764, 765, 766, 767, 768, 816, 817, 820, 821, 822] (by decide +kernel) (by decide +kernel)
set_option maxRecDepth 20000 in
theorem gL_law_X6_clear : GoodIn wsL_law (wsV RL 78 RX6 yX6_clear wsX6_clear) := goodIn_app (goodIn_of _ (by decide +kernel)) ggL_law_X6_clear
set_option maxRecDepth 20000 in
theorem ggL_law_X7_clear : GoodIn wsL_law wsX7_clear := goodIn_r _ [529, 238, 504, 769, 770, 771, 772, 773, 774, 775, 776, 777, 778, 779, 780, 781, 782, 783, 784, 785, 786, 787, 788, 789, 790, 791, 792, 793, 794, 795, 796, 797] (by decide +kernel) (by decide +kernel)
set_option maxRecDepth 20000 in
theorem gL_law_X7_clear : GoodIn wsL_law (wsV RL 81 RX7 yX7_clear wsX7_clear) := goodIn_app (goodIn_of _ (by decide +kernel)) ggL_law_X7_clear
set_option maxRecDepth 20000 in
theorem ggL_law_X6_letter : GoodIn wsL_law wsX6_letter := goodIn_r _ [533, 27, 534, 535, 536, 190, 537, 486, 198, 485, 227, 2, 228, 495, 496, 497, 498, 764, 765, 766, 767, 768, 816, 817, 820, 821, 822] (by decide +kernel) (by decide +kernel)
set_option maxRecDepth 20000 in
theorem gL_law_X6_letter : GoodIn wsL_law (wsV RL 82 RX6 yX6_letter wsX6_letter) := goodIn_app (goodIn_of _ (by decide +kernel)) ggL_law_X6_letter
set_option maxRecDepth 20000 in
theorem ggL_law_X7_letter : GoodIn wsL_law wsX7_letter := goodIn_r _ [541, 238, 504, 243, 244, 5, 245, 542, 543, 544, 545, 217, 503, 769, 770, 771, 772, 773, 774, 775, 776, 777, 778, 779, 780, 781, 782, 783, 784, 785, 786, 787, 788, 789, 790, 791, 792, 793, 794, 795, 796, 797] (by decide +kernel) (by decide +kernel)
set_option maxRecDepth 20000 in
theorem gL_law_X7_letter : GoodIn wsL_law (wsV RL 85 RX7 yX7_letter wsX7_letter) := goodIn_app (goodIn_of _ (by decide +kernel)) ggL_law_X7_letter
set_option maxRecDepth 20000 in
theorem ggL_law_X6_length : GoodIn wsL_law wsX6_length := goodIn_r _ [549, 27, 764, 765, 766, 767, 768, 816, 817, 820, 821, 822] (by decide +kernel) (by decide +kernel)
set_option maxRecDepth 20000 in
theorem gL_law_X6_length : GoodIn wsL_law (wsV RL 86 RX6 yX6_length wsX6_length) := goodIn_app (goodIn_of _ (by decide +kernel)) ggL_law_X6_length
set_option maxRecDepth 20000 in
theorem ggL_law_X7_length : GoodIn wsL_law wsX7_length := goodIn_r _ [553, 238, 504, 769, 770, 771, 772, 773, 774, 775, 776, 777, 778, 779, 780, 781, 782, 783, 784, 785, 786, 787, 788, 789, 790, 791, 792, 793, 794, 795, 796, 797] (by decide +kernel) (by decide +kernel)
set_option maxRecDepth 20000 in
theorem gL_law_X7_length : GoodIn wsL_law (wsV RL 89 RX7 yX7_length wsX7_length) := goodIn_app (goodIn_of _ (by decide +kernel)) ggL_law_X7_length
set_option maxRecDepth 20000 in
theorem ggL_law_X6_tag : GoodIn wsL_law wsX6_tag := goodIn_r _ [557, 27, 23, 226, 227, 2, 228, 558, 559, 560, 26, 561, 562, 563, 564, 565, 191, 566, 535, 536, 190, 537, 486, 198, 485, 495, 496, 497, 498, 567, 441, 442, 22, 443, 53, 568, 569, 570, 571, 572, 129, 126, 130, 573, 574, 575, 576, 54, 440, 577, 492, 493, 494, 764, 765, 766, 767, 768, 816, 817, 820, 821, 822, 814, 815] (by decide +kernel) (by decide +kernel)
set_option maxRecDepth 20000 in
theorem gL_law_X6_tag : GoodIn wsL_law (wsV RL 90 RX6 yX6_tag wsX6_tag) := goodIn_app (goodIn_of _ (by decide +kernel)) ggL_law_X6_tag
set_option maxRecDepth 20000 in
theorem ggL_law_X7_tag : GoodIn wsL_law wsX7_tag := goodIn_r _ [581, 238, 582, 243, 244, 5, 245, 583, 584, 585, 586, 504, 449, 503, 221, 542, 543, 544, 545, 217, 450, 451, 452, 453, 214, 216, 454, 455, 456, 457, 458, 459, 460, 461, 462, 463, 464, 465, 466, 467, 468, 215, 469, 470, 471, 472, 505, 506, 507, 508, 769, 770, 771, 772, 773, 774, 775, 776, 777, 778, 779, 780, 781, 782, 783, 784, 785, 786, 787, 788, 789, 790, 791, 792, 793, 794, 795, 796, 797] (by decide +kernel) (by decide +kernel)
set_option maxRecDepth 20000 in
theorem gL_law_X7_tag : GoodIn wsL_law (wsV RL 93 RX7 yX7_tag wsX7_tag) := goodIn_app (goodIn_of _ (by decide +kernel)) ggL_law_X7_tag
set_option maxRecDepth 20000 in
theorem ggL_law_X6_next : GoodIn wsL_law wsX6_next := goodIn_r _ [590, 27, 23, 591, 592, 593, 26, 594, 192, 191, 595, 596, 597, 190, 598, 486, 599, 482, 483, 484, 485, 600, 535, 536, 537, 198, 227, 2, 228, 495, 496, 497, 498, 601, 492, 493, 494, 562, 563, 564, 565, 566, 567, 441, 442, 22, 443, 53, 568, 569, 570, 571, 572, 129, 126, 130, 573, 574, 575, 576, 54, 440, 577, 602, 603, 604, 605, 606, 607, 608, 609, 764, 765, 766, 767, 768, 816, 817, 820, 821, 822, 814, 815] (by decide +kernel) (by decide +kernel)
set_option maxRecDepth 20000 in
theorem gL_law_X6_next : GoodIn wsL_law (wsV RL 94 RX6 yX6_next wsX6_next) := goodIn_app (goodIn_of _ (by decide +kernel)) ggL_law_X6_next
set_option maxRecDepth 20000 in
theorem ggL_law_X7_next : GoodIn wsL_law wsX7_next := goodIn_r _ [613, 238, 504, 614, 218, 503, 542, 543, 544, 5, 545, 217, 583, 584, 585, 586, 449, 221, 450, 451, 452, 453, 214, 216, 454, 455, 456, 457, 458, 459, 460, 461, 462, 463, 464, 465, 466, 467, 468, 215, 469, 470, 471, 472, 505, 506, 507, 508, 615, 616, 617, 618, 619, 620, 621, 769, 770, 771, 772, 773, 774, 775, 776, 777, 778, 779, 780, 781, 782, 783, 784, 785, 786, 787, 788, 789, 790, 791, 792, 793, 794, 795, 796, 797] (by decide +kernel) (by decide +kernel)
set_option maxRecDepth 20000 in
theorem gL_law_X7_next : GoodIn wsL_law (wsV RL 97 RX7 yX7_next wsX7_next) := goodIn_app (goodIn_of _ (by decide +kernel)) ggL_law_X7_next
set_option maxRecDepth 20000 in
theorem ggL_law_X6_told : GoodIn wsL_law wsX6_told := goodIn_r _ [625, 27, 226, 227, 2, 228, 626, 627, 628, 26, 629, 191, 602, 603, 604, 605, 566, 535, 536, 190, 537, 486, 198, 485, 495, 496, 497, 498, 606, 607, 608, 609, 764, 765, 766, 767, 768, 816, 817, 820, 821, 822] (by decide +kernel) (by decide +kernel)
set_option maxRecDepth 20000 in
theorem gL_law_X6_told : GoodIn wsL_law (wsV RL 98 RX6 yX6_told wsX6_told) := goodIn_app (goodIn_of _ (by decide +kernel)) ggL_law_X6_told
set_option maxRecDepth 20000 in
theorem ggL_law_X7_told : GoodIn wsL_law wsX7_told := goodIn_r _ [633, 238, 240, 619, 620, 621, 243, 244, 5, 245, 615, 616, 617, 618, 504, 542, 543, 544, 545, 217, 503, 454, 455, 456, 769, 770, 771, 772, 773, 774, 775, 776, 777, 778, 779, 780, 781, 782, 783, 784, 785, 786, 787, 788, 789, 790, 791, 792, 793, 794, 795, 796, 797] (by decide +kernel) (by decide +kernel)
set_option maxRecDepth 20000 in
theorem gL_law_X7_told : GoodIn wsL_law (wsV RL 101 RX7 yX7_told wsX7_told) := goodIn_app (goodIn_of _ (by decide +kernel)) ggL_law_X7_told
set_option maxRecDepth 20000 in
theorem ggL_law_X6_appendant : GoodIn wsL_law wsX6_appendant := goodIn_r _ [637, 23, 226, 227, 2, 228, 638, 639, 640, 22, 641, 440, 441, 442, 443, 53, 642, 437, 438, 439, 54, 426, 427, 764, 765, 766, 767, 768, 814, 815] (by decide +kernel) (by decide +kernel)
set_option maxRecDepth 20000 in
theorem gL_law_X6_appendant : GoodIn wsL_law (wsV RL 102 RX6 yX6_appendant wsX6_appendant) := goodIn_app (goodIn_of _ (by decide +kernel)) ggL_law_X6_appendant
set_option maxRecDepth 20000 in
theorem ggL_law_X7_appendant : GoodIn wsL_law wsX7_appendant := goodIn_r _ [646, 238, 647, 449, 221, 243, 244, 5, 245, 450, 451, 452, 453, 214, 216, 454, 455, 456, 457, 458, 459, 460, 461, 462, 463, 464, 465, 466, 467, 468, 215, 469, 470, 471, 472, 769, 770, 771, 772, 773, 774, 775, 776, 777, 778, 779, 780, 781, 782, 783, 784, 785, 786, 787, 788, 789, 790, 791, 792, 793, 794, 795, 796, 797] (by decide +kernel) (by decide +kernel)
set_option maxRecDepth 20000 in
theorem gL_law_X7_appendant : GoodIn wsL_law (wsV RL 105 RX7 yX7_appendant wsX7_appendant) := goodIn_app (goodIn_of _ (by decide +kernel)) ggL_law_X7_appendant
set_option maxRecDepth 20000 in
theorem ggL_law_X6_spread : GoodIn wsL_law wsX6_spread := goodIn_r _ [651, 31, 27, 652, 653, 654, 30, 655, 656, 203, 657, 658, 596, 597, 190, 598, 486, 599, 482, 483, 484, 485, 600, 535, 536, 537, 198, 227, 2, 228, 495, 496, 497, 498, 601, 492, 493, 494, 764, 765, 766, 767, 768, 816, 817, 820, 821, 822, 818, 819] (by decide +kernel) (by decide +kernel)
set_option maxRecDepth 20000 in
theorem gL_law_X6_spread : GoodIn wsL_law (wsV RL 106 RX6 yX6_spread wsX6_spread) := goodIn_app (goodIn_of _ (by decide +kernel)) ggL_law_X6_spread
set_option maxRecDepth 20000 in
theorem ggL_law_X7_spread : GoodIn wsL_law wsX7_spread := goodIn_r _ [662, 238, 504, 663, 664, 665, 666, 542, 543, 544, 5, 545, 217, 503, 667, 668, 669, 670, 220, 219, 769, 770, 771, 772, 773, 774, 775, 776, 777, 778, 779, 780, 781, 782, 783, 784, 785, 786, 787, 788, 789, 790, 791, 792, 793, 794, 795, 796, 797] (by decide +kernel) (by decide +kernel)
set_option maxRecDepth 20000 in
theorem gL_law_X7_spread : GoodIn wsL_law (wsV RL 109 RX7 yX7_spread wsX7_spread) := goodIn_app (goodIn_of _ (by decide +kernel)) ggL_law_X7_spread
set_option maxRecDepth 20000 in
theorem ggL_law_X6_cycle : GoodIn wsL_law wsX6_cycle := goodIn_r _ [674, 31, 23, 226, 227, 2, 228, 675, 676, 677, 30, 678, 679, 680, 681, 682, 203, 683, 129, 126, 130, 684, 685, 686, 687, 657, 688, 535, 536, 190, 537, 486, 198, 485, 495, 496, 497, 498, 689, 441, 442, 22, 443, 53, 690, 691, 692, 693, 694, 695, 696, 697, 656, 698, 699, 700, 701, 702, 574, 575, 576, 54, 440, 577, 492, 493, 494, 703, 704, 705, 706, 707, 569, 570, 571, 572, 764, 765, 766, 767, 768, 818, 819, 820, 821, 822, 814, 815] (by decide +kernel) (by decide +kernel)
set_option maxRecDepth 20000 in
theorem gL_law_X6_cycle : GoodIn wsL_law (wsV RL 110 RX6 yX6_cycle wsX6_cycle) := goodIn_app (goodIn_of _ (by decide +kernel)) ggL_law_X6_cycle
set_option maxRecDepth 20000 in
theorem ggL_law_X7_cycle : GoodIn wsL_law wsX7_cycle := goodIn_r _ [711, 238, 712, 243, 244, 5, 245, 713, 714, 715, 716, 449, 666, 665, 663, 664, 219, 221, 717, 718, 719, 720, 721, 722, 723, 724, 725, 726, 727, 728, 220, 450, 451, 452, 453, 214, 216, 454, 455, 456, 457, 458, 459, 460, 461, 462, 463, 464, 465, 466, 467, 468, 215, 469, 470, 471, 472, 667, 668, 669, 670, 769, 770, 771, 772, 773, 774, 775, 776, 777, 778, 779, 780, 781, 782, 783, 784, 785, 786, 787, 788, 789, 790, 791, 792, 793, 794, 795, 796, 797] (by decide +kernel) (by decide +kernel)
set_option maxRecDepth 20000 in
theorem gL_law_X7_cycle : GoodIn wsL_law (wsV RL 113 RX7 yX7_cycle wsX7_cycle) := goodIn_app (goodIn_of _ (by decide +kernel)) ggL_law_X7_cycle
set_option maxRecDepth 20000 in
theorem ggL_law_X6_bit : GoodIn wsL_law wsX6_bit := goodIn_r _ [732, 31, 733, 734, 735, 30, 736, 203, 698, 699, 700, 701, 690, 691, 692, 693, 657, 227, 2, 228, 688, 535, 536, 190, 537, 486, 198, 485, 495, 496, 497, 498, 426, 427, 764, 765, 766, 767, 768, 818, 819, 820, 821, 822] (by decide +kernel) (by decide +kernel)
set_option maxRecDepth 20000 in
theorem gL_law_X6_bit : GoodIn wsL_law (wsV RL 114 RX6 yX6_bit wsX6_bit) := goodIn_app (goodIn_of _ (by decide +kernel)) ggL_law_X6_bit
set_option maxRecDepth 20000 in
theorem ggL_law_X7_bit : GoodIn wsL_law wsX7_bit := goodIn_r _ [740, 238, 665, 243, 244, 5, 245, 725, 726, 727, 728, 220, 664, 219, 769, 770, 771, 772, 773, 774, 775, 776, 777, 778, 779, 780, 781, 782, 783, 784, 785, 786, 787, 788, 789, 790, 791, 792, 793, 794, 795, 796, 797] (by decide +kernel) (by decide +kernel)
set_option maxRecDepth 20000 in
theorem gL_law_X7_bit : GoodIn wsL_law (wsV RL 117 RX7 yX7_bit wsX7_bit) := goodIn_app (goodIn_of _ (by decide +kernel)) ggL_law_X7_bit
set_option maxRecDepth 20000 in
theorem ggL_law_X6_bits : GoodIn wsL_law wsX6_bits := goodIn_r _ [744, 31, 23, 745, 699, 700, 30, 701, 203, 690, 691, 692, 693, 657, 746, 747, 748, 749, 688, 535, 536, 190, 537, 486, 198, 485, 227, 2, 228, 495, 496, 497, 498, 750, 685, 686, 687, 689, 441, 442, 22, 443, 53, 425, 426, 427, 764, 765, 766, 767, 768, 818, 819, 820, 821, 822, 814, 815] (by decide +kernel) (by decide +kernel)
set_option maxRecDepth 20000 in
theorem gL_law_X6_bits : GoodIn wsL_law (wsV RL 118 RX6 yX6_bits wsX6_bits) := goodIn_app (goodIn_of _ (by decide +kernel)) ggL_law_X6_bits
set_option maxRecDepth 20000 in
theorem ggL_law_X7_bits : GoodIn wsL_law wsX7_bits := goodIn_r _ [754, 238, 665, 666, 725, 726, 727, 5, 728, 220, 664, 219, 717, 718, 719, 720, 449, 721, 722, 723, 724, 450, 451, 452, 453, 214, 216, 454, 455, 456, 457, 458, 459, 460, 461, 462, 463, 464, 221, 465, 466, 467, 468, 215, 469, 470, 471, 472, 769, 770, 771, 772, 773, 774, 775, 776, 777, 778, 779, 780, 781, 782, 783, 784, 785, 786, 787, 788, 789, 790, 791, 792, 793, 794, 795, 796, 797] (by decide +kernel) (by decide +kernel)
set_option maxRecDepth 20000 in
theorem gL_law_X7_bits : GoodIn wsL_law (wsV RL 121 RX7 yX7_bits wsX7_bits) := goodIn_app (goodIn_of _ (by decide +kernel)) ggL_law_X7_bits
set_option maxRecDepth 20000 in
theorem ggL_law_X6_gather : GoodIn wsL_law wsX6_gather := goodIn_r _ [758, 31, 27, 759, 596, 597, 190, 598, 486, 599, 482, 483, 484, 485, 600, 535, 536, 537, 198, 227, 2, 228, 495, 496, 497, 498, 601, 492, 493, 494, 764, 765, 766, 767, 768, 818, 819, 820, 821, 822, 816, 817] (by decide +kernel) (by decide +kernel)
set_option maxRecDepth 20000 in
theorem gL_law_X6_gather : GoodIn wsL_law (wsV RL 122 RX6 yX6_gather wsX6_gather) := goodIn_app (goodIn_of _ (by decide +kernel)) ggL_law_X6_gather
set_option maxRecDepth 20000 in
theorem ggL_law_X7_gather : GoodIn wsL_law wsX7_gather := goodIn_r _ [763, 238, 666, 665, 503, 504, 721, 722, 723, 5, 724, 725, 726, 727, 728, 220, 664, 219, 505, 506, 507, 508, 217, 769, 770, 771, 772, 773, 774, 775, 776, 777, 778, 779, 780, 781, 782, 783, 784, 785, 786, 787, 788, 789, 790, 791, 792, 793, 794, 795, 796, 797] (by decide +kernel) (by decide +kernel)
set_option maxRecDepth 20000 in
theorem gL_law_X7_gather : GoodIn wsL_law (wsV RL 125 RX7 yX7_gather wsX7_gather) := goodIn_app (goodIn_of _ (by decide +kernel)) ggL_law_X7_gather
theorem dL_law_0 : decode cL_law 0 = .ok (.new 7, 3) := by decide +kernel
theorem dL_law_3 : decode cL_law 3 = .ok (.dup, 1) := by decide +kernel
theorem dL_law_4 : decode cL_law 4 = .ok (.invokespecial 9, 3) := by decide +kernel
theorem dL_law_7 : decode cL_law 7 = .ok (.astore_n 1, 1) := by decide +kernel
theorem dL_law_8 : decode cL_law 8 = .ok (.new 10, 3) := by decide +kernel
theorem dL_law_11 : decode cL_law 11 = .ok (.dup, 1) := by decide +kernel
theorem dL_law_12 : decode cL_law 12 = .ok (.invokespecial 12, 3) := by decide +kernel
theorem dL_law_15 : decode cL_law 15 = .ok (.astore_n 2, 1) := by decide +kernel
theorem dL_law_16 : decode cL_law 16 = .ok (.iconst 0, 1) := by decide +kernel
theorem dL_law_17 : decode cL_law 17 = .ok (.istore_n 3, 1) := by decide +kernel
theorem dL_law_18 : decode cL_law 18 = .ok (.iload_n 3, 1) := by decide +kernel
theorem dL_law_19 : decode cL_law 19 = .ok (.aload_n 0, 1) := by decide +kernel
theorem dL_law_20 : decode cL_law 20 = .ok (.arraylength, 1) := by decide +kernel
theorem dL_law_21 : decode cL_law 21 = .ok (.bipush 6, 2) := by decide +kernel
theorem dL_law_23 : decode cL_law 23 = .ok (.isub, 1) := by decide +kernel
theorem dL_law_24 : decode cL_law 24 = .ok (.if_icmp .gt 819, 3) := by decide +kernel
theorem dL_law_27 : decode cL_law 27 = .ok (.aload_n 0, 1) := by decide +kernel
theorem dL_law_28 : decode cL_law 28 = .ok (.iload_n 3, 1) := by decide +kernel
theorem dL_law_29 : decode cL_law 29 = .ok (.iaload, 1) := by decide +kernel
theorem dL_law_30 : decode cL_law 30 = .ok (.bipush 31, 2) := by decide +kernel
theorem dL_law_32 : decode cL_law 32 = .ok (.iand, 1) := by decide +kernel
theorem dL_law_33 : decode cL_law 33 = .ok (.tableswitch 804 0 26 #[123, 176, 189, 222, 245, 268, 281, 304, 367, 400, 453, 476, 499, 532, 545, 568, 581, 604, 617, 640, 653, 676, 709, 722, 745, 768, 791], 123) := by decide +kernel
theorem dL_law_156 : decode cL_law 156 = .ok (.aload_n 1, 1) := by decide +kernel
theorem dL_law_157 : decode cL_law 157 = .ok (.aload_n 0, 1) := by decide +kernel
theorem dL_law_158 : decode cL_law 158 = .ok (.iload_n 3, 1) := by decide +kernel
theorem dL_law_159 : decode cL_law 159 = .ok (.iconst 1, 1) := by decide +kernel
theorem dL_law_160 : decode cL_law 160 = .ok (.iadd, 1) := by decide +kernel
theorem dL_law_161 : decode cL_law 161 = .ok (.iaload, 1) := by decide +kernel
theorem dL_law_162 : decode cL_law 162 = .ok (.aload_n 0, 1) := by decide +kernel
theorem dL_law_163 : decode cL_law 163 = .ok (.iload_n 3, 1) := by decide +kernel
theorem dL_law_164 : decode cL_law 164 = .ok (.iconst 2, 1) := by decide +kernel
theorem dL_law_165 : decode cL_law 165 = .ok (.iadd, 1) := by decide +kernel
theorem dL_law_166 : decode cL_law 166 = .ok (.iaload, 1) := by decide +kernel
theorem dL_law_167 : decode cL_law 167 = .ok (.aload_n 0, 1) := by decide +kernel
theorem dL_law_168 : decode cL_law 168 = .ok (.iload_n 3, 1) := by decide +kernel
theorem dL_law_169 : decode cL_law 169 = .ok (.iconst 3, 1) := by decide +kernel
theorem dL_law_170 : decode cL_law 170 = .ok (.iadd, 1) := by decide +kernel
theorem dL_law_171 : decode cL_law 171 = .ok (.iaload, 1) := by decide +kernel
theorem dL_law_172 : decode cL_law 172 = .ok (.aload_n 0, 1) := by decide +kernel
theorem dL_law_173 : decode cL_law 173 = .ok (.iload_n 3, 1) := by decide +kernel
theorem dL_law_174 : decode cL_law 174 = .ok (.iconst 4, 1) := by decide +kernel
theorem dL_law_175 : decode cL_law 175 = .ok (.iadd, 1) := by decide +kernel
theorem dL_law_176 : decode cL_law 176 = .ok (.iaload, 1) := by decide +kernel
theorem dL_law_177 : decode cL_law 177 = .ok (.invokevirtual 13, 3) := by decide +kernel
theorem dL_law_180 : decode cL_law 180 = .ok (.aload_n 2, 1) := by decide +kernel
theorem dL_law_181 : decode cL_law 181 = .ok (.aload_n 0, 1) := by decide +kernel
theorem dL_law_182 : decode cL_law 182 = .ok (.iload_n 3, 1) := by decide +kernel
theorem dL_law_183 : decode cL_law 183 = .ok (.iconst 1, 1) := by decide +kernel
theorem dL_law_184 : decode cL_law 184 = .ok (.iadd, 1) := by decide +kernel
theorem dL_law_185 : decode cL_law 185 = .ok (.iaload, 1) := by decide +kernel
theorem dL_law_186 : decode cL_law 186 = .ok (.aload_n 0, 1) := by decide +kernel
theorem dL_law_187 : decode cL_law 187 = .ok (.iload_n 3, 1) := by decide +kernel
theorem dL_law_188 : decode cL_law 188 = .ok (.iconst 2, 1) := by decide +kernel
theorem dL_law_189 : decode cL_law 189 = .ok (.iadd, 1) := by decide +kernel
theorem dL_law_190 : decode cL_law 190 = .ok (.iaload, 1) := by decide +kernel
theorem dL_law_191 : decode cL_law 191 = .ok (.aload_n 0, 1) := by decide +kernel
theorem dL_law_192 : decode cL_law 192 = .ok (.iload_n 3, 1) := by decide +kernel
theorem dL_law_193 : decode cL_law 193 = .ok (.iconst 3, 1) := by decide +kernel
theorem dL_law_194 : decode cL_law 194 = .ok (.iadd, 1) := by decide +kernel
theorem dL_law_195 : decode cL_law 195 = .ok (.iaload, 1) := by decide +kernel
theorem dL_law_196 : decode cL_law 196 = .ok (.aload_n 0, 1) := by decide +kernel
theorem dL_law_197 : decode cL_law 197 = .ok (.iload_n 3, 1) := by decide +kernel
theorem dL_law_198 : decode cL_law 198 = .ok (.iconst 4, 1) := by decide +kernel
theorem dL_law_199 : decode cL_law 199 = .ok (.iadd, 1) := by decide +kernel
theorem dL_law_200 : decode cL_law 200 = .ok (.iaload, 1) := by decide +kernel
theorem dL_law_201 : decode cL_law 201 = .ok (.invokevirtual 17, 3) := by decide +kernel
theorem dL_law_204 : decode cL_law 204 = .ok (.if_icmp .eq 633, 3) := by decide +kernel
theorem dL_law_207 : decode cL_law 207 = .ok (.iconst 0, 1) := by decide +kernel
theorem dL_law_208 : decode cL_law 208 = .ok (.ireturn, 1) := by decide +kernel
theorem dL_law_209 : decode cL_law 209 = .ok (.aload_n 1, 1) := by decide +kernel
theorem dL_law_210 : decode cL_law 210 = .ok (.invokevirtual 18, 3) := by decide +kernel
theorem dL_law_213 : decode cL_law 213 = .ok (.aload_n 2, 1) := by decide +kernel
theorem dL_law_214 : decode cL_law 214 = .ok (.invokevirtual 22, 3) := by decide +kernel
theorem dL_law_217 : decode cL_law 217 = .ok (.if_icmp .eq 620, 3) := by decide +kernel
theorem dL_law_220 : decode cL_law 220 = .ok (.iconst 0, 1) := by decide +kernel
theorem dL_law_221 : decode cL_law 221 = .ok (.ireturn, 1) := by decide +kernel
theorem dL_law_222 : decode cL_law 222 = .ok (.aload_n 1, 1) := by decide +kernel
theorem dL_law_223 : decode cL_law 223 = .ok (.aload_n 0, 1) := by decide +kernel
theorem dL_law_224 : decode cL_law 224 = .ok (.iload_n 3, 1) := by decide +kernel
theorem dL_law_225 : decode cL_law 225 = .ok (.iconst 1, 1) := by decide +kernel
theorem dL_law_226 : decode cL_law 226 = .ok (.iadd, 1) := by decide +kernel
theorem dL_law_227 : decode cL_law 227 = .ok (.iaload, 1) := by decide +kernel
theorem dL_law_228 : decode cL_law 228 = .ok (.aload_n 0, 1) := by decide +kernel
theorem dL_law_229 : decode cL_law 229 = .ok (.iload_n 3, 1) := by decide +kernel
theorem dL_law_230 : decode cL_law 230 = .ok (.iconst 2, 1) := by decide +kernel
theorem dL_law_231 : decode cL_law 231 = .ok (.iadd, 1) := by decide +kernel
theorem dL_law_232 : decode cL_law 232 = .ok (.iaload, 1) := by decide +kernel
theorem dL_law_233 : decode cL_law 233 = .ok (.invokevirtual 23, 3) := by decide +kernel
theorem dL_law_236 : decode cL_law 236 = .ok (.aload_n 2, 1) := by decide +kernel
theorem dL_law_237 : decode cL_law 237 = .ok (.aload_n 0, 1) := by decide +kernel
theorem dL_law_238 : decode cL_law 238 = .ok (.iload_n 3, 1) := by decide +kernel
theorem dL_law_239 : decode cL_law 239 = .ok (.iconst 1, 1) := by decide +kernel
theorem dL_law_240 : decode cL_law 240 = .ok (.iadd, 1) := by decide +kernel
theorem dL_law_241 : decode cL_law 241 = .ok (.iaload, 1) := by decide +kernel
theorem dL_law_242 : decode cL_law 242 = .ok (.aload_n 0, 1) := by decide +kernel
theorem dL_law_243 : decode cL_law 243 = .ok (.iload_n 3, 1) := by decide +kernel
theorem dL_law_244 : decode cL_law 244 = .ok (.iconst 2, 1) := by decide +kernel
theorem dL_law_245 : decode cL_law 245 = .ok (.iadd, 1) := by decide +kernel
theorem dL_law_246 : decode cL_law 246 = .ok (.iaload, 1) := by decide +kernel
theorem dL_law_247 : decode cL_law 247 = .ok (.invokevirtual 27, 3) := by decide +kernel
theorem dL_law_250 : decode cL_law 250 = .ok (.if_icmp .eq 587, 3) := by decide +kernel
theorem dL_law_253 : decode cL_law 253 = .ok (.iconst 0, 1) := by decide +kernel
theorem dL_law_254 : decode cL_law 254 = .ok (.ireturn, 1) := by decide +kernel
theorem dL_law_255 : decode cL_law 255 = .ok (.aload_n 1, 1) := by decide +kernel
theorem dL_law_256 : decode cL_law 256 = .ok (.aload_n 0, 1) := by decide +kernel
theorem dL_law_257 : decode cL_law 257 = .ok (.iload_n 3, 1) := by decide +kernel
theorem dL_law_258 : decode cL_law 258 = .ok (.iconst 1, 1) := by decide +kernel
theorem dL_law_259 : decode cL_law 259 = .ok (.iadd, 1) := by decide +kernel
theorem dL_law_260 : decode cL_law 260 = .ok (.iaload, 1) := by decide +kernel
theorem dL_law_261 : decode cL_law 261 = .ok (.invokevirtual 28, 3) := by decide +kernel
theorem dL_law_264 : decode cL_law 264 = .ok (.aload_n 2, 1) := by decide +kernel
theorem dL_law_265 : decode cL_law 265 = .ok (.aload_n 0, 1) := by decide +kernel
theorem dL_law_266 : decode cL_law 266 = .ok (.iload_n 3, 1) := by decide +kernel
theorem dL_law_267 : decode cL_law 267 = .ok (.iconst 1, 1) := by decide +kernel
theorem dL_law_268 : decode cL_law 268 = .ok (.iadd, 1) := by decide +kernel
theorem dL_law_269 : decode cL_law 269 = .ok (.iaload, 1) := by decide +kernel
theorem dL_law_270 : decode cL_law 270 = .ok (.invokevirtual 32, 3) := by decide +kernel
theorem dL_law_273 : decode cL_law 273 = .ok (.if_icmp .eq 564, 3) := by decide +kernel
theorem dL_law_276 : decode cL_law 276 = .ok (.iconst 0, 1) := by decide +kernel
theorem dL_law_277 : decode cL_law 277 = .ok (.ireturn, 1) := by decide +kernel
theorem dL_law_278 : decode cL_law 278 = .ok (.aload_n 1, 1) := by decide +kernel
theorem dL_law_279 : decode cL_law 279 = .ok (.aload_n 0, 1) := by decide +kernel
theorem dL_law_280 : decode cL_law 280 = .ok (.iload_n 3, 1) := by decide +kernel
theorem dL_law_281 : decode cL_law 281 = .ok (.iconst 1, 1) := by decide +kernel
theorem dL_law_282 : decode cL_law 282 = .ok (.iadd, 1) := by decide +kernel
theorem dL_law_283 : decode cL_law 283 = .ok (.iaload, 1) := by decide +kernel
theorem dL_law_284 : decode cL_law 284 = .ok (.invokevirtual 33, 3) := by decide +kernel
theorem dL_law_287 : decode cL_law 287 = .ok (.aload_n 2, 1) := by decide +kernel
theorem dL_law_288 : decode cL_law 288 = .ok (.aload_n 0, 1) := by decide +kernel
theorem dL_law_289 : decode cL_law 289 = .ok (.iload_n 3, 1) := by decide +kernel
theorem dL_law_290 : decode cL_law 290 = .ok (.iconst 1, 1) := by decide +kernel
theorem dL_law_291 : decode cL_law 291 = .ok (.iadd, 1) := by decide +kernel
theorem dL_law_292 : decode cL_law 292 = .ok (.iaload, 1) := by decide +kernel
theorem dL_law_293 : decode cL_law 293 = .ok (.invokevirtual 36, 3) := by decide +kernel
theorem dL_law_296 : decode cL_law 296 = .ok (.if_icmp .eq 541, 3) := by decide +kernel
theorem dL_law_299 : decode cL_law 299 = .ok (.iconst 0, 1) := by decide +kernel
theorem dL_law_300 : decode cL_law 300 = .ok (.ireturn, 1) := by decide +kernel
theorem dL_law_301 : decode cL_law 301 = .ok (.aload_n 1, 1) := by decide +kernel
theorem dL_law_302 : decode cL_law 302 = .ok (.invokevirtual 37, 3) := by decide +kernel
theorem dL_law_305 : decode cL_law 305 = .ok (.aload_n 2, 1) := by decide +kernel
theorem dL_law_306 : decode cL_law 306 = .ok (.invokevirtual 40, 3) := by decide +kernel
theorem dL_law_309 : decode cL_law 309 = .ok (.if_icmp .eq 528, 3) := by decide +kernel
theorem dL_law_312 : decode cL_law 312 = .ok (.iconst 0, 1) := by decide +kernel
theorem dL_law_313 : decode cL_law 313 = .ok (.ireturn, 1) := by decide +kernel
theorem dL_law_314 : decode cL_law 314 = .ok (.aload_n 1, 1) := by decide +kernel
theorem dL_law_315 : decode cL_law 315 = .ok (.aload_n 0, 1) := by decide +kernel
theorem dL_law_316 : decode cL_law 316 = .ok (.iload_n 3, 1) := by decide +kernel
theorem dL_law_317 : decode cL_law 317 = .ok (.iconst 1, 1) := by decide +kernel
theorem dL_law_318 : decode cL_law 318 = .ok (.iadd, 1) := by decide +kernel
theorem dL_law_319 : decode cL_law 319 = .ok (.iaload, 1) := by decide +kernel
theorem dL_law_320 : decode cL_law 320 = .ok (.invokevirtual 41, 3) := by decide +kernel
theorem dL_law_323 : decode cL_law 323 = .ok (.aload_n 2, 1) := by decide +kernel
theorem dL_law_324 : decode cL_law 324 = .ok (.aload_n 0, 1) := by decide +kernel
theorem dL_law_325 : decode cL_law 325 = .ok (.iload_n 3, 1) := by decide +kernel
theorem dL_law_326 : decode cL_law 326 = .ok (.iconst 1, 1) := by decide +kernel
theorem dL_law_327 : decode cL_law 327 = .ok (.iadd, 1) := by decide +kernel
theorem dL_law_328 : decode cL_law 328 = .ok (.iaload, 1) := by decide +kernel
theorem dL_law_329 : decode cL_law 329 = .ok (.invokevirtual 44, 3) := by decide +kernel
theorem dL_law_332 : decode cL_law 332 = .ok (.if_icmp .eq 505, 3) := by decide +kernel
theorem dL_law_335 : decode cL_law 335 = .ok (.iconst 0, 1) := by decide +kernel
theorem dL_law_336 : decode cL_law 336 = .ok (.ireturn, 1) := by decide +kernel
theorem dL_law_337 : decode cL_law 337 = .ok (.aload_n 1, 1) := by decide +kernel
theorem dL_law_338 : decode cL_law 338 = .ok (.aload_n 0, 1) := by decide +kernel
theorem dL_law_339 : decode cL_law 339 = .ok (.iload_n 3, 1) := by decide +kernel
theorem dL_law_340 : decode cL_law 340 = .ok (.iconst 1, 1) := by decide +kernel
theorem dL_law_341 : decode cL_law 341 = .ok (.iadd, 1) := by decide +kernel
theorem dL_law_342 : decode cL_law 342 = .ok (.iaload, 1) := by decide +kernel
theorem dL_law_343 : decode cL_law 343 = .ok (.aload_n 0, 1) := by decide +kernel
theorem dL_law_344 : decode cL_law 344 = .ok (.iload_n 3, 1) := by decide +kernel
theorem dL_law_345 : decode cL_law 345 = .ok (.iconst 2, 1) := by decide +kernel
theorem dL_law_346 : decode cL_law 346 = .ok (.iadd, 1) := by decide +kernel
theorem dL_law_347 : decode cL_law 347 = .ok (.iaload, 1) := by decide +kernel
theorem dL_law_348 : decode cL_law 348 = .ok (.aload_n 0, 1) := by decide +kernel
theorem dL_law_349 : decode cL_law 349 = .ok (.iload_n 3, 1) := by decide +kernel
theorem dL_law_350 : decode cL_law 350 = .ok (.iconst 3, 1) := by decide +kernel
theorem dL_law_351 : decode cL_law 351 = .ok (.iadd, 1) := by decide +kernel
theorem dL_law_352 : decode cL_law 352 = .ok (.iaload, 1) := by decide +kernel
theorem dL_law_353 : decode cL_law 353 = .ok (.aload_n 0, 1) := by decide +kernel
theorem dL_law_354 : decode cL_law 354 = .ok (.iload_n 3, 1) := by decide +kernel
theorem dL_law_355 : decode cL_law 355 = .ok (.iconst 4, 1) := by decide +kernel
theorem dL_law_356 : decode cL_law 356 = .ok (.iadd, 1) := by decide +kernel
theorem dL_law_357 : decode cL_law 357 = .ok (.iaload, 1) := by decide +kernel
theorem dL_law_358 : decode cL_law 358 = .ok (.aload_n 0, 1) := by decide +kernel
theorem dL_law_359 : decode cL_law 359 = .ok (.iload_n 3, 1) := by decide +kernel
theorem dL_law_360 : decode cL_law 360 = .ok (.iconst 5, 1) := by decide +kernel
theorem dL_law_361 : decode cL_law 361 = .ok (.iadd, 1) := by decide +kernel
theorem dL_law_362 : decode cL_law 362 = .ok (.iaload, 1) := by decide +kernel
theorem dL_law_363 : decode cL_law 363 = .ok (.invokevirtual 45, 3) := by decide +kernel
theorem dL_law_366 : decode cL_law 366 = .ok (.aload_n 2, 1) := by decide +kernel
theorem dL_law_367 : decode cL_law 367 = .ok (.aload_n 0, 1) := by decide +kernel
theorem dL_law_368 : decode cL_law 368 = .ok (.iload_n 3, 1) := by decide +kernel
theorem dL_law_369 : decode cL_law 369 = .ok (.iconst 1, 1) := by decide +kernel
theorem dL_law_370 : decode cL_law 370 = .ok (.iadd, 1) := by decide +kernel
theorem dL_law_371 : decode cL_law 371 = .ok (.iaload, 1) := by decide +kernel
theorem dL_law_372 : decode cL_law 372 = .ok (.aload_n 0, 1) := by decide +kernel
theorem dL_law_373 : decode cL_law 373 = .ok (.iload_n 3, 1) := by decide +kernel
theorem dL_law_374 : decode cL_law 374 = .ok (.iconst 2, 1) := by decide +kernel
theorem dL_law_375 : decode cL_law 375 = .ok (.iadd, 1) := by decide +kernel
theorem dL_law_376 : decode cL_law 376 = .ok (.iaload, 1) := by decide +kernel
theorem dL_law_377 : decode cL_law 377 = .ok (.aload_n 0, 1) := by decide +kernel
theorem dL_law_378 : decode cL_law 378 = .ok (.iload_n 3, 1) := by decide +kernel
theorem dL_law_379 : decode cL_law 379 = .ok (.iconst 3, 1) := by decide +kernel
theorem dL_law_380 : decode cL_law 380 = .ok (.iadd, 1) := by decide +kernel
theorem dL_law_381 : decode cL_law 381 = .ok (.iaload, 1) := by decide +kernel
theorem dL_law_382 : decode cL_law 382 = .ok (.aload_n 0, 1) := by decide +kernel
theorem dL_law_383 : decode cL_law 383 = .ok (.iload_n 3, 1) := by decide +kernel
theorem dL_law_384 : decode cL_law 384 = .ok (.iconst 4, 1) := by decide +kernel
theorem dL_law_385 : decode cL_law 385 = .ok (.iadd, 1) := by decide +kernel
theorem dL_law_386 : decode cL_law 386 = .ok (.iaload, 1) := by decide +kernel
theorem dL_law_387 : decode cL_law 387 = .ok (.aload_n 0, 1) := by decide +kernel
theorem dL_law_388 : decode cL_law 388 = .ok (.iload_n 3, 1) := by decide +kernel
theorem dL_law_389 : decode cL_law 389 = .ok (.iconst 5, 1) := by decide +kernel
theorem dL_law_390 : decode cL_law 390 = .ok (.iadd, 1) := by decide +kernel
theorem dL_law_391 : decode cL_law 391 = .ok (.iaload, 1) := by decide +kernel
theorem dL_law_392 : decode cL_law 392 = .ok (.invokevirtual 49, 3) := by decide +kernel
theorem dL_law_395 : decode cL_law 395 = .ok (.if_icmp .eq 442, 3) := by decide +kernel
theorem dL_law_398 : decode cL_law 398 = .ok (.iconst 0, 1) := by decide +kernel
theorem dL_law_399 : decode cL_law 399 = .ok (.ireturn, 1) := by decide +kernel
theorem dL_law_400 : decode cL_law 400 = .ok (.aload_n 1, 1) := by decide +kernel
theorem dL_law_401 : decode cL_law 401 = .ok (.aload_n 0, 1) := by decide +kernel
theorem dL_law_402 : decode cL_law 402 = .ok (.iload_n 3, 1) := by decide +kernel
theorem dL_law_403 : decode cL_law 403 = .ok (.iconst 1, 1) := by decide +kernel
theorem dL_law_404 : decode cL_law 404 = .ok (.iadd, 1) := by decide +kernel
theorem dL_law_405 : decode cL_law 405 = .ok (.iaload, 1) := by decide +kernel
theorem dL_law_406 : decode cL_law 406 = .ok (.aload_n 0, 1) := by decide +kernel
theorem dL_law_407 : decode cL_law 407 = .ok (.iload_n 3, 1) := by decide +kernel
theorem dL_law_408 : decode cL_law 408 = .ok (.iconst 2, 1) := by decide +kernel
theorem dL_law_409 : decode cL_law 409 = .ok (.iadd, 1) := by decide +kernel
theorem dL_law_410 : decode cL_law 410 = .ok (.iaload, 1) := by decide +kernel
theorem dL_law_411 : decode cL_law 411 = .ok (.invokevirtual 50, 3) := by decide +kernel
theorem dL_law_414 : decode cL_law 414 = .ok (.aload_n 2, 1) := by decide +kernel
theorem dL_law_415 : decode cL_law 415 = .ok (.aload_n 0, 1) := by decide +kernel
theorem dL_law_416 : decode cL_law 416 = .ok (.iload_n 3, 1) := by decide +kernel
theorem dL_law_417 : decode cL_law 417 = .ok (.iconst 1, 1) := by decide +kernel
theorem dL_law_418 : decode cL_law 418 = .ok (.iadd, 1) := by decide +kernel
theorem dL_law_419 : decode cL_law 419 = .ok (.iaload, 1) := by decide +kernel
theorem dL_law_420 : decode cL_law 420 = .ok (.aload_n 0, 1) := by decide +kernel
theorem dL_law_421 : decode cL_law 421 = .ok (.iload_n 3, 1) := by decide +kernel
theorem dL_law_422 : decode cL_law 422 = .ok (.iconst 2, 1) := by decide +kernel
theorem dL_law_423 : decode cL_law 423 = .ok (.iadd, 1) := by decide +kernel
theorem dL_law_424 : decode cL_law 424 = .ok (.iaload, 1) := by decide +kernel
theorem dL_law_425 : decode cL_law 425 = .ok (.invokevirtual 53, 3) := by decide +kernel
theorem dL_law_428 : decode cL_law 428 = .ok (.if_icmp .eq 409, 3) := by decide +kernel
theorem dL_law_431 : decode cL_law 431 = .ok (.iconst 0, 1) := by decide +kernel
theorem dL_law_432 : decode cL_law 432 = .ok (.ireturn, 1) := by decide +kernel
theorem dL_law_433 : decode cL_law 433 = .ok (.aload_n 1, 1) := by decide +kernel
theorem dL_law_434 : decode cL_law 434 = .ok (.aload_n 0, 1) := by decide +kernel
theorem dL_law_435 : decode cL_law 435 = .ok (.iload_n 3, 1) := by decide +kernel
theorem dL_law_436 : decode cL_law 436 = .ok (.iconst 1, 1) := by decide +kernel
theorem dL_law_437 : decode cL_law 437 = .ok (.iadd, 1) := by decide +kernel
theorem dL_law_438 : decode cL_law 438 = .ok (.iaload, 1) := by decide +kernel
theorem dL_law_439 : decode cL_law 439 = .ok (.aload_n 0, 1) := by decide +kernel
theorem dL_law_440 : decode cL_law 440 = .ok (.iload_n 3, 1) := by decide +kernel
theorem dL_law_441 : decode cL_law 441 = .ok (.iconst 2, 1) := by decide +kernel
theorem dL_law_442 : decode cL_law 442 = .ok (.iadd, 1) := by decide +kernel
theorem dL_law_443 : decode cL_law 443 = .ok (.iaload, 1) := by decide +kernel
theorem dL_law_444 : decode cL_law 444 = .ok (.aload_n 0, 1) := by decide +kernel
theorem dL_law_445 : decode cL_law 445 = .ok (.iload_n 3, 1) := by decide +kernel
theorem dL_law_446 : decode cL_law 446 = .ok (.iconst 3, 1) := by decide +kernel
theorem dL_law_447 : decode cL_law 447 = .ok (.iadd, 1) := by decide +kernel
theorem dL_law_448 : decode cL_law 448 = .ok (.iaload, 1) := by decide +kernel
theorem dL_law_449 : decode cL_law 449 = .ok (.aload_n 0, 1) := by decide +kernel
theorem dL_law_450 : decode cL_law 450 = .ok (.iload_n 3, 1) := by decide +kernel
theorem dL_law_451 : decode cL_law 451 = .ok (.iconst 4, 1) := by decide +kernel
theorem dL_law_452 : decode cL_law 452 = .ok (.iadd, 1) := by decide +kernel
theorem dL_law_453 : decode cL_law 453 = .ok (.iaload, 1) := by decide +kernel
theorem dL_law_454 : decode cL_law 454 = .ok (.invokevirtual 54, 3) := by decide +kernel
theorem dL_law_457 : decode cL_law 457 = .ok (.aload_n 2, 1) := by decide +kernel
theorem dL_law_458 : decode cL_law 458 = .ok (.aload_n 0, 1) := by decide +kernel
theorem dL_law_459 : decode cL_law 459 = .ok (.iload_n 3, 1) := by decide +kernel
theorem dL_law_460 : decode cL_law 460 = .ok (.iconst 1, 1) := by decide +kernel
theorem dL_law_461 : decode cL_law 461 = .ok (.iadd, 1) := by decide +kernel
theorem dL_law_462 : decode cL_law 462 = .ok (.iaload, 1) := by decide +kernel
theorem dL_law_463 : decode cL_law 463 = .ok (.aload_n 0, 1) := by decide +kernel
theorem dL_law_464 : decode cL_law 464 = .ok (.iload_n 3, 1) := by decide +kernel
theorem dL_law_465 : decode cL_law 465 = .ok (.iconst 2, 1) := by decide +kernel
theorem dL_law_466 : decode cL_law 466 = .ok (.iadd, 1) := by decide +kernel
theorem dL_law_467 : decode cL_law 467 = .ok (.iaload, 1) := by decide +kernel
theorem dL_law_468 : decode cL_law 468 = .ok (.aload_n 0, 1) := by decide +kernel
theorem dL_law_469 : decode cL_law 469 = .ok (.iload_n 3, 1) := by decide +kernel
theorem dL_law_470 : decode cL_law 470 = .ok (.iconst 3, 1) := by decide +kernel
theorem dL_law_471 : decode cL_law 471 = .ok (.iadd, 1) := by decide +kernel
theorem dL_law_472 : decode cL_law 472 = .ok (.iaload, 1) := by decide +kernel
theorem dL_law_473 : decode cL_law 473 = .ok (.aload_n 0, 1) := by decide +kernel
theorem dL_law_474 : decode cL_law 474 = .ok (.iload_n 3, 1) := by decide +kernel
theorem dL_law_475 : decode cL_law 475 = .ok (.iconst 4, 1) := by decide +kernel
theorem dL_law_476 : decode cL_law 476 = .ok (.iadd, 1) := by decide +kernel
theorem dL_law_477 : decode cL_law 477 = .ok (.iaload, 1) := by decide +kernel
theorem dL_law_478 : decode cL_law 478 = .ok (.invokevirtual 57, 3) := by decide +kernel
theorem dL_law_481 : decode cL_law 481 = .ok (.if_icmp .eq 356, 3) := by decide +kernel
theorem dL_law_484 : decode cL_law 484 = .ok (.iconst 0, 1) := by decide +kernel
theorem dL_law_485 : decode cL_law 485 = .ok (.ireturn, 1) := by decide +kernel
theorem dL_law_486 : decode cL_law 486 = .ok (.aload_n 1, 1) := by decide +kernel
theorem dL_law_487 : decode cL_law 487 = .ok (.aload_n 0, 1) := by decide +kernel
theorem dL_law_488 : decode cL_law 488 = .ok (.iload_n 3, 1) := by decide +kernel
theorem dL_law_489 : decode cL_law 489 = .ok (.iconst 1, 1) := by decide +kernel
theorem dL_law_490 : decode cL_law 490 = .ok (.iadd, 1) := by decide +kernel
theorem dL_law_491 : decode cL_law 491 = .ok (.iaload, 1) := by decide +kernel
theorem dL_law_492 : decode cL_law 492 = .ok (.invokevirtual 58, 3) := by decide +kernel
theorem dL_law_495 : decode cL_law 495 = .ok (.aload_n 2, 1) := by decide +kernel
theorem dL_law_496 : decode cL_law 496 = .ok (.aload_n 0, 1) := by decide +kernel
theorem dL_law_497 : decode cL_law 497 = .ok (.iload_n 3, 1) := by decide +kernel
theorem dL_law_498 : decode cL_law 498 = .ok (.iconst 1, 1) := by decide +kernel
theorem dL_law_499 : decode cL_law 499 = .ok (.iadd, 1) := by decide +kernel
theorem dL_law_500 : decode cL_law 500 = .ok (.iaload, 1) := by decide +kernel
theorem dL_law_501 : decode cL_law 501 = .ok (.invokevirtual 61, 3) := by decide +kernel
theorem dL_law_504 : decode cL_law 504 = .ok (.if_icmp .eq 333, 3) := by decide +kernel
theorem dL_law_507 : decode cL_law 507 = .ok (.iconst 0, 1) := by decide +kernel
theorem dL_law_508 : decode cL_law 508 = .ok (.ireturn, 1) := by decide +kernel
theorem dL_law_509 : decode cL_law 509 = .ok (.aload_n 1, 1) := by decide +kernel
theorem dL_law_510 : decode cL_law 510 = .ok (.aload_n 0, 1) := by decide +kernel
theorem dL_law_511 : decode cL_law 511 = .ok (.iload_n 3, 1) := by decide +kernel
theorem dL_law_512 : decode cL_law 512 = .ok (.iconst 1, 1) := by decide +kernel
theorem dL_law_513 : decode cL_law 513 = .ok (.iadd, 1) := by decide +kernel
theorem dL_law_514 : decode cL_law 514 = .ok (.iaload, 1) := by decide +kernel
theorem dL_law_515 : decode cL_law 515 = .ok (.invokevirtual 62, 3) := by decide +kernel
theorem dL_law_518 : decode cL_law 518 = .ok (.aload_n 2, 1) := by decide +kernel
theorem dL_law_519 : decode cL_law 519 = .ok (.aload_n 0, 1) := by decide +kernel
theorem dL_law_520 : decode cL_law 520 = .ok (.iload_n 3, 1) := by decide +kernel
theorem dL_law_521 : decode cL_law 521 = .ok (.iconst 1, 1) := by decide +kernel
theorem dL_law_522 : decode cL_law 522 = .ok (.iadd, 1) := by decide +kernel
theorem dL_law_523 : decode cL_law 523 = .ok (.iaload, 1) := by decide +kernel
theorem dL_law_524 : decode cL_law 524 = .ok (.invokevirtual 65, 3) := by decide +kernel
theorem dL_law_527 : decode cL_law 527 = .ok (.if_icmp .eq 310, 3) := by decide +kernel
theorem dL_law_530 : decode cL_law 530 = .ok (.iconst 0, 1) := by decide +kernel
theorem dL_law_531 : decode cL_law 531 = .ok (.ireturn, 1) := by decide +kernel
theorem dL_law_532 : decode cL_law 532 = .ok (.aload_n 1, 1) := by decide +kernel
theorem dL_law_533 : decode cL_law 533 = .ok (.aload_n 0, 1) := by decide +kernel
theorem dL_law_534 : decode cL_law 534 = .ok (.iload_n 3, 1) := by decide +kernel
theorem dL_law_535 : decode cL_law 535 = .ok (.iconst 1, 1) := by decide +kernel
theorem dL_law_536 : decode cL_law 536 = .ok (.iadd, 1) := by decide +kernel
theorem dL_law_537 : decode cL_law 537 = .ok (.iaload, 1) := by decide +kernel
theorem dL_law_538 : decode cL_law 538 = .ok (.aload_n 0, 1) := by decide +kernel
theorem dL_law_539 : decode cL_law 539 = .ok (.iload_n 3, 1) := by decide +kernel
theorem dL_law_540 : decode cL_law 540 = .ok (.iconst 2, 1) := by decide +kernel
theorem dL_law_541 : decode cL_law 541 = .ok (.iadd, 1) := by decide +kernel
theorem dL_law_542 : decode cL_law 542 = .ok (.iaload, 1) := by decide +kernel
theorem dL_law_543 : decode cL_law 543 = .ok (.invokevirtual 66, 3) := by decide +kernel
theorem dL_law_546 : decode cL_law 546 = .ok (.aload_n 2, 1) := by decide +kernel
theorem dL_law_547 : decode cL_law 547 = .ok (.aload_n 0, 1) := by decide +kernel
theorem dL_law_548 : decode cL_law 548 = .ok (.iload_n 3, 1) := by decide +kernel
theorem dL_law_549 : decode cL_law 549 = .ok (.iconst 1, 1) := by decide +kernel
theorem dL_law_550 : decode cL_law 550 = .ok (.iadd, 1) := by decide +kernel
theorem dL_law_551 : decode cL_law 551 = .ok (.iaload, 1) := by decide +kernel
theorem dL_law_552 : decode cL_law 552 = .ok (.aload_n 0, 1) := by decide +kernel
theorem dL_law_553 : decode cL_law 553 = .ok (.iload_n 3, 1) := by decide +kernel
theorem dL_law_554 : decode cL_law 554 = .ok (.iconst 2, 1) := by decide +kernel
theorem dL_law_555 : decode cL_law 555 = .ok (.iadd, 1) := by decide +kernel
theorem dL_law_556 : decode cL_law 556 = .ok (.iaload, 1) := by decide +kernel
theorem dL_law_557 : decode cL_law 557 = .ok (.invokevirtual 69, 3) := by decide +kernel
theorem dL_law_560 : decode cL_law 560 = .ok (.if_icmp .eq 277, 3) := by decide +kernel
theorem dL_law_563 : decode cL_law 563 = .ok (.iconst 0, 1) := by decide +kernel
theorem dL_law_564 : decode cL_law 564 = .ok (.ireturn, 1) := by decide +kernel
theorem dL_law_565 : decode cL_law 565 = .ok (.aload_n 1, 1) := by decide +kernel
theorem dL_law_566 : decode cL_law 566 = .ok (.invokevirtual 70, 3) := by decide +kernel
theorem dL_law_569 : decode cL_law 569 = .ok (.aload_n 2, 1) := by decide +kernel
theorem dL_law_570 : decode cL_law 570 = .ok (.invokevirtual 73, 3) := by decide +kernel
theorem dL_law_573 : decode cL_law 573 = .ok (.if_icmp .eq 264, 3) := by decide +kernel
theorem dL_law_576 : decode cL_law 576 = .ok (.iconst 0, 1) := by decide +kernel
theorem dL_law_577 : decode cL_law 577 = .ok (.ireturn, 1) := by decide +kernel
theorem dL_law_578 : decode cL_law 578 = .ok (.aload_n 1, 1) := by decide +kernel
theorem dL_law_579 : decode cL_law 579 = .ok (.aload_n 0, 1) := by decide +kernel
theorem dL_law_580 : decode cL_law 580 = .ok (.iload_n 3, 1) := by decide +kernel
theorem dL_law_581 : decode cL_law 581 = .ok (.iconst 1, 1) := by decide +kernel
theorem dL_law_582 : decode cL_law 582 = .ok (.iadd, 1) := by decide +kernel
theorem dL_law_583 : decode cL_law 583 = .ok (.iaload, 1) := by decide +kernel
theorem dL_law_584 : decode cL_law 584 = .ok (.invokevirtual 74, 3) := by decide +kernel
theorem dL_law_587 : decode cL_law 587 = .ok (.aload_n 2, 1) := by decide +kernel
theorem dL_law_588 : decode cL_law 588 = .ok (.aload_n 0, 1) := by decide +kernel
theorem dL_law_589 : decode cL_law 589 = .ok (.iload_n 3, 1) := by decide +kernel
theorem dL_law_590 : decode cL_law 590 = .ok (.iconst 1, 1) := by decide +kernel
theorem dL_law_591 : decode cL_law 591 = .ok (.iadd, 1) := by decide +kernel
theorem dL_law_592 : decode cL_law 592 = .ok (.iaload, 1) := by decide +kernel
theorem dL_law_593 : decode cL_law 593 = .ok (.invokevirtual 77, 3) := by decide +kernel
theorem dL_law_596 : decode cL_law 596 = .ok (.if_icmp .eq 241, 3) := by decide +kernel
theorem dL_law_599 : decode cL_law 599 = .ok (.iconst 0, 1) := by decide +kernel
theorem dL_law_600 : decode cL_law 600 = .ok (.ireturn, 1) := by decide +kernel
theorem dL_law_601 : decode cL_law 601 = .ok (.aload_n 1, 1) := by decide +kernel
theorem dL_law_602 : decode cL_law 602 = .ok (.invokevirtual 78, 3) := by decide +kernel
theorem dL_law_605 : decode cL_law 605 = .ok (.aload_n 2, 1) := by decide +kernel
theorem dL_law_606 : decode cL_law 606 = .ok (.invokevirtual 81, 3) := by decide +kernel
theorem dL_law_609 : decode cL_law 609 = .ok (.if_icmp .eq 228, 3) := by decide +kernel
theorem dL_law_612 : decode cL_law 612 = .ok (.iconst 0, 1) := by decide +kernel
theorem dL_law_613 : decode cL_law 613 = .ok (.ireturn, 1) := by decide +kernel
theorem dL_law_614 : decode cL_law 614 = .ok (.aload_n 1, 1) := by decide +kernel
theorem dL_law_615 : decode cL_law 615 = .ok (.aload_n 0, 1) := by decide +kernel
theorem dL_law_616 : decode cL_law 616 = .ok (.iload_n 3, 1) := by decide +kernel
theorem dL_law_617 : decode cL_law 617 = .ok (.iconst 1, 1) := by decide +kernel
theorem dL_law_618 : decode cL_law 618 = .ok (.iadd, 1) := by decide +kernel
theorem dL_law_619 : decode cL_law 619 = .ok (.iaload, 1) := by decide +kernel
theorem dL_law_620 : decode cL_law 620 = .ok (.invokevirtual 82, 3) := by decide +kernel
theorem dL_law_623 : decode cL_law 623 = .ok (.aload_n 2, 1) := by decide +kernel
theorem dL_law_624 : decode cL_law 624 = .ok (.aload_n 0, 1) := by decide +kernel
theorem dL_law_625 : decode cL_law 625 = .ok (.iload_n 3, 1) := by decide +kernel
theorem dL_law_626 : decode cL_law 626 = .ok (.iconst 1, 1) := by decide +kernel
theorem dL_law_627 : decode cL_law 627 = .ok (.iadd, 1) := by decide +kernel
theorem dL_law_628 : decode cL_law 628 = .ok (.iaload, 1) := by decide +kernel
theorem dL_law_629 : decode cL_law 629 = .ok (.invokevirtual 85, 3) := by decide +kernel
theorem dL_law_632 : decode cL_law 632 = .ok (.if_icmp .eq 205, 3) := by decide +kernel
theorem dL_law_635 : decode cL_law 635 = .ok (.iconst 0, 1) := by decide +kernel
theorem dL_law_636 : decode cL_law 636 = .ok (.ireturn, 1) := by decide +kernel
theorem dL_law_637 : decode cL_law 637 = .ok (.aload_n 1, 1) := by decide +kernel
theorem dL_law_638 : decode cL_law 638 = .ok (.invokevirtual 86, 3) := by decide +kernel
theorem dL_law_641 : decode cL_law 641 = .ok (.aload_n 2, 1) := by decide +kernel
theorem dL_law_642 : decode cL_law 642 = .ok (.invokevirtual 89, 3) := by decide +kernel
theorem dL_law_645 : decode cL_law 645 = .ok (.if_icmp .eq 192, 3) := by decide +kernel
theorem dL_law_648 : decode cL_law 648 = .ok (.iconst 0, 1) := by decide +kernel
theorem dL_law_649 : decode cL_law 649 = .ok (.ireturn, 1) := by decide +kernel
theorem dL_law_650 : decode cL_law 650 = .ok (.aload_n 1, 1) := by decide +kernel
theorem dL_law_651 : decode cL_law 651 = .ok (.aload_n 0, 1) := by decide +kernel
theorem dL_law_652 : decode cL_law 652 = .ok (.iload_n 3, 1) := by decide +kernel
theorem dL_law_653 : decode cL_law 653 = .ok (.iconst 1, 1) := by decide +kernel
theorem dL_law_654 : decode cL_law 654 = .ok (.iadd, 1) := by decide +kernel
theorem dL_law_655 : decode cL_law 655 = .ok (.iaload, 1) := by decide +kernel
theorem dL_law_656 : decode cL_law 656 = .ok (.invokevirtual 90, 3) := by decide +kernel
theorem dL_law_659 : decode cL_law 659 = .ok (.aload_n 2, 1) := by decide +kernel
theorem dL_law_660 : decode cL_law 660 = .ok (.aload_n 0, 1) := by decide +kernel
theorem dL_law_661 : decode cL_law 661 = .ok (.iload_n 3, 1) := by decide +kernel
theorem dL_law_662 : decode cL_law 662 = .ok (.iconst 1, 1) := by decide +kernel
theorem dL_law_663 : decode cL_law 663 = .ok (.iadd, 1) := by decide +kernel
theorem dL_law_664 : decode cL_law 664 = .ok (.iaload, 1) := by decide +kernel
theorem dL_law_665 : decode cL_law 665 = .ok (.invokevirtual 93, 3) := by decide +kernel
theorem dL_law_668 : decode cL_law 668 = .ok (.if_icmp .eq 169, 3) := by decide +kernel
theorem dL_law_671 : decode cL_law 671 = .ok (.iconst 0, 1) := by decide +kernel
theorem dL_law_672 : decode cL_law 672 = .ok (.ireturn, 1) := by decide +kernel
theorem dL_law_673 : decode cL_law 673 = .ok (.aload_n 1, 1) := by decide +kernel
theorem dL_law_674 : decode cL_law 674 = .ok (.invokevirtual 94, 3) := by decide +kernel
theorem dL_law_677 : decode cL_law 677 = .ok (.aload_n 2, 1) := by decide +kernel
theorem dL_law_678 : decode cL_law 678 = .ok (.invokevirtual 97, 3) := by decide +kernel
theorem dL_law_681 : decode cL_law 681 = .ok (.if_icmp .eq 156, 3) := by decide +kernel
theorem dL_law_684 : decode cL_law 684 = .ok (.iconst 0, 1) := by decide +kernel
theorem dL_law_685 : decode cL_law 685 = .ok (.ireturn, 1) := by decide +kernel
theorem dL_law_686 : decode cL_law 686 = .ok (.aload_n 1, 1) := by decide +kernel
theorem dL_law_687 : decode cL_law 687 = .ok (.aload_n 0, 1) := by decide +kernel
theorem dL_law_688 : decode cL_law 688 = .ok (.iload_n 3, 1) := by decide +kernel
theorem dL_law_689 : decode cL_law 689 = .ok (.iconst 1, 1) := by decide +kernel
theorem dL_law_690 : decode cL_law 690 = .ok (.iadd, 1) := by decide +kernel
theorem dL_law_691 : decode cL_law 691 = .ok (.iaload, 1) := by decide +kernel
theorem dL_law_692 : decode cL_law 692 = .ok (.invokevirtual 98, 3) := by decide +kernel
theorem dL_law_695 : decode cL_law 695 = .ok (.aload_n 2, 1) := by decide +kernel
theorem dL_law_696 : decode cL_law 696 = .ok (.aload_n 0, 1) := by decide +kernel
theorem dL_law_697 : decode cL_law 697 = .ok (.iload_n 3, 1) := by decide +kernel
theorem dL_law_698 : decode cL_law 698 = .ok (.iconst 1, 1) := by decide +kernel
theorem dL_law_699 : decode cL_law 699 = .ok (.iadd, 1) := by decide +kernel
theorem dL_law_700 : decode cL_law 700 = .ok (.iaload, 1) := by decide +kernel
theorem dL_law_701 : decode cL_law 701 = .ok (.invokevirtual 101, 3) := by decide +kernel
theorem dL_law_704 : decode cL_law 704 = .ok (.if_icmp .eq 133, 3) := by decide +kernel
theorem dL_law_707 : decode cL_law 707 = .ok (.iconst 0, 1) := by decide +kernel
theorem dL_law_708 : decode cL_law 708 = .ok (.ireturn, 1) := by decide +kernel
theorem dL_law_709 : decode cL_law 709 = .ok (.aload_n 1, 1) := by decide +kernel
theorem dL_law_710 : decode cL_law 710 = .ok (.aload_n 0, 1) := by decide +kernel
theorem dL_law_711 : decode cL_law 711 = .ok (.iload_n 3, 1) := by decide +kernel
theorem dL_law_712 : decode cL_law 712 = .ok (.iconst 1, 1) := by decide +kernel
theorem dL_law_713 : decode cL_law 713 = .ok (.iadd, 1) := by decide +kernel
theorem dL_law_714 : decode cL_law 714 = .ok (.iaload, 1) := by decide +kernel
theorem dL_law_715 : decode cL_law 715 = .ok (.aload_n 0, 1) := by decide +kernel
theorem dL_law_716 : decode cL_law 716 = .ok (.iload_n 3, 1) := by decide +kernel
theorem dL_law_717 : decode cL_law 717 = .ok (.iconst 2, 1) := by decide +kernel
theorem dL_law_718 : decode cL_law 718 = .ok (.iadd, 1) := by decide +kernel
theorem dL_law_719 : decode cL_law 719 = .ok (.iaload, 1) := by decide +kernel
theorem dL_law_720 : decode cL_law 720 = .ok (.invokevirtual 102, 3) := by decide +kernel
theorem dL_law_723 : decode cL_law 723 = .ok (.aload_n 2, 1) := by decide +kernel
theorem dL_law_724 : decode cL_law 724 = .ok (.aload_n 0, 1) := by decide +kernel
theorem dL_law_725 : decode cL_law 725 = .ok (.iload_n 3, 1) := by decide +kernel
theorem dL_law_726 : decode cL_law 726 = .ok (.iconst 1, 1) := by decide +kernel
theorem dL_law_727 : decode cL_law 727 = .ok (.iadd, 1) := by decide +kernel
theorem dL_law_728 : decode cL_law 728 = .ok (.iaload, 1) := by decide +kernel
theorem dL_law_729 : decode cL_law 729 = .ok (.aload_n 0, 1) := by decide +kernel
theorem dL_law_730 : decode cL_law 730 = .ok (.iload_n 3, 1) := by decide +kernel
theorem dL_law_731 : decode cL_law 731 = .ok (.iconst 2, 1) := by decide +kernel
theorem dL_law_732 : decode cL_law 732 = .ok (.iadd, 1) := by decide +kernel
theorem dL_law_733 : decode cL_law 733 = .ok (.iaload, 1) := by decide +kernel
theorem dL_law_734 : decode cL_law 734 = .ok (.invokevirtual 105, 3) := by decide +kernel
theorem dL_law_737 : decode cL_law 737 = .ok (.if_icmp .eq 100, 3) := by decide +kernel
theorem dL_law_740 : decode cL_law 740 = .ok (.iconst 0, 1) := by decide +kernel
theorem dL_law_741 : decode cL_law 741 = .ok (.ireturn, 1) := by decide +kernel
theorem dL_law_742 : decode cL_law 742 = .ok (.aload_n 1, 1) := by decide +kernel
theorem dL_law_743 : decode cL_law 743 = .ok (.invokevirtual 106, 3) := by decide +kernel
theorem dL_law_746 : decode cL_law 746 = .ok (.aload_n 2, 1) := by decide +kernel
theorem dL_law_747 : decode cL_law 747 = .ok (.invokevirtual 109, 3) := by decide +kernel
theorem dL_law_750 : decode cL_law 750 = .ok (.if_icmp .eq 87, 3) := by decide +kernel
theorem dL_law_753 : decode cL_law 753 = .ok (.iconst 0, 1) := by decide +kernel
theorem dL_law_754 : decode cL_law 754 = .ok (.ireturn, 1) := by decide +kernel
theorem dL_law_755 : decode cL_law 755 = .ok (.aload_n 1, 1) := by decide +kernel
theorem dL_law_756 : decode cL_law 756 = .ok (.aload_n 0, 1) := by decide +kernel
theorem dL_law_757 : decode cL_law 757 = .ok (.iload_n 3, 1) := by decide +kernel
theorem dL_law_758 : decode cL_law 758 = .ok (.iconst 1, 1) := by decide +kernel
theorem dL_law_759 : decode cL_law 759 = .ok (.iadd, 1) := by decide +kernel
theorem dL_law_760 : decode cL_law 760 = .ok (.iaload, 1) := by decide +kernel
theorem dL_law_761 : decode cL_law 761 = .ok (.invokevirtual 110, 3) := by decide +kernel
theorem dL_law_764 : decode cL_law 764 = .ok (.aload_n 2, 1) := by decide +kernel
theorem dL_law_765 : decode cL_law 765 = .ok (.aload_n 0, 1) := by decide +kernel
theorem dL_law_766 : decode cL_law 766 = .ok (.iload_n 3, 1) := by decide +kernel
theorem dL_law_767 : decode cL_law 767 = .ok (.iconst 1, 1) := by decide +kernel
theorem dL_law_768 : decode cL_law 768 = .ok (.iadd, 1) := by decide +kernel
theorem dL_law_769 : decode cL_law 769 = .ok (.iaload, 1) := by decide +kernel
theorem dL_law_770 : decode cL_law 770 = .ok (.invokevirtual 113, 3) := by decide +kernel
theorem dL_law_773 : decode cL_law 773 = .ok (.if_icmp .eq 64, 3) := by decide +kernel
theorem dL_law_776 : decode cL_law 776 = .ok (.iconst 0, 1) := by decide +kernel
theorem dL_law_777 : decode cL_law 777 = .ok (.ireturn, 1) := by decide +kernel
theorem dL_law_778 : decode cL_law 778 = .ok (.aload_n 1, 1) := by decide +kernel
theorem dL_law_779 : decode cL_law 779 = .ok (.aload_n 0, 1) := by decide +kernel
theorem dL_law_780 : decode cL_law 780 = .ok (.iload_n 3, 1) := by decide +kernel
theorem dL_law_781 : decode cL_law 781 = .ok (.iconst 1, 1) := by decide +kernel
theorem dL_law_782 : decode cL_law 782 = .ok (.iadd, 1) := by decide +kernel
theorem dL_law_783 : decode cL_law 783 = .ok (.iaload, 1) := by decide +kernel
theorem dL_law_784 : decode cL_law 784 = .ok (.invokevirtual 114, 3) := by decide +kernel
theorem dL_law_787 : decode cL_law 787 = .ok (.aload_n 2, 1) := by decide +kernel
theorem dL_law_788 : decode cL_law 788 = .ok (.aload_n 0, 1) := by decide +kernel
theorem dL_law_789 : decode cL_law 789 = .ok (.iload_n 3, 1) := by decide +kernel
theorem dL_law_790 : decode cL_law 790 = .ok (.iconst 1, 1) := by decide +kernel
theorem dL_law_791 : decode cL_law 791 = .ok (.iadd, 1) := by decide +kernel
theorem dL_law_792 : decode cL_law 792 = .ok (.iaload, 1) := by decide +kernel
theorem dL_law_793 : decode cL_law 793 = .ok (.invokevirtual 117, 3) := by decide +kernel
theorem dL_law_796 : decode cL_law 796 = .ok (.if_icmp .eq 41, 3) := by decide +kernel
theorem dL_law_799 : decode cL_law 799 = .ok (.iconst 0, 1) := by decide +kernel
theorem dL_law_800 : decode cL_law 800 = .ok (.ireturn, 1) := by decide +kernel
theorem dL_law_801 : decode cL_law 801 = .ok (.aload_n 1, 1) := by decide +kernel
theorem dL_law_802 : decode cL_law 802 = .ok (.aload_n 0, 1) := by decide +kernel
theorem dL_law_803 : decode cL_law 803 = .ok (.iload_n 3, 1) := by decide +kernel
theorem dL_law_804 : decode cL_law 804 = .ok (.iconst 1, 1) := by decide +kernel
theorem dL_law_805 : decode cL_law 805 = .ok (.iadd, 1) := by decide +kernel
theorem dL_law_806 : decode cL_law 806 = .ok (.iaload, 1) := by decide +kernel
theorem dL_law_807 : decode cL_law 807 = .ok (.invokevirtual 118, 3) := by decide +kernel
theorem dL_law_810 : decode cL_law 810 = .ok (.aload_n 2, 1) := by decide +kernel
theorem dL_law_811 : decode cL_law 811 = .ok (.aload_n 0, 1) := by decide +kernel
theorem dL_law_812 : decode cL_law 812 = .ok (.iload_n 3, 1) := by decide +kernel
theorem dL_law_813 : decode cL_law 813 = .ok (.iconst 1, 1) := by decide +kernel
theorem dL_law_814 : decode cL_law 814 = .ok (.iadd, 1) := by decide +kernel
theorem dL_law_815 : decode cL_law 815 = .ok (.iaload, 1) := by decide +kernel
theorem dL_law_816 : decode cL_law 816 = .ok (.invokevirtual 121, 3) := by decide +kernel
theorem dL_law_819 : decode cL_law 819 = .ok (.if_icmp .eq 18, 3) := by decide +kernel
theorem dL_law_822 : decode cL_law 822 = .ok (.iconst 0, 1) := by decide +kernel
theorem dL_law_823 : decode cL_law 823 = .ok (.ireturn, 1) := by decide +kernel
theorem dL_law_824 : decode cL_law 824 = .ok (.aload_n 1, 1) := by decide +kernel
theorem dL_law_825 : decode cL_law 825 = .ok (.invokevirtual 122, 3) := by decide +kernel
theorem dL_law_828 : decode cL_law 828 = .ok (.aload_n 2, 1) := by decide +kernel
theorem dL_law_829 : decode cL_law 829 = .ok (.invokevirtual 125, 3) := by decide +kernel
theorem dL_law_832 : decode cL_law 832 = .ok (.if_icmp .eq 5, 3) := by decide +kernel
theorem dL_law_835 : decode cL_law 835 = .ok (.iconst 0, 1) := by decide +kernel
theorem dL_law_836 : decode cL_law 836 = .ok (.ireturn, 1) := by decide +kernel
theorem dL_law_837 : decode cL_law 837 = .ok (.iinc 3 6, 3) := by decide +kernel
theorem dL_law_840 : decode cL_law 840 = .ok (.goto (-822), 3) := by decide +kernel
theorem dL_law_843 : decode cL_law 843 = .ok (.iconst 1, 1) := by decide +kernel
theorem dL_law_844 : decode cL_law 844 = .ok (.ireturn, 1) := by decide +kernel
abbrev vwCl : List vw_C := [(RX0, TX0, 2), (RX1, TX1, 7), (RX2, TX2, 3), (RX3, TX3, 9), (RX4, TX4, 2), (RX5, TX5, 2), (RX6, TX6, 5), (RX7, TX7, 29)]
end
section
/-! rows over ints that are known naturals: nI a -/
section XR
variable {p : Program} {l : Launch} {e : Env} {R : Room} {s : State} {m : MethodId} {args : Array Value} {below : List Frame} {meth : Method} {c : Code} {H : Heap} {locs : List Loc} {cells slots : Nat} {Q : State → Prop}
variable {cc : ByteArray} {pc : Nat} {ls : Array Slot} {rest : List Value}
theorem ln_iadd (hx : p.tables.exec = Jvm.exec) (hb : c.code = cc) {a b : Nat} (r : Nat) (hdg : decode cc pc = .ok (.iadd, 1))  (hr : a + b = r) (k : W p l e R s m args below meth c H locs cells slots Q (F0 m (pc + 1) ls (.int (nI r) :: rest))) : W p l e R s m args below meth c H locs cells slots Q (F0 m pc ls (.int (nI b) :: .int (nI a) :: rest)) := by
  subst hr
  exact lv_iadd hx hb hdg (by rw [nI_add]; exact k)
theorem ln_isub (hx : p.tables.exec = Jvm.exec) (hb : c.code = cc) {a b : Nat} (r : Nat) (hdg : decode cc pc = .ok (.isub, 1)) (h : b ≤ a) (hr : a - b = r) (k : W p l e R s m args below meth c H locs cells slots Q (F0 m (pc + 1) ls (.int (nI r) :: rest))) : W p l e R s m args below meth c H locs cells slots Q (F0 m pc ls (.int (nI b) :: .int (nI a) :: rest)) := by
  subst hr
  exact lv_isub hx hb hdg (by rw [pk_sub h]; exact k)
theorem ln_imul (hx : p.tables.exec = Jvm.exec) (hb : c.code = cc) {a b : Nat} (r : Nat) (hdg : decode cc pc = .ok (.imul, 1))  (hr : a * b = r) (k : W p l e R s m args below meth c H locs cells slots Q (F0 m (pc + 1) ls (.int (nI r) :: rest))) : W p l e R s m args below meth c H locs cells slots Q (F0 m pc ls (.int (nI b) :: .int (nI a) :: rest)) := by
  subst hr
  exact lv_imul hx hb hdg (by rw [pk_mul]; exact k)
theorem ln_idiv (hx : p.tables.exec = Jvm.exec) (hb : c.code = cc) {a b : Nat} (r : Nat) (hdg : decode cc pc = .ok (.idiv, 1)) (h0 : 0 < b) (ha : a < 2147483648) (hb2 : b < 2147483648) (hr : a / b = r) (k : W p l e R s m args below meth c H locs cells slots Q (F0 m (pc + 1) ls (.int (nI r) :: rest))) : W p l e R s m args below meth c H locs cells slots Q (F0 m pc ls (.int (nI b) :: .int (nI a) :: rest)) := by
  subst hr
  exact lv_idiv hx hb hdg (nI_ne0 h0 hb2) (by rw [pk_div ha h0 hb2]; exact k)
theorem ln_irem (hx : p.tables.exec = Jvm.exec) (hb : c.code = cc) {a b : Nat} (r : Nat) (hdg : decode cc pc = .ok (.irem, 1)) (h0 : 0 < b) (ha : a < 2147483648) (hb2 : b < 2147483648) (hr : a % b = r) (k : W p l e R s m args below meth c H locs cells slots Q (F0 m (pc + 1) ls (.int (nI r) :: rest))) : W p l e R s m args below meth c H locs cells slots Q (F0 m pc ls (.int (nI b) :: .int (nI a) :: rest)) := by
  subst hr
  exact lv_irem hx hb hdg (nI_ne0 h0 hb2) (by rw [pk_rem ha h0 hb2]; exact k)
theorem ln_icmp_eq (hx : p.tables.exec = Jvm.exec) (hb : c.code = cc) {a b : Nat} {off : Int} {tgt : Nat} (hdg : decode cc pc = .ok (.if_icmp .eq off, 3)) (ht : (pc : Int) + off = (tgt : Int)) (ha : a < 2147483648) (hb2 : b < 2147483648) (kt : a = b → W p l e R s m args below meth c H locs cells slots Q (F0 m tgt ls rest)) (kf : ¬ a = b → W p l e R s m args below meth c H locs cells slots Q (F0 m (pc + 3) ls rest)) : W p l e R s m args below meth c H locs cells slots Q (F0 m pc ls (.int (nI b) :: .int (nI a) :: rest)) := lv_icmp_eq hx hb hdg ht (fun h => kt ((nI_eq ha hb2).mp h)) (fun h => kf (fun q => h ((nI_eq ha hb2).mpr q)))
theorem ln_icmp_ne (hx : p.tables.exec = Jvm.exec) (hb : c.code = cc) {a b : Nat} {off : Int} {tgt : Nat} (hdg : decode cc pc = .ok (.if_icmp .ne off, 3)) (ht : (pc : Int) + off = (tgt : Int)) (ha : a < 2147483648) (hb2 : b < 2147483648) (kt : ¬ a = b → W p l e R s m args below meth c H locs cells slots Q (F0 m tgt ls rest)) (kf : a = b → W p l e R s m args below meth c H locs cells slots Q (F0 m (pc + 3) ls rest)) : W p l e R s m args below meth c H locs cells slots Q (F0 m pc ls (.int (nI b) :: .int (nI a) :: rest)) := lv_icmp_ne hx hb hdg ht (fun h => kt (fun q => h ((nI_eq ha hb2).mpr q))) (fun h => kf ((nI_eq ha hb2).mp h))
theorem ln_icmp_lt (hx : p.tables.exec = Jvm.exec) (hb : c.code = cc) {a b : Nat} {off : Int} {tgt : Nat} (hdg : decode cc pc = .ok (.if_icmp .lt off, 3)) (ht : (pc : Int) + off = (tgt : Int)) (ha : a < 2147483648) (hb2 : b < 2147483648) (kt : a < b → W p l e R s m args below meth c H locs cells slots Q (F0 m tgt ls rest)) (kf : b ≤ a → W p l e R s m args below meth c H locs cells slots Q (F0 m (pc + 3) ls rest)) : W p l e R s m args below meth c H locs cells slots Q (F0 m pc ls (.int (nI b) :: .int (nI a) :: rest)) := lv_icmp_lt hx hb hdg ht (fun h => kt ((nI_ltI ha hb2).mp h)) (fun h => kf (Nat.le_of_not_lt fun q => h ((nI_ltI ha hb2).mpr q)))
theorem ln_icmp_ge (hx : p.tables.exec = Jvm.exec) (hb : c.code = cc) {a b : Nat} {off : Int} {tgt : Nat} (hdg : decode cc pc = .ok (.if_icmp .ge off, 3)) (ht : (pc : Int) + off = (tgt : Int)) (ha : a < 2147483648) (hb2 : b < 2147483648) (kt : b ≤ a → W p l e R s m args below meth c H locs cells slots Q (F0 m tgt ls rest)) (kf : a < b → W p l e R s m args below meth c H locs cells slots Q (F0 m (pc + 3) ls rest)) : W p l e R s m args below meth c H locs cells slots Q (F0 m pc ls (.int (nI b) :: .int (nI a) :: rest)) := lv_icmp_ge hx hb hdg ht (fun h => kt ((nI_leI hb2 ha).mp h)) (fun h => kf (Nat.lt_of_not_le fun q => h ((nI_leI hb2 ha).mpr q)))
theorem ln_icmp_gt (hx : p.tables.exec = Jvm.exec) (hb : c.code = cc) {a b : Nat} {off : Int} {tgt : Nat} (hdg : decode cc pc = .ok (.if_icmp .gt off, 3)) (ht : (pc : Int) + off = (tgt : Int)) (ha : a < 2147483648) (hb2 : b < 2147483648) (kt : b < a → W p l e R s m args below meth c H locs cells slots Q (F0 m tgt ls rest)) (kf : a ≤ b → W p l e R s m args below meth c H locs cells slots Q (F0 m (pc + 3) ls rest)) : W p l e R s m args below meth c H locs cells slots Q (F0 m pc ls (.int (nI b) :: .int (nI a) :: rest)) := lv_icmp_gt hx hb hdg ht (fun h => kt ((nI_ltI hb2 ha).mp h)) (fun h => kf (Nat.le_of_not_lt fun q => h ((nI_ltI hb2 ha).mpr q)))
theorem ln_icmp_le (hx : p.tables.exec = Jvm.exec) (hb : c.code = cc) {a b : Nat} {off : Int} {tgt : Nat} (hdg : decode cc pc = .ok (.if_icmp .le off, 3)) (ht : (pc : Int) + off = (tgt : Int)) (ha : a < 2147483648) (hb2 : b < 2147483648) (kt : a ≤ b → W p l e R s m args below meth c H locs cells slots Q (F0 m tgt ls rest)) (kf : b < a → W p l e R s m args below meth c H locs cells slots Q (F0 m (pc + 3) ls rest)) : W p l e R s m args below meth c H locs cells slots Q (F0 m pc ls (.int (nI b) :: .int (nI a) :: rest)) := lv_icmp_le hx hb hdg ht (fun h => kt ((nI_leI ha hb2).mp h)) (fun h => kf (Nat.lt_of_not_le fun q => h ((nI_leI ha hb2).mpr q)))
theorem ln_if_eq (hx : p.tables.exec = Jvm.exec) (hb : c.code = cc) {a : Nat} {off : Int} {tgt : Nat} (hdg : decode cc pc = .ok (.ifCond .eq off, 3)) (ht : (pc : Int) + off = (tgt : Int)) (ha : a < 2147483648) (kt : a = 0 → W p l e R s m args below meth c H locs cells slots Q (F0 m tgt ls rest)) (kf : ¬ a = 0 → W p l e R s m args below meth c H locs cells slots Q (F0 m (pc + 3) ls rest)) : W p l e R s m args below meth c H locs cells slots Q (F0 m pc ls (.int (nI a) :: rest)) := lv_if_eq hx hb hdg ht (fun h => kt ((nI_eq ha (Nat.zero_lt_succ _)).mp h)) (fun h => kf (fun q => h ((nI_eq ha (Nat.zero_lt_succ _)).mpr q)))
theorem ln_if_ne (hx : p.tables.exec = Jvm.exec) (hb : c.code = cc) {a : Nat} {off : Int} {tgt : Nat} (hdg : decode cc pc = .ok (.ifCond .ne off, 3)) (ht : (pc : Int) + off = (tgt : Int)) (ha : a < 2147483648) (kt : ¬ a = 0 → W p l e R s m args below meth c H locs cells slots Q (F0 m tgt ls rest)) (kf : a = 0 → W p l e R s m args below meth c H locs cells slots Q (F0 m (pc + 3) ls rest)) : W p l e R s m args below meth c H locs cells slots Q (F0 m pc ls (.int (nI a) :: rest)) := lv_if_ne hx hb hdg ht (fun h => kt (fun q => h ((nI_eq ha (Nat.zero_lt_succ _)).mpr q))) (fun h => kf ((nI_eq ha (Nat.zero_lt_succ _)).mp h))
theorem ln_if_gt (hx : p.tables.exec = Jvm.exec) (hb : c.code = cc) {a : Nat} {off : Int} {tgt : Nat} (hdg : decode cc pc = .ok (.ifCond .gt off, 3)) (ht : (pc : Int) + off = (tgt : Int)) (ha : a < 2147483648) (kt : 0 < a → W p l e R s m args below meth c H locs cells slots Q (F0 m tgt ls rest)) (kf : a = 0 → W p l e R s m args below meth c H locs cells slots Q (F0 m (pc + 3) ls rest)) : W p l e R s m args below meth c H locs cells slots Q (F0 m pc ls (.int (nI a) :: rest)) := lv_if_gt hx hb hdg ht (fun h => kt ((nI_ltI (Nat.zero_lt_succ _) ha).mp h)) (fun h => kf (Nat.eq_zero_of_not_pos fun q => h ((nI_ltI (Nat.zero_lt_succ _) ha).mpr q)))
theorem ln_if_le (hx : p.tables.exec = Jvm.exec) (hb : c.code = cc) {a : Nat} {off : Int} {tgt : Nat} (hdg : decode cc pc = .ok (.ifCond .le off, 3)) (ht : (pc : Int) + off = (tgt : Int)) (ha : a < 2147483648) (kt : a = 0 → W p l e R s m args below meth c H locs cells slots Q (F0 m tgt ls rest)) (kf : 0 < a → W p l e R s m args below meth c H locs cells slots Q (F0 m (pc + 3) ls rest)) : W p l e R s m args below meth c H locs cells slots Q (F0 m pc ls (.int (nI a) :: rest)) := lv_if_le hx hb hdg ht (fun h => kt (Nat.le_zero.mp ((nI_leI ha (Nat.zero_lt_succ _)).mp h))) (fun h => kf (Nat.lt_of_not_le fun q => h ((nI_leI ha (Nat.zero_lt_succ _)).mpr q)))
theorem ln_if_lt (hx : p.tables.exec = Jvm.exec) (hb : c.code = cc) {a : Nat} {off : Int} {tgt : Nat} (hdg : decode cc pc = .ok (.ifCond .lt off, 3)) (ht : (pc : Int) + off = (tgt : Int)) (ha : a < 2147483648) (kf : W p l e R s m args below meth c H locs cells slots Q (F0 m (pc + 3) ls rest)) : W p l e R s m args below meth c H locs cells slots Q (F0 m pc ls (.int (nI a) :: rest)) := lv_if_lt hx hb hdg ht (fun h => absurd h (nI_pos ha)) (fun _ => kf)
theorem ln_if_ge (hx : p.tables.exec = Jvm.exec) (hb : c.code = cc) {a : Nat} {off : Int} {tgt : Nat} (hdg : decode cc pc = .ok (.ifCond .ge off, 3)) (ht : (pc : Int) + off = (tgt : Int)) (ha : a < 2147483648) (kt : W p l e R s m args below meth c H locs cells slots Q (F0 m tgt ls rest)) : W p l e R s m args below meth c H locs cells slots Q (F0 m pc ls (.int (nI a) :: rest)) := lv_if_ge hx hb hdg ht (fun _ => kt) (fun h => absurd (nI_pos' ha) h)
theorem nI_inc (a : Nat) (k : Nat) : nI a + Int32.ofInt (k : Int) = nI (a + k) := by
  rw [show Int32.ofInt (k : Int) = nI k from rfl, nI_add]
theorem ln_iinc (hx : p.tables.exec = Jvm.exec) (hb : c.code = cc) {i nL k0 k a : Nat} {n : Int} (r : Nat) {lv lv' : List (Nat × Value)} (hdg : decode cc pc = .ok (.iinc i n, 3)) (h : lv_has ls nL lv) (hk : lv[k0]? = some (i, .int (nI a))) (hn2 : n = (k : Int)) (hr : a + k = r) (hn : i < nL) (hl : (i, Value.int (nI r)) :: lv.filter (fun q => !(q.1 == i) && !(q.1 + 1 == i && q.2.category == 2)) = lv') (kk : ∀ ls' : Array Slot, lv_has ls' nL lv' → W p l e R s m args below meth c H locs cells slots Q (F0 m (pc + 3) ls' rest)) : W p l e R s m args below meth c H locs cells slots Q (F0 m pc ls rest) := lv_iinc (v := nI r) hx hb hdg h hk (by rw [hn2, nI_inc, hr]) hn hl kk
/-- a number is nI n -/
theorem ln_const (hx : p.tables.exec = Jvm.exec) (hb : c.code = cc) {n : Int} (v : Nat) (hdg : decode cc pc = .ok (.iconst n, 1)) (hv : Int32.ofInt n = nI v) (k : W p l e R s m args below meth c H locs cells slots Q (F0 m (pc + 1) ls (.int (nI v) :: rest))) : W p l e R s m args below meth c H locs cells slots Q (F0 m pc ls rest) := lv_iconst hx hb hdg hv k
theorem ln_bipush (hx : p.tables.exec = Jvm.exec) (hb : c.code = cc) {n : Int} (v : Nat) (hdg : decode cc pc = .ok (.bipush n, 2)) (hv : (Int8.ofInt n).toInt32 = nI v) (k : W p l e R s m args below meth c H locs cells slots Q (F0 m (pc + 2) ls (.int (nI v) :: rest))) : W p l e R s m args below meth c H locs cells slots Q (F0 m pc ls rest) := lv_bipush hx hb hdg hv k
theorem ln_sipush (hx : p.tables.exec = Jvm.exec) (hb : c.code = cc) {n : Int} (v : Nat) (hdg : decode cc pc = .ok (.sipush n, 3)) (hv : (Int16.ofInt n).toInt32 = nI v) (k : W p l e R s m args below meth c H locs cells slots Q (F0 m (pc + 3) ls (.int (nI v) :: rest))) : W p l e R s m args below meth c H locs cells slots Q (F0 m pc ls rest) := lv_sipush hx hb hdg hv k
/-- the top of the stack by another name -/
theorem ln_top {x y : Int32} (h : x = y) (k : W p l e R s m args below meth c H locs cells slots Q (F0 m pc ls (.int y :: rest))) : W p l e R s m args below meth c H locs cells slots Q (F0 m pc ls (.int x :: rest)) := by rw [h]; exact k
end XR
/-! the world: what all contracts share -/
abbrev xZ : Type := va_G × ((Nat → Nat) × (Nat → Nat)) × ClassId × ClassId
abbrev xty (Z : xZ) : List (ClassId × FieldType) := [(Z.2.2.1, .int), (Z.2.2.2, .boolean)]
/-- an int array of naturals -/
abbrev xI (Z : xZ) (n : Nat) (g : Nat → Nat) : va_E := .inl (Z.2.2.1, n, .inl (fun k => nI (g k)))
/-- an int array -/
abbrev xJ (Z : xZ) (n : Nat) (g : Nat → Int32) : va_E := .inl (Z.2.2.1, n, .inl g)
/-- a boolean array -/
abbrev xO (Z : xZ) (n : Nat) (g : Nat → Nat) : va_E := .inl (Z.2.2.2, n, .inl (fun k => nI (g k)))
theorem upd_nI (g : Nat → Nat) (k x : Nat) : upd (fun j => nI (g j)) k (nI x) = fun j => nI (va_up g k x j) := by
  funext j
  unfold upd va_up
  split <;> rfl
def xNM : List (String × Nat × MethodName × String) := [(RX6, 11, yX1_init, RX6), (RX6, 18, yX3_init, RX6), (RX4, 68, yX6_pairOf, RX6), (RX6, 32, yX5_init, RX6), (RX6, 39, yX0_init, RX6), (RX1, 38, yX6_outside, RX6), (RX3, 41, yX6_pairOf, RX6), (RX4, 71, yX6_outside, RX6), (RX2, 28, yX6_outside, RX6), (RX4, 81, yX6_oneIf, RX6), (RX0, 38, yX6_outside, RX6), (RX0, 46, yX6_oneIf, RX6)]
def xNF : List (String × Nat × String × String × String × String) := [(RX6, 97, RX3, "state", "I", RX6), (RX6, 101, RX3, "sign", "I", RX6), (RX6, 104, RX3, "left", "I", RX6), (RX6, 107, RX3, "right", "I", RX6), (RX0, 20, RX2, "size", "I", RX6), (RX5, 30, RX2, "size", "I", RX6), (RX6, 132, RX2, "size", "I", RX6), (RX6, 128, RX5, "row", "LTagTower$LetterRow;", RX6), (RX6, 173, RX0, "row", "LTagTower$LetterRow;", RX6), (RX6, 164, RX0, "turn", "I", RX6)]
/-- the links between nest mates, the constant strings, the statics that String's methods read -/
def xN (U : State) : Prop := (∀ q ∈ xNM, va_Nw (.methodLinkNest q.1 q.2.1 q.2.2.1 q.2.2.2) U) ∧ ∀ q ∈ xNF, va_Nw (.fieldLinkNest q.1 q.2.1 q.2.2.1 q.2.2.2.1 q.2.2.2.2.1 q.2.2.2.2.2) U
def xTx : List String := ["xAaPpBbQqCcDEdeSsTUtu", "Q:Bx q:bx", "C:DE c:de S:TU s:tu", "A:Cx a:cxcx B:S b:s D:A1x E:xA0x d:a1x e:a0x T:B1x U:B0x t:b1x u:b0x", "A:Px a:px P:S p:s B:Cx b:cxcx D:Q1x E:xQ0x d:q1x e:q0x T:A1x U:A0x t:a1x u:a0x", "A:cx", "B:cx"]
def xTk : List Nat := [50, 22, 30, 32, 34, 36, 38]
def xTb : List (List Nat) := xTx.map (fun t => t.toList.map Char.toNat)
def xTl : List Nat := xTb.map List.length
def xTi : List (List Int32) := xTb.map (fun b => b.map nI)
def xE (Z : xZ) (A : Nat → Prop) (U : State) (H : Heap) : Prop := xN U ∧ vk_S 7 xTl xTi Z.2.1.1 Z.2.1.2 A U H ∧ (∀ i, i < 7 → vk_R RX4 (xTk.getD i 0) (xTx.getD i "") (Z.2.1.1 i) U) ∧ va_Z "java/lang/String" "COMPACT_STRINGS" "Z" (.int 1) A U H ∧ va_Zq "jdk/internal/util/Preconditions" "SIOOBE_FORMATTER" "Ljava/util/function/BiFunction;" A U H
theorem xN.warm {s U : State} (hW : s.WarmedH U.vm) (h : xN s) : xN U := ⟨fun q hq => (h.1 q hq).warmM hW, fun q hq => (h.2 q hq).warmF hW⟩
theorem xN.same {u U : State} (hv : u.vm = U.vm) (h : xN u) : xN U := ⟨fun q hq => (h.1 q hq).same rfl hv, fun q hq => (h.2 q hq).same rfl hv⟩
theorem xE.blind {Z : xZ} {A : Nat → Prop} {U : State} {g : JFrame} {mk : MethodId} {a : Array Value} (h : xE Z A U U.heap) : xE Z A (U.calling g mk a) (U.calling g mk a).heap :=
  ⟨h.1.same rfl, vk_S.moved (u := U) (U := U.calling g mk a) (Vm.Alike.refl U.vm) h.2.1, fun i hi => (h.2.2.1 i hi).same rfl, va_Z.moved (u := U) (U := U.calling g mk a) (Vm.Alike.refl U.vm) h.2.2.2.1, va_Zq.moved (u := U) (U := U.calling g mk a) (Vm.Alike.refl U.vm) h.2.2.2.2⟩
theorem xE.step {Z : xZ} {A A' : Nat → Prop} {s U : State} {H : Heap} {locs : List Loc} (h : xE Z A s s.heap) (hS : va_S A s.heap H locs) (hA : ∀ q, A' q → A q) (hU : U.heap = H) (hW : s.WarmedH U.vm) : xE Z A' U U.heap := by
  subst hU
  exact ⟨h.1.warm hW, ((vk_S.moved hW.alike h.2.1).kept hS.2.1).narrow hA, fun i hi => (h.2.2.1 i hi).warm hW, ((va_Z.moved hW.alike h.2.2.2.1).kept hS.2.1).narrow hA, ((va_Zq.moved hW.alike h.2.2.2.2).kept hS.2.1).narrow hA⟩
/-- what holds in a method's body all the time -/
def xC (p : Program) (s : State) (m : MethodId) (args : Array Value) (c : Code) (cc : ByteArray) (nL : Nat) (own : String) (Ts : List Cond) (Z : xZ) (A : Nat → Prop) : Prop :=
  CallFix p m c cc nL s args Ts own ∧ va_K Z.1 vwCl (xty Z) s ∧ (∀ q, s.heap.size ≤ q → A q) ∧ xE Z A s s.heap
def xPc (Z : xZ) (w : va_W) (av : List Value) (sz : Nat) : Array Value → State → Prop := va_Pc av (fun U => U.heap.size = sz ∧ va_P Z.1 vwCl w U.heap ∧ va_K Z.1 vwCl (xty Z) U ∧ va_D (fun _ => True) w ∧ xE Z (va_A w sz) U U.heap)
def xB (Z : xZ) (A : Nat → Prop) : va_W → State → Prop := fun w t => va_P Z.1 vwCl w t.heap ∧ va_K Z.1 vwCl (xty Z) t ∧ va_D A w
/-- a method that answers an int: from the cells w, with these arguments -/
def xMi (l : Launch) (Z : xZ) (y : MethodName) (ws : List Cond) (rm : Room) (av : List Value) (w : va_W) (post : Int32 → va_W → Prop) : Prop := ∀ sz, Met l y ws rm (xPc Z w av sz) (va_Qi post (xB Z (va_A w sz)) (va_A w sz)) rm.cells rm.slots (va_A w sz)
def xMv (l : Launch) (Z : xZ) (y : MethodName) (ws : List Cond) (rm : Room) (av : List Value) (w : va_W) (post : va_W → Prop) : Prop := ∀ sz, Met l y ws rm (xPc Z w av sz) (va_Qv post (xB Z (va_A w sz)) (va_A w sz)) rm.cells rm.slots (va_A w sz)
theorem xPc.blind {Z : xZ} {w : va_W} {av : List Value} {sz : Nat} : FrameBlind (xPc Z w av sz) := by
  intro a U g mk q
  obtain ⟨q0, q1, qP, qK, qD, qE⟩ := q
  exact ⟨q0, q1, qP, va_K.moved (u := U) (U := U.calling g mk a) (Vm.Alike.refl U.vm) qK, qD, qE.blind⟩
section XC

variable {p : Program} {l : Launch} {e : Env} {R : Room} {s : State} {m : MethodId} {args : Array Value} {below : List Frame} {meth : Method} {c : Code} {H : Heap} {locs : List Loc} {cells slots : Nat} {Q : State → Prop}
variable {cc : ByteArray} {pc : Nat} {ls : Array Slot} {rest : List Value}
variable {Z : xZ} {A : Nat → Prop} {nL : Nat} {own : String} {Ts : List Cond} {ws : va_W}
/-- the entry of a method -/
theorem x_body {y : MethodName} {wd wd' : List Cond} {maxL : Nat} {ret : Option FieldType} {rm : Room} {av : List Value} {w : va_W} {sz : Nat} {Qc : Array Value → State → Outcome → State → Prop} (hy : plainName y.cls = true) (hw : wd = Cond.code y cc maxL ret :: wd') (hs : (lg_sl av).length ≤ maxL)
    (body : ∀ (p : Program) (e : Env) (s : State) (m : MethodId) (args : Array Value) (below : List Frame) (meth : Method) (c : Code) (ls : Array Slot), s.heap.size = sz → xC p s m args c cc maxL y.cls wd Z (va_A w sz) → meth.sig.returnType = ret → meth.locks = false → meth.name = y.name → lv_has ls maxL (lv_args 0 av) → va_P Z.1 vwCl w s.heap → va_D (va_A w sz) w → va_S (va_A w sz) s.heap s.heap [] → W p l e rm s m args below meth c s.heap [] 0 0 (MQ below Qc args s rm.cells rm.slots (va_A w sz)) (F0 m 0 ls [])) :
    Met l y wd rm (xPc Z w av sz) Qc rm.cells rm.slots (va_A w sz) := by
  refine Met.ofW (cc := cc) (maxL := maxL) (ret := ret) hy hw ?_
  intro p e s m args below meth c s₁ B hml hv
  obtain ⟨rfl, hsz, hP, hK, hD0, hE⟩ := hv
  have hl := lv_entry av (n := maxL) hs
  rw [lg_entry_eq]
  refine body p e s m _ below meth c _ hsz ⟨⟨B.exec, B.bytes, hml, findClass_of_methodNamed B.named, atoms_spec (ws := wd) B.pre⟩, hK, fun q h => Or.inr (by rw [← hsz]; exact h), hE⟩ B.returns B.notSynchronized (name_of_methodNamed B.named B.method).1 hl hP (hD0.self (sz := sz)) va_S.rf
theorem x_i {y : MethodName} {wd wd' : List Cond} {maxL : Nat} {ty : FieldType} {rm : Room} {av : List Value} {w : va_W} {post : Int32 → va_W → Prop} (hy : plainName y.cls = true) (hw : wd = Cond.code y cc maxL (some ty) :: wd') (hs : (lg_sl av).length ≤ maxL)
    (body : ∀ (p : Program) (e : Env) (s : State) (m : MethodId) (args : Array Value) (below : List Frame) (meth : Method) (c : Code) (ls : Array Slot) (A : Nat → Prop), xC p s m args c cc maxL y.cls wd Z A → meth.sig.returnType = some ty → meth.locks = false → lv_has ls maxL (lv_args 0 av) → va_P Z.1 vwCl w s.heap → va_D A w → va_S A s.heap s.heap [] → W p l e rm s m args below meth c s.heap [] 0 0 (MQ below (va_Qi post (xB Z A) A) args s rm.cells rm.slots A) (F0 m 0 ls [])) :
    xMi l Z y wd rm av w post := fun sz => x_body hy hw hs (fun p e s m args below meth c ls _ hC hr hk _ hl hP hD hS => body p e s m args below meth c ls _ hC hr hk hl hP hD hS)
theorem x_v {y : MethodName} {wd wd' : List Cond} {maxL : Nat} {rm : Room} {av : List Value} {w : va_W} {post : va_W → Prop} (hy : plainName y.cls = true) (hw : wd = Cond.code y cc maxL none :: wd') (hs : (lg_sl av).length ≤ maxL)
    (body : ∀ (p : Program) (e : Env) (s : State) (m : MethodId) (args : Array Value) (below : List Frame) (meth : Method) (c : Code) (ls : Array Slot) (A : Nat → Prop), xC p s m args c cc maxL y.cls wd Z A → meth.sig.returnType = none → meth.locks = false → meth.name = y.name → lv_has ls maxL (lv_args 0 av) → va_P Z.1 vwCl w s.heap → va_D A w → va_S A s.heap s.heap [] → W p l e rm s m args below meth c s.heap [] 0 0 (MQ below (va_Qv post (xB Z A) A) args s rm.cells rm.slots A) (F0 m 0 ls [])) :
    xMv l Z y wd rm av w post := fun sz => x_body hy hw hs (fun p e s m args below meth c ls _ hC hr hk hn hl hP hD hS => body p e s m args below meth c ls _ hC hr hk hn hl hP hD hS)
/-- the ends -/
theorem x_iret {post : Int32 → va_W → Prop} {v : Int32} (hC : xC p s m args c cc nL own Ts Z A) (hr : meth.sig.returnType = some .int) (hk : meth.locks = false) (hP : va_P Z.1 vwCl ws H) (hD : va_D A ws) (hS : va_S A s.heap H locs) (hdg : decode cc pc = .ok (.ireturn, 1)) (hp : post v ws) : W p l e R s m args below meth c H locs cells slots (MQ below (va_Qi post (xB Z A) A) args s cells slots A) (F0 m pc ls [.int v]) :=
  W.iret hC.1.1 hC.1.2.1 hr (fun t ht hW => ⟨⟨v, ws, rfl, hp, by rw [ht]; exact hP, va_K.moved hW.alike hC.2.1, hD⟩, hS.F ht⟩) hS.2.2 hdg hk
theorem x_zret {post : Int32 → va_W → Prop} {v : Int32} {ty : FieldType} (hC : xC p s m args c cc nL own Ts Z A) (hr : meth.sig.returnType = some ty) (hn : narrow ty (.int v) = .int v) (hk : meth.locks = false) (hP : va_P Z.1 vwCl ws H) (hD : va_D A ws) (hS : va_S A s.heap H locs) (hdg : decode cc pc = .ok (.ireturn, 1)) (hp : post v ws) : W p l e R s m args below meth c H locs cells slots (MQ below (va_Qi post (xB Z A) A) args s cells slots A) (F0 m pc ls [.int v]) :=
  W.zret hC.1.1 hC.1.2.1 hr hn (fun t ht hW => ⟨⟨v, ws, rfl, hp, by rw [ht]; exact hP, va_K.moved hW.alike hC.2.1, hD⟩, hS.F ht⟩) hS.2.2 hdg hk
theorem x_vret {post : va_W → Prop} (hC : xC p s m args c cc nL own Ts Z A) (hr : meth.sig.returnType = none) (hk : meth.locks = false) (hP : va_P Z.1 vwCl ws H) (hD : va_D A ws) (hS : va_S A s.heap H locs) (hdg : decode cc pc = .ok (.return_, 1)) (hp : post ws) : W p l e R s m args below meth c H locs cells slots (MQ below (va_Qv post (xB Z A) A) args s cells slots A) (F0 m pc ls []) :=
  W.vret hC.1.1 hC.1.2.1 hr (fun t ht hW => ⟨⟨ws, rfl, hp, by rw [ht]; exact hP, va_K.moved hW.alike hC.2.1, hD⟩, hS.F ht⟩) hS.2.2 hdg hk
/-- the callee's start -/
theorem x_preS {wc : va_W} {av : List Value} (hC : xC p s m args c cc nL own Ts Z A) (hP : va_P Z.1 vwCl ws H) (hD : va_D A ws) (hS : va_S A s.heap H locs) (isC : List Nat) (hc : isC.map (fun i => ws[i]?) = wc.map some) (hn : va_nd isC = true) : PreS s H (xPc Z wc av H.size) av := by
  have hf := va_free hD hS hC.2.2.1 isC hc
  have hPc : va_P Z.1 vwCl wc H := hP.sub isC (by
    have e : isC.filterMap (fun i => ws[i]?) = (isC.map (fun i => ws[i]?)).filterMap id := by rw [List.filterMap_map]; rfl
    rw [e, hc, List.filterMap_map]
    exact List.filterMap_some)
  exact ⟨xPc.blind, fun U hU hW => ⟨rfl, by rw [hU], by rw [hU]; exact hPc, va_K.moved hW.alike hC.2.1, (hD.sub isC hn hc).weaken (fun _ _ _ _ => trivial), hC.2.2.2.step hS hf hU hW⟩⟩
theorem x_preV {wc : va_W} {av : List Value} {b ci : Nat} {fs : List Value} {C : String} {T : u_T} {N : Nat} (hC : xC p s m args c cc nL own Ts Z A) (hP : va_P Z.1 vwCl ws H) (hD : va_D A ws) (hS : va_S A s.heap H locs) (isC : List Nat) (hc : isC.map (fun i => ws[i]?) = wc.map some) (hn : va_nd isC = true) (hrc : wc[0]? = some (b, .inr (ci, fs))) (hci : vwCl[ci]? = some (C, T, N)) : PreV s H C b (xPc Z wc (.ref b :: av) H.size) av := by
  have h := x_preS (av := .ref b :: av) hC hP hD hS isC hc hn
  have hPc : va_P Z.1 vwCl wc H := hP.sub isC (by
    have e : isC.filterMap (fun i => ws[i]?) = (isC.map (fun i => ws[i]?)).filterMap id := by rw [List.filterMap_map]; rfl
    rw [e, hc, List.filterMap_map]
    exact List.filterMap_some)
  exact ⟨h.1, va_recv hC.2.1 hPc hci hrc, h.2⟩
/-- behind a call -/
theorem x_backi {post : Int32 → va_W → Prop} {wc wr : va_W} {st0 : List Value} {mc ms : Nat} {a : Array Value} (hC : xC p s m args c cc nL own Ts Z A) (hP : va_P Z.1 vwCl ws H) (hD : va_D A ws) (hS : va_S A s.heap H locs) (isC isR : List Nat) (hc : isC.map (fun i => ws[i]?) = wc.map some) (hR : isR.map (fun i => ws[i]?) = wr.map some) (hn : va_nd isR = true) (hdis : ∀ i ∈ isR, i ∉ isC)
    (hr : va_Run p l e R s m args below meth c H locs cells slots mc ms (F0 m pc ls st0) rest (va_Qi post (xB Z (va_A wc H.size)) (va_A wc H.size) a) (va_A wc H.size))
    (kk : ∀ (r : Int32) (w1 : va_W) (H1 : Heap) (locs1 : List Loc), post r w1 → va_P Z.1 vwCl (wr ++ w1) H1 → va_D A (wr ++ w1) → va_S A s.heap H1 locs1 → W p l e R s m args below meth c H1 locs1 (cells + mc) (slots + ms) Q (F0 m (pc + 3) ls (.int r :: rest))) : W p l e R s m args below meth c H locs cells slots Q (F0 m pc ls st0) := by
  have hf := va_free hD hS hC.2.2.1 isC hc
  refine va_calli hr hS (fun q _ h => hf q h) hf (fun r u t H1 locs1 ht hvm hw hB hz1 hk1 hS1 => ?_)
  obtain ⟨hP1, hK1, hD1⟩ := hB
  rw [ht] at hP1
  obtain ⟨hP2, hD2⟩ := va_join hP hD isC isR hc hR hn hdis hk1 hf hP1 hD1
  exact kk r u H1 locs1 hw hP2 hD2 hS1
theorem x_backv {post : va_W → Prop} {wc wr : va_W} {st0 : List Value} {mc ms : Nat} {a : Array Value} (hC : xC p s m args c cc nL own Ts Z A) (hP : va_P Z.1 vwCl ws H) (hD : va_D A ws) (hS : va_S A s.heap H locs) (isC isR : List Nat) (hc : isC.map (fun i => ws[i]?) = wc.map some) (hR : isR.map (fun i => ws[i]?) = wr.map some) (hn : va_nd isR = true) (hdis : ∀ i ∈ isR, i ∉ isC)
    (hr : va_Run p l e R s m args below meth c H locs cells slots mc ms (F0 m pc ls st0) rest (va_Qv post (xB Z (va_A wc H.size)) (va_A wc H.size) a) (va_A wc H.size))
    (kk : ∀ (w1 : va_W) (H1 : Heap) (locs1 : List Loc), post w1 → va_P Z.1 vwCl (wr ++ w1) H1 → va_D A (wr ++ w1) → va_S A s.heap H1 locs1 → W p l e R s m args below meth c H1 locs1 (cells + mc) (slots + ms) Q (F0 m (pc + 3) ls rest)) : W p l e R s m args below meth c H locs cells slots Q (F0 m pc ls st0) := by
  have hf := va_free hD hS hC.2.2.1 isC hc
  refine va_callv hr hS (fun q _ h => hf q h) hf (fun u t H1 locs1 ht hvm hw hB hz1 hk1 hS1 => ?_)
  obtain ⟨hP1, hK1, hD1⟩ := hB
  rw [ht] at hP1
  obtain ⟨hP2, hD2⟩ := va_join hP hD isC isR hc hR hn hdis hk1 hf hP1 hD1
  exact kk u H1 locs1 hw hP2 hD2 hS1
theorem x_Vi {y : MethodName} {bytes : ByteArray} {maxL index n : Nat} {ret : Option FieldType} {wy wy' : List Cond} {rm : Room} {As : List Value} {wc wr : va_W} {st0 : List Value} {b ci : Nat} {fs : List Value} {C : String} {T : u_T} {N : Nat} {post : Int32 → va_W → Prop} (hC : xC p s m args c cc nL own Ts Z A) (hP : va_P Z.1 vwCl ws H) (hD : va_D A ws) (hS : va_S A s.heap H locs) (hM : xMi l Z y wy rm (.ref b :: As) wc post) (hG : GoodIn Ts (wsV own index C y wy)) (hw : wy = Cond.code y bytes maxL ret :: wy') (hd : y.cls = C ∧ y.cls ≠ "java/lang/invoke/MethodHandle" ∧ y.cls ≠ "java/lang/invoke/VarHandle" ∧ (parseMethodDescriptor y.desc).map (fun d => d.parameters.length) = some n) (hrc : wc[0]? = some (b, .inr (ci, fs))) (hci : vwCl[ci]? = some (C, T, N)) (hRm : (rm.frames + 1).ble R.frames = true ∧ (8 + (maxL + 11) + rm.locals).ble R.locals = true) (hg : As.length = n) (hsz : ls.size = nL) (hcat : ((rest.map fun v => v.category).sum).ble 8 = true) (hf : cells + rm.cells ≤ R.cells ∧ slots + rm.slots ≤ R.slots) (isC isR : List Nat) (hc : isC.map (fun i => ws[i]?) = wc.map some) (hR : isR.map (fun i => ws[i]?) = wr.map some) (hnC : va_nd isC = true) (hnR : va_nd isR = true) (hdis : ∀ i ∈ isR, i ∉ isC) (hst0 : st0 = As.reverse ++ .ref b :: rest) (hdg : decode cc pc = .ok (.invokevirtual index, 3)) (kk : ∀ (r : Int32) (w1 : va_W) (H1 : Heap) (locs1 : List Loc), post r w1 → va_P Z.1 vwCl (wr ++ w1) H1 → va_D A (wr ++ w1) → va_S A s.heap H1 locs1 → W p l e R s m args below meth c H1 locs1 (cells + rm.cells) (slots + rm.slots) Q (F0 m (pc + 3) ls (.int r :: rest))) : W p l e R s m args below meth c H locs cells slots Q (F0 m pc ls st0) := by
  exact x_backi hC hP hD hS isC isR hc hR hnR hdis (va_runV hC.1 (hM H.size) (cwV n hC.1.2.2.2.2 hG hw rfl rfl hd ⟨Nat.le_of_ble_eq_true hRm.1, Nat.le_of_ble_eq_true hRm.2⟩) (x_preV hC hP hD hS isC hc hnC hrc hci) rfl hg hsz hst0 (lv_room (Nat.le_of_ble_eq_true hcat)) hdg hf) kk
theorem x_Vv {y : MethodName} {bytes : ByteArray} {maxL index n : Nat} {ret : Option FieldType} {wy wy' : List Cond} {rm : Room} {As : List Value} {wc wr : va_W} {st0 : List Value} {b ci : Nat} {fs : List Value} {C : String} {T : u_T} {N : Nat} {post : va_W → Prop} (hC : xC p s m args c cc nL own Ts Z A) (hP : va_P Z.1 vwCl ws H) (hD : va_D A ws) (hS : va_S A s.heap H locs) (hM : xMv l Z y wy rm (.ref b :: As) wc post) (hG : GoodIn Ts (wsV own index C y wy)) (hw : wy = Cond.code y bytes maxL ret :: wy') (hd : y.cls = C ∧ y.cls ≠ "java/lang/invoke/MethodHandle" ∧ y.cls ≠ "java/lang/invoke/VarHandle" ∧ (parseMethodDescriptor y.desc).map (fun d => d.parameters.length) = some n) (hrc : wc[0]? = some (b, .inr (ci, fs))) (hci : vwCl[ci]? = some (C, T, N)) (hRm : (rm.frames + 1).ble R.frames = true ∧ (8 + (maxL + 11) + rm.locals).ble R.locals = true) (hg : As.length = n) (hsz : ls.size = nL) (hcat : ((rest.map fun v => v.category).sum).ble 8 = true) (hf : cells + rm.cells ≤ R.cells ∧ slots + rm.slots ≤ R.slots) (isC isR : List Nat) (hc : isC.map (fun i => ws[i]?) = wc.map some) (hR : isR.map (fun i => ws[i]?) = wr.map some) (hnC : va_nd isC = true) (hnR : va_nd isR = true) (hdis : ∀ i ∈ isR, i ∉ isC) (hst0 : st0 = As.reverse ++ .ref b :: rest) (hdg : decode cc pc = .ok (.invokevirtual index, 3)) (kk : ∀ (w1 : va_W) (H1 : Heap) (locs1 : List Loc), post w1 → va_P Z.1 vwCl (wr ++ w1) H1 → va_D A (wr ++ w1) → va_S A s.heap H1 locs1 → W p l e R s m args below meth c H1 locs1 (cells + rm.cells) (slots + rm.slots) Q (F0 m (pc + 3) ls rest)) : W p l e R s m args below meth c H locs cells slots Q (F0 m pc ls st0) := by
  exact x_backv hC hP hD hS isC isR hc hR hnR hdis (va_runV hC.1 (hM H.size) (cwV n hC.1.2.2.2.2 hG hw rfl rfl hd ⟨Nat.le_of_ble_eq_true hRm.1, Nat.le_of_ble_eq_true hRm.2⟩) (x_preV hC hP hD hS isC hc hnC hrc hci) rfl hg hsz hst0 (lv_room (Nat.le_of_ble_eq_true hcat)) hdg hf) kk
theorem x_Si {y : MethodName} {bytes : ByteArray} {maxL index n : Nat} {ret : Option FieldType} {wy wy' : List Cond} {rm : Room} {As : List Value} {wc wr : va_W} {st0 : List Value} {post : Int32 → va_W → Prop} (hC : xC p s m args c cc nL own Ts Z A) (hP : va_P Z.1 vwCl ws H) (hD : va_D A ws) (hS : va_S A s.heap H locs) (hM : xMi l Z y wy rm As wc post) (hG : GoodIn Ts (va_wsS own index y wy)) (hw : wy = Cond.code y bytes maxL ret :: wy') (hd : y.cls ≠ "java/lang/invoke/MethodHandle" ∧ y.cls ≠ "java/lang/invoke/VarHandle" ∧ (parseMethodDescriptor y.desc).map (fun d => d.parameters.length) = some n) (hRm : (rm.frames + 1).ble R.frames = true ∧ (8 + (maxL + 11) + rm.locals).ble R.locals = true) (hg : As.length = n) (hsz : ls.size = nL) (hcat : ((rest.map fun v => v.category).sum).ble 8 = true) (hf : cells + rm.cells ≤ R.cells ∧ slots + rm.slots ≤ R.slots) (isC isR : List Nat) (hc : isC.map (fun i => ws[i]?) = wc.map some) (hR : isR.map (fun i => ws[i]?) = wr.map some) (hnC : va_nd isC = true) (hnR : va_nd isR = true) (hdis : ∀ i ∈ isR, i ∉ isC) (hst0 : st0 = As.reverse ++ rest) (hdg : decode cc pc = .ok (.invokestatic index, 3)) (kk : ∀ (r : Int32) (w1 : va_W) (H1 : Heap) (locs1 : List Loc), post r w1 → va_P Z.1 vwCl (wr ++ w1) H1 → va_D A (wr ++ w1) → va_S A s.heap H1 locs1 → W p l e R s m args below meth c H1 locs1 (cells + rm.cells) (slots + rm.slots) Q (F0 m (pc + 3) ls (.int r :: rest))) : W p l e R s m args below meth c H locs cells slots Q (F0 m pc ls st0) := by
  exact x_backi hC hP hD hS isC isR hc hR hnR hdis (va_runS hC.1 (hM H.size) (va_cwS n hC.1.2.2.2.2 hG hw rfl rfl hd ⟨Nat.le_of_ble_eq_true hRm.1, Nat.le_of_ble_eq_true hRm.2⟩) (x_preS hC hP hD hS isC hc hnC) rfl hg hsz hst0 (lv_room (Nat.le_of_ble_eq_true hcat)) hdg hf) kk
theorem x_Sv {y : MethodName} {bytes : ByteArray} {maxL index n : Nat} {ret : Option FieldType} {wy wy' : List Cond} {rm : Room} {As : List Value} {wc wr : va_W} {st0 : List Value} {post : va_W → Prop} (hC : xC p s m args c cc nL own Ts Z A) (hP : va_P Z.1 vwCl ws H) (hD : va_D A ws) (hS : va_S A s.heap H locs) (hM : xMv l Z y wy rm As wc post) (hG : GoodIn Ts (va_wsS own index y wy)) (hw : wy = Cond.code y bytes maxL ret :: wy') (hd : y.cls ≠ "java/lang/invoke/MethodHandle" ∧ y.cls ≠ "java/lang/invoke/VarHandle" ∧ (parseMethodDescriptor y.desc).map (fun d => d.parameters.length) = some n) (hRm : (rm.frames + 1).ble R.frames = true ∧ (8 + (maxL + 11) + rm.locals).ble R.locals = true) (hg : As.length = n) (hsz : ls.size = nL) (hcat : ((rest.map fun v => v.category).sum).ble 8 = true) (hf : cells + rm.cells ≤ R.cells ∧ slots + rm.slots ≤ R.slots) (isC isR : List Nat) (hc : isC.map (fun i => ws[i]?) = wc.map some) (hR : isR.map (fun i => ws[i]?) = wr.map some) (hnC : va_nd isC = true) (hnR : va_nd isR = true) (hdis : ∀ i ∈ isR, i ∉ isC) (hst0 : st0 = As.reverse ++ rest) (hdg : decode cc pc = .ok (.invokestatic index, 3)) (kk : ∀ (w1 : va_W) (H1 : Heap) (locs1 : List Loc), post w1 → va_P Z.1 vwCl (wr ++ w1) H1 → va_D A (wr ++ w1) → va_S A s.heap H1 locs1 → W p l e R s m args below meth c H1 locs1 (cells + rm.cells) (slots + rm.slots) Q (F0 m (pc + 3) ls rest)) : W p l e R s m args below meth c H locs cells slots Q (F0 m pc ls st0) := by
  exact x_backv hC hP hD hS isC isR hc hR hnR hdis (va_runS hC.1 (hM H.size) (va_cwS n hC.1.2.2.2.2 hG hw rfl rfl hd ⟨Nat.le_of_ble_eq_true hRm.1, Nat.le_of_ble_eq_true hRm.2⟩) (x_preS hC hP hD hS isC hc hnC) rfl hg hsz hst0 (lv_room (Nat.le_of_ble_eq_true hcat)) hdg hf) kk
theorem x_SNi {y : MethodName} {bytes : ByteArray} {maxL index n : Nat} {ret : Option FieldType} {wy wy' : List Cond} {rm : Room} {As : List Value} {wc wr : va_W} {st0 : List Value} {host : String} {post : Int32 → va_W → Prop} (hC : xC p s m args c cc nL own Ts Z A) (hP : va_P Z.1 vwCl ws H) (hD : va_D A ws) (hS : va_S A s.heap H locs) (hM : xMi l Z y wy rm As wc post) (hG : GoodIn Ts wy) (hl : va_Nw (.methodLinkNest own index y host) s) (hini : (Cond.initialized y.cls).before args s = true) (hst : (Cond.static y).before args s = true) (hw : wy = Cond.code y bytes maxL ret :: wy') (hd : y.cls ≠ "java/lang/invoke/MethodHandle" ∧ y.cls ≠ "java/lang/invoke/VarHandle" ∧ (parseMethodDescriptor y.desc).map (fun d => d.parameters.length) = some n) (hRm : (rm.frames + 1).ble R.frames = true ∧ (8 + (maxL + 11) + rm.locals).ble R.locals = true) (hg : As.length = n) (hsz : ls.size = nL) (hcat : ((rest.map fun v => v.category).sum).ble 8 = true) (hf : cells + rm.cells ≤ R.cells ∧ slots + rm.slots ≤ R.slots) (isC isR : List Nat) (hc : isC.map (fun i => ws[i]?) = wc.map some) (hR : isR.map (fun i => ws[i]?) = wr.map some) (hnC : va_nd isC = true) (hnR : va_nd isR = true) (hdis : ∀ i ∈ isR, i ∉ isC) (hst0 : st0 = As.reverse ++ rest) (hdg : decode cc pc = .ok (.invokestatic index, 3)) (kk : ∀ (r : Int32) (w1 : va_W) (H1 : Heap) (locs1 : List Loc), post r w1 → va_P Z.1 vwCl (wr ++ w1) H1 → va_D A (wr ++ w1) → va_S A s.heap H1 locs1 → W p l e R s m args below meth c H1 locs1 (cells + rm.cells) (slots + rm.slots) Q (F0 m (pc + 3) ls (.int r :: rest))) : W p l e R s m args below meth c H locs cells slots Q (F0 m pc ls st0) := by
  exact x_backi hC hP hD hS isC isR hc hR hnR hdis (va_runSN hC.1 (hM H.size) (⟨va_cnB n hC.1.2.2.2.2 hG hw rfl rfl hl hini hd ⟨Nat.le_of_ble_eq_true hRm.1, Nat.le_of_ble_eq_true hRm.2⟩, hst, trivial⟩) (x_preS hC hP hD hS isC hc hnC) rfl hg hsz hst0 (lv_room (Nat.le_of_ble_eq_true hcat)) hdg hf) kk
theorem x_SNv {y : MethodName} {bytes : ByteArray} {maxL index n : Nat} {ret : Option FieldType} {wy wy' : List Cond} {rm : Room} {As : List Value} {wc wr : va_W} {st0 : List Value} {host : String} {post : va_W → Prop} (hC : xC p s m args c cc nL own Ts Z A) (hP : va_P Z.1 vwCl ws H) (hD : va_D A ws) (hS : va_S A s.heap H locs) (hM : xMv l Z y wy rm As wc post) (hG : GoodIn Ts wy) (hl : va_Nw (.methodLinkNest own index y host) s) (hini : (Cond.initialized y.cls).before args s = true) (hst : (Cond.static y).before args s = true) (hw : wy = Cond.code y bytes maxL ret :: wy') (hd : y.cls ≠ "java/lang/invoke/MethodHandle" ∧ y.cls ≠ "java/lang/invoke/VarHandle" ∧ (parseMethodDescriptor y.desc).map (fun d => d.parameters.length) = some n) (hRm : (rm.frames + 1).ble R.frames = true ∧ (8 + (maxL + 11) + rm.locals).ble R.locals = true) (hg : As.length = n) (hsz : ls.size = nL) (hcat : ((rest.map fun v => v.category).sum).ble 8 = true) (hf : cells + rm.cells ≤ R.cells ∧ slots + rm.slots ≤ R.slots) (isC isR : List Nat) (hc : isC.map (fun i => ws[i]?) = wc.map some) (hR : isR.map (fun i => ws[i]?) = wr.map some) (hnC : va_nd isC = true) (hnR : va_nd isR = true) (hdis : ∀ i ∈ isR, i ∉ isC) (hst0 : st0 = As.reverse ++ rest) (hdg : decode cc pc = .ok (.invokestatic index, 3)) (kk : ∀ (w1 : va_W) (H1 : Heap) (locs1 : List Loc), post w1 → va_P Z.1 vwCl (wr ++ w1) H1 → va_D A (wr ++ w1) → va_S A s.heap H1 locs1 → W p l e R s m args below meth c H1 locs1 (cells + rm.cells) (slots + rm.slots) Q (F0 m (pc + 3) ls rest)) : W p l e R s m args below meth c H locs cells slots Q (F0 m pc ls st0) := by
  exact x_backv hC hP hD hS isC isR hc hR hnR hdis (va_runSN hC.1 (hM H.size) (⟨va_cnB n hC.1.2.2.2.2 hG hw rfl rfl hl hini hd ⟨Nat.le_of_ble_eq_true hRm.1, Nat.le_of_ble_eq_true hRm.2⟩, hst, trivial⟩) (x_preS hC hP hD hS isC hc hnC) rfl hg hsz hst0 (lv_room (Nat.le_of_ble_eq_true hcat)) hdg hf) kk
theorem x_Iv {y : MethodName} {bytes : ByteArray} {maxL index n : Nat} {ret : Option FieldType} {wy wy' : List Cond} {rm : Room} {As : List Value} {wc wr : va_W} {st0 : List Value} {b : Nat} {post : va_W → Prop} (hC : xC p s m args c cc nL own Ts Z A) (hP : va_P Z.1 vwCl ws H) (hD : va_D A ws) (hS : va_S A s.heap H locs) (hM : xMv l Z y wy rm (.ref b :: As) wc post) (hG : GoodIn Ts wy) (hini : (Cond.initialized y.cls).before args s = true) (hl : (Cond.methodLink own index y).before args s = true) (hin : (Cond.instanceMethod y).before args s = true) (hy1 : y.name = "<init>") (hw : wy = Cond.code y bytes maxL none :: wy') (hd : y.cls ≠ "java/lang/invoke/MethodHandle" ∧ y.cls ≠ "java/lang/invoke/VarHandle" ∧ (parseMethodDescriptor y.desc).map (fun d => d.parameters.length) = some n) (hRm : (rm.frames + 1).ble R.frames = true ∧ (8 + (maxL + 11) + rm.locals).ble R.locals = true) (hg : As.length = n) (hsz : ls.size = nL) (hcat : ((rest.map fun v => v.category).sum).ble 8 = true) (hf : cells + rm.cells ≤ R.cells ∧ slots + rm.slots ≤ R.slots) (isC isR : List Nat) (hc : isC.map (fun i => ws[i]?) = wc.map some) (hR : isR.map (fun i => ws[i]?) = wr.map some) (hnC : va_nd isC = true) (hnR : va_nd isR = true) (hdis : ∀ i ∈ isR, i ∉ isC) (hst0 : st0 = As.reverse ++ .ref b :: rest) (hdg : decode cc pc = .ok (.invokespecial index, 3)) (kk : ∀ (w1 : va_W) (H1 : Heap) (locs1 : List Loc), post w1 → va_P Z.1 vwCl (wr ++ w1) H1 → va_D A (wr ++ w1) → va_S A s.heap H1 locs1 → W p l e R s m args below meth c H1 locs1 (cells + rm.cells) (slots + rm.slots) Q (F0 m (pc + 3) ls rest)) : W p l e R s m args below meth c H locs cells slots Q (F0 m pc ls st0) := by
  exact x_backv hC hP hD hS isC isR hc hR hnR hdis (va_runI hC.1 (hM H.size) (cwI n hC.1.2.2.2.2 hG hw rfl rfl hini hl hin hy1 hd ⟨Nat.le_of_ble_eq_true hRm.1, Nat.le_of_ble_eq_true hRm.2⟩) (x_preS hC hP hD hS isC hc hnC) rfl hg hsz hst0 (lv_room (Nat.le_of_ble_eq_true hcat)) hdg hf) kk
theorem x_INv {y : MethodName} {bytes : ByteArray} {maxL index n : Nat} {ret : Option FieldType} {wy wy' : List Cond} {rm : Room} {As : List Value} {wc wr : va_W} {st0 : List Value} {b : Nat} {host : String} {post : va_W → Prop} (hC : xC p s m args c cc nL own Ts Z A) (hP : va_P Z.1 vwCl ws H) (hD : va_D A ws) (hS : va_S A s.heap H locs) (hM : xMv l Z y wy rm (.ref b :: As) wc post) (hG : GoodIn Ts wy) (hl : va_Nw (.methodLinkNest own index y host) s) (hini : (Cond.initialized y.cls).before args s = true) (hin : (Cond.instanceMethod y).before args s = true) (hy1 : y.name = "<init>") (hw : wy = Cond.code y bytes maxL none :: wy') (hd : y.cls ≠ "java/lang/invoke/MethodHandle" ∧ y.cls ≠ "java/lang/invoke/VarHandle" ∧ (parseMethodDescriptor y.desc).map (fun d => d.parameters.length) = some n) (hRm : (rm.frames + 1).ble R.frames = true ∧ (8 + (maxL + 11) + rm.locals).ble R.locals = true) (hg : As.length = n) (hsz : ls.size = nL) (hcat : ((rest.map fun v => v.category).sum).ble 8 = true) (hf : cells + rm.cells ≤ R.cells ∧ slots + rm.slots ≤ R.slots) (isC isR : List Nat) (hc : isC.map (fun i => ws[i]?) = wc.map some) (hR : isR.map (fun i => ws[i]?) = wr.map some) (hnC : va_nd isC = true) (hnR : va_nd isR = true) (hdis : ∀ i ∈ isR, i ∉ isC) (hst0 : st0 = As.reverse ++ .ref b :: rest) (hdg : decode cc pc = .ok (.invokespecial index, 3)) (kk : ∀ (w1 : va_W) (H1 : Heap) (locs1 : List Loc), post w1 → va_P Z.1 vwCl (wr ++ w1) H1 → va_D A (wr ++ w1) → va_S A s.heap H1 locs1 → W p l e R s m args below meth c H1 locs1 (cells + rm.cells) (slots + rm.slots) Q (F0 m (pc + 3) ls rest)) : W p l e R s m args below meth c H locs cells slots Q (F0 m pc ls st0) := by
  exact x_backv hC hP hD hS isC isR hc hR hnR hdis (va_runIN hC.1 (hM H.size) (⟨va_cnB n hC.1.2.2.2.2 hG hw rfl rfl hl hini hd ⟨Nat.le_of_ble_eq_true hRm.1, Nat.le_of_ble_eq_true hRm.2⟩, hy1, hin⟩) (x_preS hC hP hD hS isC hc hnC) rfl hg hsz hst0 (lv_room (Nat.le_of_ble_eq_true hcat)) hdg hf) kk
end XC
end
