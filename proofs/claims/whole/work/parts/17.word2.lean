theorem kv_X2_become : yX2_become.cls = RX2 ∧ yX2_become.cls ≠ "java/lang/invoke/MethodHandle" ∧ yX2_become.cls ≠ "java/lang/invoke/VarHandle" ∧ (parseMethodDescriptor yX2_become.desc).map (fun d => d.parameters.length) = some 1 := by decide +kernel
theorem kv_X5_middle : yX5_middle.cls = RX5 ∧ yX5_middle.cls ≠ "java/lang/invoke/MethodHandle" ∧ yX5_middle.cls ≠ "java/lang/invoke/VarHandle" ∧ (parseMethodDescriptor yX5_middle.desc).map (fun d => d.parameters.length) = some 0 := by decide +kernel
set_option maxHeartbeats 4000000 in
set_option maxRecDepth 100000 in
theorem c_X5_stepsToPlace (l : Launch) (Z : xZ) (hw vr vk ar hd sz : Nat) (g : Nat → Nat) (L : List Nat) (hR : RR 600 hd g L) (hsz : sz = L.length) (hp s0 s1 : Nat) (sz1 lt1 : Nat → Nat) (R : xRl) (hV : RV R) (hT : TR (xprod R) sz1 lt1) (hW : WV L) (ak hd3 sz3 : Nat) (g3 : Nat → Nat) : xMi l Z yX5_stepsToPlace vX5_stepsToPlace ({ frames := 4, cells := 0, slots := 0, locals := 91 } : Room) [.ref hw, .ref hp] [(hw, .inr (5, [.ref vr, .ref vk])), (vr, .inr (2, [.ref ar, .int (nI hd), .int (nI sz)])), (ar, xI Z 600 g), (vk, .inr (2, [.ref ak, .int (nI hd3), .int (nI sz3)])), (ak, xI Z 600 g3), (hp, .inr (4, [.ref s0, .ref s1])), (s0, xI Z 121 sz1), (s1, xI Z 484 lt1)] (fun r w => (∃ k L2 hd2 g2, xnext R 20000 L = some (k, L2) ∧ RR 600 hd2 g2 L2 ∧ WV L2 ∧ r = nI k ∧ ∃ hd5 g5, w = [(hw, .inr (5, [.ref vr, .ref vk])), (vr, .inr (2, [.ref ar, .int (nI hd2), .int (nI L2.length)])), (ar, xI Z 600 g2), (vk, .inr (2, [.ref ak, .int (nI hd5), .int (nI sz)])), (ak, xI Z 600 g5), (hp, .inr (4, [.ref s0, .ref s1])), (s0, xI Z 121 sz1), (s1, xI Z 484 lt1)]) ∨ (∃ hd2 g2, xnext R 20000 L = none ∧ RR 600 hd2 g2 L ∧ r = -2 ∧ ∃ hd5 g5, w = [(hw, .inr (5, [.ref vr, .ref vk])), (vr, .inr (2, [.ref ar, .int (nI hd2), .int (nI sz)])), (ar, xI Z 600 g2), (vk, .inr (2, [.ref ak, .int (nI hd5), .int (nI sz)])), (ak, xI Z 600 g5), (hp, .inr (4, [.ref s0, .ref s1])), (s0, xI Z 121 sz1), (s1, xI Z 484 lt1)])) := by
  refine x_i (by decide) rfl (Nat.le_of_ble_eq_true rfl) ?_
  intro p e s m args below meth c ls A hC hr hk hl hP hD hS
  have hx := hC.1.1
  have hb := hC.1.2.1
  have hml := hC.1.2.2.1
  have hown : s.vm.findClass RX5 = some m.cls := hC.1.2.2.2.1
  have hts := hC.1.2.2.2.2
  have hK := hC.2.1
  have qq_294 := hts (Cond.fieldLink RX5 20 "TagTower$Word" "kept" "LTagTower$LetterRow;") (List.mem_cons_of_mem _ wq_294)
  have iX5 : ∀ w ∈ wsX50, w ∈ vX5_stepsToPlace := fun w h => List.mem_cons_of_mem _ (wi_X5 w h)
  have qq_292 := hts (Cond.fieldLink RX5 14 "TagTower$Word" "row" "LTagTower$LetterRow;") (List.mem_cons_of_mem _ wq_292)
  have hl : lv_has ls 3 [(0, .ref hw), (1, .ref hp)] := hl
  have hP : va_P Z.1 vwCl [(hw, .inr (5, [.ref vr, .ref vk])), (vr, .inr (2, [.ref ar, .int (nI hd), .int (nI sz)])), (ar, xI Z 600 g), (vk, .inr (2, [.ref ak, .int (nI hd3), .int (nI sz3)])), (ak, xI Z 600 g3), (hp, .inr (4, [.ref s0, .ref s1])), (s0, xI Z 121 sz1), (s1, xI Z 484 lt1)] s.heap := hP
  have hD : va_D A [(hw, .inr (5, [.ref vr, .ref vk])), (vr, .inr (2, [.ref ar, .int (nI hd), .int (nI sz)])), (ar, xI Z 600 g), (vk, .inr (2, [.ref ak, .int (nI hd3), .int (nI sz3)])), (ak, xI Z 600 g3), (hp, .inr (4, [.ref s0, .ref s1])), (s0, xI Z 121 sz1), (s1, xI Z 484 lt1)] := hD
  have hR1 := hR.1
  have hR2 := hR.2.1
  refine lv_aload_n hx hb dX5_stepsToPlace_0 rfl (lv_at hl 0 rfl) ?_
  refine va_get (D := Z.1) (ci := 5) (v := .ref vk) (C := RX5) (T := TX5) (N := 2) hx hb hts iX5 hown hK hP 0 rfl rfl 1 (Nat.le_of_ble_eq_true rfl) qq_294 (fun _ h9 => h9) rfl dX5_stepsToPlace_1 ?_
  refine lv_aload_n hx hb dX5_stepsToPlace_4 rfl (lv_at hl 0 rfl) ?_
  refine va_get (D := Z.1) (ci := 5) (v := .ref vr) (C := RX5) (T := TX5) (N := 2) hx hb hts iX5 hown hK hP 0 rfl rfl 0 (Nat.le_of_ble_eq_true rfl) qq_292 (fun _ h9 => h9) rfl dX5_stepsToPlace_5 ?_
  refine x_Vv (y := yX2_become) (As := [.ref vr]) (wc := [(vk, .inr (2, [.ref ak, .int (nI hd3), .int (nI sz3)])), (ak, xI Z 600 g3), (vr, .inr (2, [.ref ar, .int (nI hd), .int (nI sz)])), (ar, xI Z 600 g)]) (wr := [(hw, .inr (5, [.ref vr, .ref vk])), (hp, .inr (4, [.ref s0, .ref s1])), (s0, xI Z 121 sz1), (s1, xI Z 484 lt1)]) hC hP hD hS (c_X2_become l Z vk ak 600 hd3 sz3 g3 (by decide) vr ar 600 hd sz g L (by decide) hR hsz (by omega) (by decide)) (gV wq_565 wq_562 wq_563 wq_564 wq_43) rfl kv_X2_become rfl rfl ⟨rfl, rfl⟩ rfl hl.1 rfl ⟨Nat.le_of_ble_eq_true rfl, Nat.le_of_ble_eq_true rfl⟩ [3, 4, 1, 2] [0, 5, 6, 7] rfl rfl (by decide) (by decide) (by decide) rfl dX5_stepsToPlace_8 (fun w1 H locs hw hP hD hS => ?_)
  obtain ⟨hd4, g4, hR4, rfl⟩ := hw
  have hP := hP.sub (ws' := [(hw, .inr (5, [.ref vr, .ref vk])), (vr, .inr (2, [.ref ar, .int (nI hd), .int (nI sz)])), (ar, xI Z 600 g), (vk, .inr (2, [.ref ak, .int (nI hd4), .int (nI sz)])), (ak, xI Z 600 g4), (hp, .inr (4, [.ref s0, .ref s1])), (s0, xI Z 121 sz1), (s1, xI Z 484 lt1)]) [0, 6, 7, 4, 5, 1, 2, 3] rfl
  have hD := hD.sub (ws' := [(hw, .inr (5, [.ref vr, .ref vk])), (vr, .inr (2, [.ref ar, .int (nI hd), .int (nI sz)])), (ar, xI Z 600 g), (vk, .inr (2, [.ref ak, .int (nI hd4), .int (nI sz)])), (ak, xI Z 600 g4), (hp, .inr (4, [.ref s0, .ref s1])), (s0, xI Z 121 sz1), (s1, xI Z 484 lt1)]) [0, 6, 7, 4, 5, 1, 2, 3] (by decide) rfl
  refine ln_const 0 hx hb dX5_stepsToPlace_11 (by decide) ?_
  refine lv_istore_n (lv' := [(2, .int (nI 0)), (0, .ref hw), (1, .ref hp)]) hx hb dX5_stepsToPlace_12 rfl hl (by decide) rfl (fun ls hl => ?_)
  have hloop13 : ∀ (nn : Nat) (k hd1 sz2 : Nat) (g1 : Nat → Nat) (L1 : List Nat) (H : Heap) (locs : List Loc) (ls : Array Slot) (hX : XN R 20000 L k L1) (hR1 : RR 600 hd1 g1 L1) (hs1 : sz2 = L1.length) (hW1 : WV L1) (hmu : 20000 - k < nn) (hP : va_P Z.1 vwCl [(hw, .inr (5, [.ref vr, .ref vk])), (vr, .inr (2, [.ref ar, .int (nI hd1), .int (nI sz2)])), (ar, xI Z 600 g1), (vk, .inr (2, [.ref ak, .int (nI hd4), .int (nI sz)])), (ak, xI Z 600 g4), (hp, .inr (4, [.ref s0, .ref s1])), (s0, xI Z 121 sz1), (s1, xI Z 484 lt1)] H) (hD : va_D A [(hw, .inr (5, [.ref vr, .ref vk])), (vr, .inr (2, [.ref ar, .int (nI hd1), .int (nI sz2)])), (ar, xI Z 600 g1), (vk, .inr (2, [.ref ak, .int (nI hd4), .int (nI sz)])), (ak, xI Z 600 g4), (hp, .inr (4, [.ref s0, .ref s1])), (s0, xI Z 121 sz1), (s1, xI Z 484 lt1)]) (hS : va_S A s.heap H locs) (hl : lv_has ls 3 [(0, .ref hw), (1, .ref hp), (2, .int (nI k))]), W p l e ({ frames := 4, cells := 0, slots := 0, locals := 91 } : Room) s m args below meth c H locs 0 0 (MQ below (va_Qi (fun r w => (∃ k L2 hd2 g2, xnext R 20000 L = some (k, L2) ∧ RR 600 hd2 g2 L2 ∧ WV L2 ∧ r = nI k ∧ ∃ hd5 g5, w = [(hw, .inr (5, [.ref vr, .ref vk])), (vr, .inr (2, [.ref ar, .int (nI hd2), .int (nI L2.length)])), (ar, xI Z 600 g2), (vk, .inr (2, [.ref ak, .int (nI hd5), .int (nI sz)])), (ak, xI Z 600 g5), (hp, .inr (4, [.ref s0, .ref s1])), (s0, xI Z 121 sz1), (s1, xI Z 484 lt1)]) ∨ (∃ hd2 g2, xnext R 20000 L = none ∧ RR 600 hd2 g2 L ∧ r = -2 ∧ ∃ hd5 g5, w = [(hw, .inr (5, [.ref vr, .ref vk])), (vr, .inr (2, [.ref ar, .int (nI hd2), .int (nI sz)])), (ar, xI Z 600 g2), (vk, .inr (2, [.ref ak, .int (nI hd5), .int (nI sz)])), (ak, xI Z 600 g5), (hp, .inr (4, [.ref s0, .ref s1])), (s0, xI Z 121 sz1), (s1, xI Z 484 lt1)])) (xB Z A) A) args s ({ frames := 4, cells := 0, slots := 0, locals := 91 } : Room).cells ({ frames := 4, cells := 0, slots := 0, locals := 91 } : Room).slots A) (F0 m 13 ls []) := by
    intro nn
    induction nn with
    | zero => intro k hd1 sz2 g1 L1 H locs ls hX hR1 hs1 hW1 hmu; exact absurd hmu (Nat.not_lt_zero _)
    | succ nn ih =>
      intro k hd1 sz2 g1 L1 H locs ls hX hR1 hs1 hW1 hmu hP hD hS hl
      have hk1 := hX.1
      have hR11 := hR1.1
      have hR12 := hR1.2.1
      refine lv_iload_n hx hb dX5_stepsToPlace_13 rfl (lv_at hl 2 rfl) ?_
      refine ln_sipush 20000 hx hb dX5_stepsToPlace_14 (by decide) ?_
      refine ln_icmp_ge (tgt := 42) hx hb dX5_stepsToPlace_17 (by decide) (by omega) (by omega) (fun h17 => ?_) (fun h17 => ?_)
      · refine lv_aload_n hx hb dX5_stepsToPlace_42 rfl (lv_at hl 0 rfl) ?_
        refine va_get (D := Z.1) (ci := 5) (v := .ref vr) (C := RX5) (T := TX5) (N := 2) hx hb hts iX5 hown hK hP 0 rfl rfl 0 (Nat.le_of_ble_eq_true rfl) qq_292 (fun _ h9 => h9) rfl dX5_stepsToPlace_43 ?_
        refine lv_aload_n hx hb dX5_stepsToPlace_46 rfl (lv_at hl 0 rfl) ?_
        refine va_get (D := Z.1) (ci := 5) (v := .ref vk) (C := RX5) (T := TX5) (N := 2) hx hb hts iX5 hown hK hP 0 rfl rfl 1 (Nat.le_of_ble_eq_true rfl) qq_294 (fun _ h9 => h9) rfl dX5_stepsToPlace_47 ?_
        refine x_Vv (y := yX2_become) (As := [.ref vk]) (wc := [(vr, .inr (2, [.ref ar, .int (nI hd1), .int (nI sz2)])), (ar, xI Z 600 g1), (vk, .inr (2, [.ref ak, .int (nI hd4), .int (nI sz)])), (ak, xI Z 600 g4)]) (wr := [(hw, .inr (5, [.ref vr, .ref vk])), (hp, .inr (4, [.ref s0, .ref s1])), (s0, xI Z 121 sz1), (s1, xI Z 484 lt1)]) hC hP hD hS (c_X2_become l Z vr ar 600 hd1 sz2 g1 (by decide) vk ak 600 hd4 sz g4 L (by decide) hR4 hsz (by omega) (by decide)) (gV wq_565 wq_562 wq_563 wq_564 wq_43) rfl kv_X2_become rfl rfl ⟨rfl, rfl⟩ rfl hl.1 rfl ⟨Nat.le_of_ble_eq_true rfl, Nat.le_of_ble_eq_true rfl⟩ [1, 2, 3, 4] [0, 5, 6, 7] rfl rfl (by decide) (by decide) (by decide) rfl dX5_stepsToPlace_50 (fun w1 H locs hw hP hD hS => ?_)
        obtain ⟨hd5, g5, hR5, rfl⟩ := hw
        have hP := hP.sub (ws' := [(hw, .inr (5, [.ref vr, .ref vk])), (vr, .inr (2, [.ref ar, .int (nI hd5), .int (nI sz)])), (ar, xI Z 600 g5), (vk, .inr (2, [.ref ak, .int (nI hd4), .int (nI sz)])), (ak, xI Z 600 g4), (hp, .inr (4, [.ref s0, .ref s1])), (s0, xI Z 121 sz1), (s1, xI Z 484 lt1)]) [0, 4, 5, 6, 7, 1, 2, 3] rfl
        have hD := hD.sub (ws' := [(hw, .inr (5, [.ref vr, .ref vk])), (vr, .inr (2, [.ref ar, .int (nI hd5), .int (nI sz)])), (ar, xI Z 600 g5), (vk, .inr (2, [.ref ak, .int (nI hd4), .int (nI sz)])), (ak, xI Z 600 g4), (hp, .inr (4, [.ref s0, .ref s1])), (s0, xI Z 121 sz1), (s1, xI Z 484 lt1)]) [0, 4, 5, 6, 7, 1, 2, 3] (by decide) rfl
        refine lv_bipush (v := (-2)) hx hb dX5_stepsToPlace_53 (by decide) ?_
        exact x_iret hC hr hk hP hD hS dX5_stepsToPlace_55 (Or.inr ⟨hd5, g5, hX.full (by omega), hR5, rfl, hd4, g4, rfl⟩)
      · refine lv_aload_n hx hb dX5_stepsToPlace_20 rfl (lv_at hl 0 rfl) ?_
        refine lv_aload_n hx hb dX5_stepsToPlace_21 rfl (lv_at hl 1 rfl) ?_
        refine x_Vi (y := yX5_doStep) (As := [.ref hp]) (wc := [(hw, .inr (5, [.ref vr, .ref vk])), (vr, .inr (2, [.ref ar, .int (nI hd1), .int (nI sz2)])), (ar, xI Z 600 g1), (hp, .inr (4, [.ref s0, .ref s1])), (s0, xI Z 121 sz1), (s1, xI Z 484 lt1)]) (wr := [(vk, .inr (2, [.ref ak, .int (nI hd4), .int (nI sz)])), (ak, xI Z 600 g4)]) hC hP hD hS (c_X5_doStep l Z hw vr vk ar hd1 sz2 g1 L1 hR1 hs1 hp s0 s1 sz1 lt1 R hV hT hW1) (gV wq_541 wq_538 wq_540 wq_8 wq_42) rfl kv_X5_doStep rfl rfl ⟨rfl, rfl⟩ rfl hl.1 rfl ⟨Nat.le_of_ble_eq_true rfl, Nat.le_of_ble_eq_true rfl⟩ [0, 1, 2, 5, 6, 7] [3, 4] rfl rfl (by decide) (by decide) (by decide) rfl dX5_stepsToPlace_22 (fun r22 w1 H locs hw hP hD hS => ?_)
        rcases hw with ⟨hst, rfl, rfl⟩ | ⟨L2, hd2, g2, hst, hR2, rfl, rfl⟩
        · have hP := hP.sub (ws' := [(hw, .inr (5, [.ref vr, .ref vk])), (vr, .inr (2, [.ref ar, .int (nI hd1), .int (nI sz2)])), (ar, xI Z 600 g1), (vk, .inr (2, [.ref ak, .int (nI hd4), .int (nI sz)])), (ak, xI Z 600 g4), (hp, .inr (4, [.ref s0, .ref s1])), (s0, xI Z 121 sz1), (s1, xI Z 484 lt1)]) [2, 3, 4, 0, 1, 5, 6, 7] rfl
          have hD := hD.sub (ws' := [(hw, .inr (5, [.ref vr, .ref vk])), (vr, .inr (2, [.ref ar, .int (nI hd1), .int (nI sz2)])), (ar, xI Z 600 g1), (vk, .inr (2, [.ref ak, .int (nI hd4), .int (nI sz)])), (ak, xI Z 600 g4), (hp, .inr (4, [.ref s0, .ref s1])), (s0, xI Z 121 sz1), (s1, xI Z 484 lt1)]) [2, 3, 4, 0, 1, 5, 6, 7] (by decide) rfl
          refine ln_if_eq (tgt := 42) hx hb dX5_stepsToPlace_25 (by decide) (by omega) (fun h25 => ?_) (fun h25 => False.elim (by omega))
          refine lv_aload_n hx hb dX5_stepsToPlace_42 rfl (lv_at hl 0 rfl) ?_
          refine va_get (D := Z.1) (ci := 5) (v := .ref vr) (C := RX5) (T := TX5) (N := 2) hx hb hts iX5 hown hK hP 0 rfl rfl 0 (Nat.le_of_ble_eq_true rfl) qq_292 (fun _ h9 => h9) rfl dX5_stepsToPlace_43 ?_
          refine lv_aload_n hx hb dX5_stepsToPlace_46 rfl (lv_at hl 0 rfl) ?_
          refine va_get (D := Z.1) (ci := 5) (v := .ref vk) (C := RX5) (T := TX5) (N := 2) hx hb hts iX5 hown hK hP 0 rfl rfl 1 (Nat.le_of_ble_eq_true rfl) qq_294 (fun _ h9 => h9) rfl dX5_stepsToPlace_47 ?_
          refine x_Vv (y := yX2_become) (As := [.ref vk]) (wc := [(vr, .inr (2, [.ref ar, .int (nI hd1), .int (nI sz2)])), (ar, xI Z 600 g1), (vk, .inr (2, [.ref ak, .int (nI hd4), .int (nI sz)])), (ak, xI Z 600 g4)]) (wr := [(hw, .inr (5, [.ref vr, .ref vk])), (hp, .inr (4, [.ref s0, .ref s1])), (s0, xI Z 121 sz1), (s1, xI Z 484 lt1)]) hC hP hD hS (c_X2_become l Z vr ar 600 hd1 sz2 g1 (by decide) vk ak 600 hd4 sz g4 L (by decide) hR4 hsz (by omega) (by decide)) (gV wq_565 wq_562 wq_563 wq_564 wq_43) rfl kv_X2_become rfl rfl ⟨rfl, rfl⟩ rfl hl.1 rfl ⟨Nat.le_of_ble_eq_true rfl, Nat.le_of_ble_eq_true rfl⟩ [1, 2, 3, 4] [0, 5, 6, 7] rfl rfl (by decide) (by decide) (by decide) rfl dX5_stepsToPlace_50 (fun w1 H locs hw hP hD hS => ?_)
          obtain ⟨hd5, g5, hR5, rfl⟩ := hw
          have hP := hP.sub (ws' := [(hw, .inr (5, [.ref vr, .ref vk])), (vr, .inr (2, [.ref ar, .int (nI hd5), .int (nI sz)])), (ar, xI Z 600 g5), (vk, .inr (2, [.ref ak, .int (nI hd4), .int (nI sz)])), (ak, xI Z 600 g4), (hp, .inr (4, [.ref s0, .ref s1])), (s0, xI Z 121 sz1), (s1, xI Z 484 lt1)]) [0, 4, 5, 6, 7, 1, 2, 3] rfl
          have hD := hD.sub (ws' := [(hw, .inr (5, [.ref vr, .ref vk])), (vr, .inr (2, [.ref ar, .int (nI hd5), .int (nI sz)])), (ar, xI Z 600 g5), (vk, .inr (2, [.ref ak, .int (nI hd4), .int (nI sz)])), (ak, xI Z 600 g4), (hp, .inr (4, [.ref s0, .ref s1])), (s0, xI Z 121 sz1), (s1, xI Z 484 lt1)]) [0, 4, 5, 6, 7, 1, 2, 3] (by decide) rfl
          refine lv_bipush (v := (-2)) hx hb dX5_stepsToPlace_53 (by decide) ?_
          exact x_iret hC hr hk hP hD hS dX5_stepsToPlace_55 (Or.inr ⟨hd5, g5, hX.stop hst, hR5, rfl, hd4, g4, rfl⟩)
        · have hP := hP.sub (ws' := [(hw, .inr (5, [.ref vr, .ref vk])), (vr, .inr (2, [.ref ar, .int (nI hd2), .int (nI L2.length)])), (ar, xI Z 600 g2), (vk, .inr (2, [.ref ak, .int (nI hd4), .int (nI sz)])), (ak, xI Z 600 g4), (hp, .inr (4, [.ref s0, .ref s1])), (s0, xI Z 121 sz1), (s1, xI Z 484 lt1)]) [2, 3, 4, 0, 1, 5, 6, 7] rfl
          have hD := hD.sub (ws' := [(hw, .inr (5, [.ref vr, .ref vk])), (vr, .inr (2, [.ref ar, .int (nI hd2), .int (nI L2.length)])), (ar, xI Z 600 g2), (vk, .inr (2, [.ref ak, .int (nI hd4), .int (nI sz)])), (ak, xI Z 600 g4), (hp, .inr (4, [.ref s0, .ref s1])), (s0, xI Z 121 sz1), (s1, xI Z 484 lt1)]) [2, 3, 4, 0, 1, 5, 6, 7] (by decide) rfl
          have hW2 := tstep_ok hV hW1 hst
          refine ln_if_eq (tgt := 42) hx hb dX5_stepsToPlace_25 (by decide) (by omega) (fun h25 => False.elim (by omega)) (fun h25 => ?_)
          refine ln_iinc (k0 := 2) (k := 1) (k + 1) (lv' := [(2, .int (nI (k + 1))), (0, .ref hw), (1, .ref hp)]) hx hb dX5_stepsToPlace_28 hl rfl rfl (by first | rfl | omega) (by decide) rfl (fun ls hl => ?_)
          refine lv_aload_n hx hb dX5_stepsToPlace_31 rfl (lv_at hl 1 rfl) ?_
          refine x_Vi (y := yX5_middle) (As := []) (wc := [(hw, .inr (5, [.ref vr, .ref vk])), (vr, .inr (2, [.ref ar, .int (nI hd2), .int (nI L2.length)])), (ar, xI Z 600 g2)]) (wr := [(vk, .inr (2, [.ref ak, .int (nI hd4), .int (nI sz)])), (ak, xI Z 600 g4), (hp, .inr (4, [.ref s0, .ref s1])), (s0, xI Z 121 sz1), (s1, xI Z 484 lt1)]) hC hP hD hS (c_X5_middle l Z hw vr vk ar hd2 L2.length g2 L2 hR2 rfl hW2) (gV wq_572 wq_569 wq_571 wq_9 wq_42) rfl kv_X5_middle rfl rfl ⟨rfl, rfl⟩ rfl hl.1 rfl ⟨Nat.le_of_ble_eq_true rfl, Nat.le_of_ble_eq_true rfl⟩ [0, 1, 2] [3, 4, 5, 6, 7] rfl rfl (by decide) (by decide) (by decide) rfl dX5_stepsToPlace_32 (fun r32 w1 H locs hw hP hD hS => ?_)
          rcases hw with ⟨q, f1, g6, hq, he, rfl, rfl⟩ | ⟨hnp, rfl, rfl⟩
          · have hP := hP.sub (ws' := [(hw, .inr (5, [.ref vr, .ref vk])), (vr, .inr (2, [.ref ar, .int (nI hd2), .int (nI L2.length)])), (ar, xI Z 600 g2), (vk, .inr (2, [.ref ak, .int (nI hd4), .int (nI sz)])), (ak, xI Z 600 g4), (hp, .inr (4, [.ref s0, .ref s1])), (s0, xI Z 121 sz1), (s1, xI Z 484 lt1)]) [5, 6, 7, 0, 1, 2, 3, 4] rfl
            have hD := hD.sub (ws' := [(hw, .inr (5, [.ref vr, .ref vk])), (vr, .inr (2, [.ref ar, .int (nI hd2), .int (nI L2.length)])), (ar, xI Z 600 g2), (vk, .inr (2, [.ref ak, .int (nI hd4), .int (nI sz)])), (ak, xI Z 600 g4), (hp, .inr (4, [.ref s0, .ref s1])), (s0, xI Z 121 sz1), (s1, xI Z 484 lt1)]) [5, 6, 7, 0, 1, 2, 3, 4] (by decide) rfl
            have hel := hW2.1
            rw [he, xlay_len] at hel
            refine lv_bipush (v := (-9)) hx hb dX5_stepsToPlace_35 (by decide) ?_
            refine lv_icmp_eq (tgt := 13) hx hb dX5_stepsToPlace_37 (by decide) (fun h37 => False.elim (xne9 (by omega) h37.symm)) (fun h37 => ?_)
            refine lv_iload_n hx hb dX5_stepsToPlace_40 rfl (lv_at hl 0 rfl) ?_
            exact x_iret hC hr hk hP hD hS dX5_stepsToPlace_41 (Or.inl ⟨k + 1, L2, hd2, g2, hX.hit (by omega) hst ⟨q, f1, g6, hq, he⟩, hR2, hW2, rfl, hd4, g4, rfl⟩)
          · have hP := hP.sub (ws' := [(hw, .inr (5, [.ref vr, .ref vk])), (vr, .inr (2, [.ref ar, .int (nI hd2), .int (nI L2.length)])), (ar, xI Z 600 g2), (vk, .inr (2, [.ref ak, .int (nI hd4), .int (nI sz)])), (ak, xI Z 600 g4), (hp, .inr (4, [.ref s0, .ref s1])), (s0, xI Z 121 sz1), (s1, xI Z 484 lt1)]) [5, 6, 7, 0, 1, 2, 3, 4] rfl
            have hD := hD.sub (ws' := [(hw, .inr (5, [.ref vr, .ref vk])), (vr, .inr (2, [.ref ar, .int (nI hd2), .int (nI L2.length)])), (ar, xI Z 600 g2), (vk, .inr (2, [.ref ak, .int (nI hd4), .int (nI sz)])), (ak, xI Z 600 g4), (hp, .inr (4, [.ref s0, .ref s1])), (s0, xI Z 121 sz1), (s1, xI Z 484 lt1)]) [5, 6, 7, 0, 1, 2, 3, 4] (by decide) rfl
            refine lv_bipush (v := (-9)) hx hb dX5_stepsToPlace_35 (by decide) ?_
            refine lv_icmp_eq (tgt := 13) hx hb dX5_stepsToPlace_37 (by decide) (fun h37 => ?_) (fun h37 => False.elim (h37 rfl))
            exact ih  (k + 1) hd2 L2.length g2 L2 _ _ _ (hX.go (by omega) hst hnp) hR2 rfl hW2 (by omega) hP hD hS (lv_sub hl [1, 2, 0] rfl)
  exact hloop13 ((20000 - 0) + 1) 0 hd sz g L _ _ _ (XN.beg _ _ _) hR hsz hW (Nat.lt_succ_self _) hP hD hS (lv_sub hl [1, 2, 0] rfl)

def tv (q f g o : Nat) : Nat := if o = 0 then q / 2 else if o = 1 then q % 2 else if o = 2 then f else g

set_option maxHeartbeats 4000000 in
set_option maxRecDepth 100000 in
theorem c_X5_tellPlace (l : Launch) (Z : xZ) (hw vr vk ar hd sz : Nat) (g : Nat → Nat) (L : List Nat) (hR : RR 600 hd g L) (hsz : sz = L.length) (hW : WV L) (o : Nat) (ho : o ≤ 3) : xMi l Z yX5_tellPlace vX5_tellPlace ({ frames := 4, cells := 0, slots := 0, locals := 89 } : Room) [.ref hw, .int (nI o)] [(hw, .inr (5, [.ref vr, .ref vk])), (vr, .inr (2, [.ref ar, .int (nI hd), .int (nI sz)])), (ar, xI Z 600 g)] (fun r w => (∃ q f1 g1, q < 6 ∧ L = xlay q f1 g1 ∧ r = nI (tv q f1 g1 o) ∧ w = [(hw, .inr (5, [.ref vr, .ref vk])), (vr, .inr (2, [.ref ar, .int (nI hd), .int (nI sz)])), (ar, xI Z 600 g)]) ∨ (¬ isPl L ∧ r = -9 ∧ w = [(hw, .inr (5, [.ref vr, .ref vk])), (vr, .inr (2, [.ref ar, .int (nI hd), .int (nI sz)])), (ar, xI Z 600 g)])) := by
  refine x_i (by decide) rfl (Nat.le_of_ble_eq_true rfl) ?_
  intro p e s m args below meth c ls A hC hr hk hl hP hD hS
  have hx := hC.1.1
  have hb := hC.1.2.1
  have hml := hC.1.2.2.1
  have hown : s.vm.findClass RX5 = some m.cls := hC.1.2.2.2.1
  have hts := hC.1.2.2.2.2
  have hK := hC.2.1
  have qq_292 := hts (Cond.fieldLink RX5 14 "TagTower$Word" "row" "LTagTower$LetterRow;") (List.mem_cons_of_mem _ wq_292)
  have iX5 : ∀ w ∈ wsX50, w ∈ vX5_tellPlace := fun w h => List.mem_cons_of_mem _ (wi_X5 w h)
  have qf_30 := va_Nw.use (A := args) rfl (hC.2.2.2.1.2 (RX5, 30, RX2, "size", "I", RX6) (List.mem_of_getElem? (i := 5) rfl))
  have iX2 : ∀ w ∈ wsX20, w ∈ vX5_tellPlace := fun w h => List.mem_cons_of_mem _ (wi_X2 w h)
  have hl : lv_has ls 4 [(0, .ref hw), (1, .int (nI o))] := hl
  have hP : va_P Z.1 vwCl [(hw, .inr (5, [.ref vr, .ref vk])), (vr, .inr (2, [.ref ar, .int (nI hd), .int (nI sz)])), (ar, xI Z 600 g)] s.heap := hP
  have hD : va_D A [(hw, .inr (5, [.ref vr, .ref vk])), (vr, .inr (2, [.ref ar, .int (nI hd), .int (nI sz)])), (ar, xI Z 600 g)] := hD
  have hR1 := hR.1
  have hR2 := hR.2.1
  refine lv_aload_n hx hb dX5_tellPlace_0 rfl (lv_at hl 0 rfl) ?_
  refine x_Vi (y := yX5_middle) (As := []) (wc := [(hw, .inr (5, [.ref vr, .ref vk])), (vr, .inr (2, [.ref ar, .int (nI hd), .int (nI sz)])), (ar, xI Z 600 g)]) (wr := []) hC hP hD hS (c_X5_middle l Z hw vr vk ar hd sz g L hR hsz hW) (gV wq_572 wq_569 wq_571 wq_9 wq_42) rfl kv_X5_middle rfl rfl ⟨rfl, rfl⟩ rfl hl.1 rfl ⟨Nat.le_of_ble_eq_true rfl, Nat.le_of_ble_eq_true rfl⟩ [0, 1, 2] ([] : List Nat) rfl rfl (by decide) (by decide) (by decide) rfl dX5_tellPlace_1 (fun r1 w1 H locs hw hP hD hS => ?_)
  rcases hw with ⟨q, f1, g6, hq, he, rfl, rfl⟩ | ⟨hnp, rfl, rfl⟩
  · have hP : va_P Z.1 vwCl [(hw, .inr (5, [.ref vr, .ref vk])), (vr, .inr (2, [.ref ar, .int (nI hd), .int (nI sz)])), (ar, xI Z 600 g)] H := hP
    have hD : va_D A [(hw, .inr (5, [.ref vr, .ref vk])), (vr, .inr (2, [.ref ar, .int (nI hd), .int (nI sz)])), (ar, xI Z 600 g)] := hD
    have hel := congrArg List.length he
    rw [xlay_len] at hel
    have hL6 := hW.1
    have e0 : L.getD 0 0 = 20 * q + 1 := (congrArg (fun l => List.getD l 0 0) he).trans (xlay_at (by omega))
    refine lv_istore_n (lv' := [(2, .int (nI (2 * f1 + 2))), (0, .ref hw), (1, .int (nI o))]) hx hb dX5_tellPlace_4 rfl hl (by decide) rfl (fun ls hl => ?_)
    refine lv_iload_n hx hb dX5_tellPlace_5 rfl (lv_at hl 0 rfl) ?_
    refine lv_bipush (v := (-9)) hx hb dX5_tellPlace_6 (by decide) ?_
    refine lv_icmp_ne (tgt := 14) hx hb dX5_tellPlace_8 (by decide) (fun h8 => ?_) (fun h8 => False.elim (xne9 (by omega) h8.symm))
    refine lv_aload_n hx hb dX5_tellPlace_14 rfl (lv_at hl 1 rfl) ?_
    refine va_get (D := Z.1) (ci := 5) (v := .ref vr) (C := RX5) (T := TX5) (N := 2) hx hb hts iX5 hown hK hP 0 rfl rfl 0 (Nat.le_of_ble_eq_true rfl) qq_292 (fun _ h9 => h9) rfl dX5_tellPlace_15 ?_
    refine ln_const 0 hx hb dX5_tellPlace_18 (by decide) ?_
    refine x_Vi (y := yX2_get) (As := [.int (nI 0)]) (wc := [(vr, .inr (2, [.ref ar, .int (nI hd), .int (nI sz)])), (ar, xI Z 600 g)]) (wr := [(hw, .inr (5, [.ref vr, .ref vk]))]) hC hP hD hS (c_X2_get_in l Z vr ar 600 hd sz g L (by omega) hR hsz 0 (by omega)) (gV wq_524 wq_542 wq_522 wq_523 wq_43) rfl kv_X2_get rfl rfl ⟨rfl, rfl⟩ rfl hl.1 rfl ⟨Nat.le_of_ble_eq_true rfl, Nat.le_of_ble_eq_true rfl⟩ [1, 2] [0] rfl rfl (by decide) (by decide) (by decide) rfl dX5_tellPlace_19 (fun r19 w1 H locs hw hP hD hS => ?_)
    obtain ⟨rfl, rfl⟩ := hw
    have hP : va_P Z.1 vwCl [(hw, .inr (5, [.ref vr, .ref vk])), (vr, .inr (2, [.ref ar, .int (nI hd), .int (nI sz)])), (ar, xI Z 600 g)] H := hP
    have hD : va_D A [(hw, .inr (5, [.ref vr, .ref vk])), (vr, .inr (2, [.ref ar, .int (nI hd), .int (nI sz)])), (ar, xI Z 600 g)] := hD
    refine ln_bipush 20 hx hb dX5_tellPlace_22 (by decide) ?_
    refine ln_idiv ((L.getD 0 0) / 20) hx hb dX5_tellPlace_24 (by omega) (by omega) (by omega) (by first | rfl | omega) ?_
    refine lv_istore_n (lv' := [(3, .int (nI ((L.getD 0 0) / 20))), (2, .int (nI (2 * f1 + 2))), (0, .ref hw), (1, .int (nI o))]) hx hb dX5_tellPlace_25 rfl hl (by decide) rfl (fun ls hl => ?_)
    refine lv_iload_n hx hb dX5_tellPlace_26 rfl (lv_at hl 3 rfl) ?_
    rcases (show o = 0 ∨ o = 1 ∨ o = 2 ∨ o = 3 by omega) with rfl | rfl | rfl | rfl
    · refine lv_tableIn (off := 25) (tgt := 52) hx hb dX5_tellPlace_27 (by decide) (by decide) (by decide) (by decide) ?_
      refine lv_iload_n hx hb dX5_tellPlace_52 rfl (lv_at hl 0 rfl) ?_
      refine ln_const 2 hx hb dX5_tellPlace_53 (by decide) ?_
      refine ln_idiv (((L.getD 0 0) / 20) / 2) hx hb dX5_tellPlace_54 (by omega) (by omega) (by omega) (by first | rfl | omega) ?_
      exact x_iret hC hr hk hP hD hS dX5_tellPlace_55 (Or.inl ⟨q, f1, g6, hq, he, by rw [show tv q f1 g6 0 = q / 2 from rfl, show L.getD 0 0 / 20 / 2 = q / 2 by omega], rfl⟩)
    · refine lv_tableIn (off := 29) (tgt := 56) hx hb dX5_tellPlace_27 (by decide) (by decide) (by decide) (by decide) ?_
      refine lv_iload_n hx hb dX5_tellPlace_56 rfl (lv_at hl 0 rfl) ?_
      refine ln_const 2 hx hb dX5_tellPlace_57 (by decide) ?_
      refine ln_irem (((L.getD 0 0) / 20) % 2) hx hb dX5_tellPlace_58 (by omega) (by omega) (by omega) (by first | rfl | omega) ?_
      exact x_iret hC hr hk hP hD hS dX5_tellPlace_59 (Or.inl ⟨q, f1, g6, hq, he, by rw [show tv q f1 g6 1 = q % 2 from rfl, show L.getD 0 0 / 20 % 2 = q % 2 by omega], rfl⟩)
    · refine lv_tableIn (off := 33) (tgt := 60) hx hb dX5_tellPlace_27 (by decide) (by decide) (by decide) (by decide) ?_
      refine lv_iload_n hx hb dX5_tellPlace_60 rfl (lv_at hl 1 rfl) ?_
      refine ln_const 2 hx hb dX5_tellPlace_61 (by decide) ?_
      refine ln_isub ((2 * f1 + 2) - 2) hx hb dX5_tellPlace_62 (by omega) (by first | rfl | omega) ?_
      refine ln_const 2 hx hb dX5_tellPlace_63 (by decide) ?_
      refine ln_idiv (((2 * f1 + 2) - 2) / 2) hx hb dX5_tellPlace_64 (by omega) (by omega) (by omega) (by first | rfl | omega) ?_
      exact x_iret hC hr hk hP hD hS dX5_tellPlace_65 (Or.inl ⟨q, f1, g6, hq, he, by rw [show tv q f1 g6 2 = f1 from rfl, show (2 * f1 + 2 - 2) / 2 = f1 by omega], rfl⟩)
    · refine lv_tableOut (tgt := 66) hx hb dX5_tellPlace_27 (by decide) (by decide) ?_
      refine lv_aload_n hx hb dX5_tellPlace_66 rfl (lv_at hl 2 rfl) ?_
      refine va_get (D := Z.1) (ci := 5) (v := .ref vr) (C := RX5) (T := TX5) (N := 2) hx hb hts iX5 hown hK hP 0 rfl rfl 0 (Nat.le_of_ble_eq_true rfl) qq_292 (fun _ h9 => h9) rfl dX5_tellPlace_67 ?_
      refine va_getN (D := Z.1) (ci := 2) (v := .int (nI sz)) (C := RX2) (T := TX2) (N := 3) hx hb hts iX2 hown hK hP 1 rfl rfl 2 (Nat.le_of_ble_eq_true rfl) qf_30 (fun _ h9 => h9) rfl dX5_tellPlace_70 ?_
      refine lv_iload_n hx hb dX5_tellPlace_73 rfl (lv_at hl 1 rfl) ?_
      refine ln_isub (sz - (2 * f1 + 2)) hx hb dX5_tellPlace_74 (by omega) (by first | rfl | omega) ?_
      refine ln_const 2 hx hb dX5_tellPlace_75 (by decide) ?_
      refine ln_isub ((sz - (2 * f1 + 2)) - 2) hx hb dX5_tellPlace_76 (by omega) (by first | rfl | omega) ?_
      refine ln_const 2 hx hb dX5_tellPlace_77 (by decide) ?_
      refine ln_idiv (((sz - (2 * f1 + 2)) - 2) / 2) hx hb dX5_tellPlace_78 (by omega) (by omega) (by omega) (by first | rfl | omega) ?_
      exact x_iret hC hr hk hP hD hS dX5_tellPlace_79 (Or.inl ⟨q, f1, g6, hq, he, by rw [show tv q f1 g6 3 = g6 from rfl, show (sz - (2 * f1 + 2) - 2) / 2 = g6 by omega], rfl⟩)
  · have hP : va_P Z.1 vwCl [(hw, .inr (5, [.ref vr, .ref vk])), (vr, .inr (2, [.ref ar, .int (nI hd), .int (nI sz)])), (ar, xI Z 600 g)] H := hP
    have hD : va_D A [(hw, .inr (5, [.ref vr, .ref vk])), (vr, .inr (2, [.ref ar, .int (nI hd), .int (nI sz)])), (ar, xI Z 600 g)] := hD
    refine lv_istore_n (lv' := [(2, .int ((-9))), (0, .ref hw), (1, .int (nI o))]) hx hb dX5_tellPlace_4 rfl hl (by decide) rfl (fun ls hl => ?_)
    refine lv_iload_n hx hb dX5_tellPlace_5 rfl (lv_at hl 0 rfl) ?_
    refine lv_bipush (v := (-9)) hx hb dX5_tellPlace_6 (by decide) ?_
    refine lv_icmp_ne (tgt := 14) hx hb dX5_tellPlace_8 (by decide) (fun h8 => False.elim (h8 rfl)) (fun h8 => ?_)
    refine lv_bipush (v := (-9)) hx hb dX5_tellPlace_11 (by decide) ?_
    exact x_iret hC hr hk hP hD hS dX5_tellPlace_13 (Or.inr ⟨hnp, rfl, rfl⟩)
