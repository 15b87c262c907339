section XNEW
variable {p : Program} {l : Launch} {e : Env} {R : Room} {s : State} {m : MethodId} {args : Array Value} {below : List Frame} {meth : Method} {c : Code} {H : Heap} {locs : List Loc} {cells slots : Nat} {Q : State → Prop}
variable {cc : ByteArray} {pc : Nat} {ls : Array Slot} {rest : List Value} {Z : xZ} {A : Nat → Prop} {ws : va_W}
theorem ln_newI {N : Nat} (hx : p.tables.exec = Jvm.exec) (hb : c.code = cc) (harr : (Cond.arrayClass .int).before args s = true) (hK : va_K Z.1 vwCl (xty Z) s) (hP : va_P Z.1 vwCl ws H) (hD : va_D A ws) (hS : va_S A s.heap H locs) (hA : ∀ q, s.heap.size ≤ q → A q) (hN : N < 1000000) (hcells : cells + 1 ≤ R.cells) (hslots : slots + N ≤ R.slots) (hdg : decode cc pc = .ok (.newarray .int, 2))
    (kk : ∀ (q : Nat) (H1 : Heap), va_P Z.1 vwCl (ws ++ [(q, xI Z N (fun _ => 0))]) H1 → va_D A (ws ++ [(q, xI Z N (fun _ => 0))]) → va_S A s.heap H1 locs → W p l e R s m args below meth c H1 locs (cells + 1) (slots + N) Q (F0 m (pc + 2) ls (.ref q :: rest))) : W p l e R s m args below meth c H locs cells slots Q (F0 m pc ls (.int (nI N) :: rest)) := by
  have hcb : N * componentBytes .int ≤ 536870912 := by
    have h4 := Nat.mul_le_mul_left N (show componentBytes .int ≤ 4 by decide)
    omega
  refine va_newa (atype := .int) (ty := .int) (N' := N) (a0 := (N, .inl (fun _ => nI 0))) hx hb harr rfl hK hP hD hS hA (fun cA => rfl) (nI_pos (by omega)) (nI_clamp (by omega)) hcb hcells hslots hdg (fun q cA H1 hK1 hP1 hD1 hS1 => ?_)
  have e1 := va_nm_int (hK1.2 2 (cA, .int) rfl).2
  have e2 := va_nm_int (hK.2 0 _ rfl).2
  have e3 : cA = Z.2.2.1 := Option.some.inj (e1.symm.trans e2)
  subst e3
  exact kk q H1 hP1 hD1 hS1
theorem ln_newZ {N : Nat} (hx : p.tables.exec = Jvm.exec) (hb : c.code = cc) (harr : (Cond.arrayClass .boolean).before args s = true) (hK : va_K Z.1 vwCl (xty Z) s) (hP : va_P Z.1 vwCl ws H) (hD : va_D A ws) (hS : va_S A s.heap H locs) (hA : ∀ q, s.heap.size ≤ q → A q) (hN : N < 1000000) (hcells : cells + 1 ≤ R.cells) (hslots : slots + N ≤ R.slots) (hdg : decode cc pc = .ok (.newarray .boolean, 2))
    (kk : ∀ (q : Nat) (H1 : Heap), va_P Z.1 vwCl (ws ++ [(q, xO Z N (fun _ => 0))]) H1 → va_D A (ws ++ [(q, xO Z N (fun _ => 0))]) → va_S A s.heap H1 locs → W p l e R s m args below meth c H1 locs (cells + 1) (slots + N) Q (F0 m (pc + 2) ls (.ref q :: rest))) : W p l e R s m args below meth c H locs cells slots Q (F0 m pc ls (.int (nI N) :: rest)) := by
  have hcb : N * componentBytes .boolean ≤ 536870912 := by
    have h4 := Nat.mul_le_mul_left N (show componentBytes .boolean ≤ 4 by decide)
    omega
  refine va_newa (atype := .boolean) (ty := .boolean) (N' := N) (a0 := (N, .inl (fun _ => nI 0))) hx hb harr rfl hK hP hD hS hA (fun cA => rfl) (nI_pos (by omega)) (nI_clamp (by omega)) hcb hcells hslots hdg (fun q cA H1 hK1 hP1 hD1 hS1 => ?_)
  have e1 := va_nm_boolean (hK1.2 2 (cA, .boolean) rfl).2
  have e2 := va_nm_boolean (hK.2 1 _ rfl).2
  have e3 : cA = Z.2.2.2 := Option.some.inj (e1.symm.trans e2)
  subst e3
  exact kk q H1 hP1 hD1 hS1
end XNEW

theorem va_up_const {α : Type} (x : α) (q : Nat) : va_up (fun _ => x) q x = fun _ => x := by
  funext j
  unfold va_up
  split <;> rfl
theorem TR_0 : TR (fun _ => []) (fun _ => 0) (fun _ => 0) := fun c _ => ⟨rfl, Nat.zero_le _, fun j hj => absurd hj (Nat.not_lt_zero _)⟩
theorem MR_0 : MR (fun _ => none) (fun _ => 0) (fun _ => 0) (fun _ => 0) (fun _ => 0) := ⟨fun q _ _ => rfl, fun q z _ hz => by cases hz⟩
theorem lnone_0 {q : Nat} (hq : q < 6) (T : Nat → List Nat) : LT q T (lnone q) 0 = [] := by
  unfold LT
  rw [if_pos rfl, lnone_ok hq (by decide)]
  rfl
theorem tr_none {k : Nat} (hk : k < 6) {T : Nat → List Nat} (h : ∀ c, c < 121 → c ≤ k * 20 → T c = xprod (fun _ => none) c) : ∀ c, c < 121 → c ≤ (k + 1) * 20 → LT k T (lnone k) c = xprod (fun _ => none) c := by
  intro c hc hk2
  rw [LT_none (R := fun _ => none) hk (fun hn => h c hc (by omega)), va_up_const]
/-- the state at first -/
def xS0 : xS := ((fun _ => 0, 0), (0, fun _ => 0, fun _ => 0, fun _ => 0, fun _ => 0), fun _ => none, (0, 0, 0, 0), [], ([], 0))
theorem SV_0 : SV xS0 := by
  refine ⟨⟨Nat.zero_le _, fun j hj => absurd hj (Nat.not_lt_zero _), fun j hj => Nat.zero_le _, Nat.zero_le _⟩, ?_, ?_, WV.nil, BV.lay WV.nil⟩
  · intro q z h
    exact nomatch (show (none : Option (Nat × Nat × Nat)) = some z from h)
  · exact ⟨by decide, by decide, Nat.zero_le _, Nat.zero_le _⟩

set_option maxHeartbeats 4000000 in
set_option maxRecDepth 100000 in
theorem c_X2_init (l : Launch) (Z : xZ) (h N : Nat) (hN : N ≤ 1000) : xMv l Z yX2_init vX2_init ({ frames := 1, cells := 1, slots := N, locals := 16 } : Room) [.ref h, .int (nI N)] [(h, .inr (2, [.null, .int (nI 0), .int (nI 0)]))] (fun w => ∃ q, w = [(h, .inr (2, [.ref q, .int (nI 0), .int (nI 0)])), (q, xI Z N ((fun _ => 0)))]) := by
  refine x_v (by decide) rfl (Nat.le_of_ble_eq_true rfl) ?_
  intro p e s m args below meth c ls A hC hr hk hname hl hP hD hS
  have hx := hC.1.1
  have hb := hC.1.2.1
  have hml := hC.1.2.2.1
  have hown : s.vm.findClass RX2 = some m.cls := hC.1.2.2.2.1
  have hts := hC.1.2.2.2.2
  have hK := hC.2.1
  have qq_277 := hts (Cond.methodLink RX2 3 objectInit) (List.mem_cons_of_mem _ wq_277)
  have qq_52 := hts (Cond.instanceMethod objectInit) (List.mem_cons_of_mem _ wq_52)
  have qq_53 := hts (Cond.code objectInit ⟨#[0xb1]⟩ 1 none) (List.mem_cons_of_mem _ wq_53)
  have qq_278 := hts (Cond.methodLink RX2 9 Lib.Math.max.name) (List.mem_cons_of_mem _ wq_278)
  have qq_202 := hts (Cond.static Lib.Math.max.name) (List.mem_cons_of_mem _ wq_202)
  have qq_40 := hts (Cond.initialized "java/lang/Math") (List.mem_cons_of_mem _ wq_40)
  have qq_203 := hts (Cond.code Lib.Math.max.name Lib.Math.max.code 2 (some .int)) (List.mem_cons_of_mem _ wq_203)
  have qq_82 := hts (Cond.arrayClass .int) (List.mem_cons_of_mem _ wq_82)
  have qq_279 := hts (Cond.fieldLink RX2 15 "TagTower$LetterRow" "cells" "[I") (List.mem_cons_of_mem _ wq_279)
  have iX2 : ∀ w ∈ wsX20, w ∈ vX2_init := fun w h => List.mem_cons_of_mem _ (wi_X2 w h)
  have hl : lv_has ls 2 [(0, .ref h), (1, .int (nI N))] := hl
  have hP : va_P Z.1 vwCl [(h, .inr (2, [.null, .int (nI 0), .int (nI 0)]))] s.heap := hP
  have hD : va_D A [(h, .inr (2, [.null, .int (nI 0), .int (nI 0)]))] := hD
  refine lv_aload_n hx hb dX2_init_0 rfl (lv_at hl 0 rfl) ?_
  refine W.objInit hx hb hown qq_277 qq_52 qq_53 rfl (by rw [hml]; exact hl.1) rfl dX2_init_1 (Nat.le_of_ble_eq_true rfl) (Nat.le_of_ble_eq_true rfl) ?_
  refine W.eq (g2 := F0 m 4 ls []) rfl ?_
  refine lv_aload_n hx hb dX2_init_4 rfl (lv_at hl 0 rfl) ?_
  refine lv_iload_n hx hb dX2_init_5 rfl (lv_at hl 1 rfl) ?_
  refine ln_const 0 hx hb dX2_init_6 (by decide) ?_
  refine va_mmax hx hb (by rw [hml]; exact hl.1.symm) hown qq_278 qq_202 qq_40 qq_203 (Nat.le_of_ble_eq_true rfl) (Nat.le_of_ble_eq_true rfl) (Nat.le_of_ble_eq_true rfl) (Nat.le_of_ble_eq_true rfl) dX2_init_7 ?_
  refine ln_top (y := nI N) (by rw [if_neg (nI_nlt (Nat.zero_le N) (by omega))]) ?_
  refine ln_newI (N := N) hx hb qq_82 hK hP hD hS hC.2.2.1 (by omega) (Nat.le_of_ble_eq_true rfl) (by show 0 + N ≤ N; omega) dX2_init_10 (fun q H hP hD hS => ?_)
  have hP : va_P Z.1 vwCl [(h, .inr (2, [.null, .int (nI 0), .int (nI 0)])), (q, xI Z N ((fun _ => 0)))] H := hP
  have hD : va_D A [(h, .inr (2, [.null, .int (nI 0), .int (nI 0)])), (q, xI Z N ((fun _ => 0)))] := hD
  refine va_putF (D := Z.1) (ci := 2) (v := .ref q) (ty := tyX2 0) (C := RX2) (T := TX2) (N := 3) hx hb hts iX2 tyX2 tyX2_ok nmX2 hown hK hP hD hS 0 rfl rfl 0 (Nat.le_of_ble_eq_true rfl) qq_279 (fun _ h9 => h9) rfl hname rfl (tyX2_ok 0 (Nat.le_of_ble_eq_true rfl)) rfl rfl (Nat.le_of_ble_eq_true rfl) dX2_init_12 (fun H locs hP hD hS => ?_)
  have hP : va_P Z.1 vwCl [(h, .inr (2, [.ref q, .int (nI 0), .int (nI 0)])), (q, xI Z N ((fun _ => 0)))] H := hP
  have hD : va_D A [(h, .inr (2, [.ref q, .int (nI 0), .int (nI 0)])), (q, xI Z N ((fun _ => 0)))] := hD
  refine W.widen (k := 1) (n := N) (by omega) (by omega) ?_
  exact x_vret hC hr hk hP hD hS dX2_init_15 ⟨q, rfl⟩

set_option maxHeartbeats 4000000 in
set_option maxRecDepth 100000 in
theorem c_X1_init (l : Launch) (Z : xZ) (hc : Nat) : xMv l Z yX1_init vX1_init ({ frames := 1, cells := 5, slots := 100, locals := 12 } : Room) [.ref hc] [(hc, .inr (1, [.null, .null, .null, .null, .null, .int (nI 0), .int (nI 0)]))] (fun w => ∃ b0 b1 b2 b3 b4, w = [(hc, .inr (1, [.ref b0, .ref b1, .ref b2, .ref b3, .ref b4, .int (nI 0), .int (nI 0)])), (b0, xI Z 4 ((fun _ => 0))), (b1, xI Z 24 ((fun _ => 0))), (b2, xI Z 24 ((fun _ => 0))), (b3, xI Z 24 ((fun _ => 0))), (b4, xI Z 24 ((fun _ => 0)))]) := by
  refine x_v (by decide) rfl (Nat.le_of_ble_eq_true rfl) ?_
  intro p e s m args below meth c ls A hC hr hk hname hl hP hD hS
  have hx := hC.1.1
  have hb := hC.1.2.1
  have hml := hC.1.2.2.1
  have hown : s.vm.findClass RX1 = some m.cls := hC.1.2.2.2.1
  have hts := hC.1.2.2.2.2
  have hK := hC.2.1
  have qq_59 := hts (Cond.methodLink RX1 3 objectInit) (List.mem_cons_of_mem _ wq_59)
  have qq_52 := hts (Cond.instanceMethod objectInit) (List.mem_cons_of_mem _ wq_52)
  have qq_53 := hts (Cond.code objectInit ⟨#[0xb1]⟩ 1 none) (List.mem_cons_of_mem _ wq_53)
  have qq_82 := hts (Cond.arrayClass .int) (List.mem_cons_of_mem _ wq_82)
  have qq_60 := hts (Cond.fieldLink RX1 9 "TagTower$Counters" "values" "[I") (List.mem_cons_of_mem _ wq_60)
  have iX1 : ∀ w ∈ wsX10, w ∈ vX1_init := fun w h => List.mem_cons_of_mem _ (wi_X1 w h)
  have qq_61 := hts (Cond.fieldLink RX1 15 "TagTower$Counters" "ops" "[I") (List.mem_cons_of_mem _ wq_61)
  have qq_62 := hts (Cond.fieldLink RX1 18 "TagTower$Counters" "worked" "[I") (List.mem_cons_of_mem _ wq_62)
  have qq_63 := hts (Cond.fieldLink RX1 21 "TagTower$Counters" "onward" "[I") (List.mem_cons_of_mem _ wq_63)
  have qq_64 := hts (Cond.fieldLink RX1 24 "TagTower$Counters" "ifZero" "[I") (List.mem_cons_of_mem _ wq_64)
  have hl : lv_has ls 1 [(0, .ref hc)] := hl
  have hP : va_P Z.1 vwCl [(hc, .inr (1, [.null, .null, .null, .null, .null, .int (nI 0), .int (nI 0)]))] s.heap := hP
  have hD : va_D A [(hc, .inr (1, [.null, .null, .null, .null, .null, .int (nI 0), .int (nI 0)]))] := hD
  refine lv_aload_n hx hb dX1_init_0 rfl (lv_at hl 0 rfl) ?_
  refine W.objInit hx hb hown qq_59 qq_52 qq_53 rfl (by rw [hml]; exact hl.1) rfl dX1_init_1 (Nat.le_of_ble_eq_true rfl) (Nat.le_of_ble_eq_true rfl) ?_
  refine W.eq (g2 := F0 m 4 ls []) rfl ?_
  refine lv_aload_n hx hb dX1_init_4 rfl (lv_at hl 0 rfl) ?_
  refine ln_const 4 hx hb dX1_init_5 (by decide) ?_
  refine ln_newI (N := 4) hx hb qq_82 hK hP hD hS hC.2.2.1 (by decide) (Nat.le_of_ble_eq_true rfl) (Nat.le_of_ble_eq_true rfl) dX1_init_6 (fun b0 H hP hD hS => ?_)
  have hP : va_P Z.1 vwCl [(hc, .inr (1, [.null, .null, .null, .null, .null, .int (nI 0), .int (nI 0)])), (b0, xI Z 4 ((fun _ => 0)))] H := hP
  have hD : va_D A [(hc, .inr (1, [.null, .null, .null, .null, .null, .int (nI 0), .int (nI 0)])), (b0, xI Z 4 ((fun _ => 0)))] := hD
  refine va_putF (D := Z.1) (ci := 1) (v := .ref b0) (ty := tyX1 0) (C := RX1) (T := TX1) (N := 7) hx hb hts iX1 tyX1 tyX1_ok nmX1 hown hK hP hD hS 0 rfl rfl 0 (Nat.le_of_ble_eq_true rfl) qq_60 (fun _ h9 => h9) rfl hname rfl (tyX1_ok 0 (Nat.le_of_ble_eq_true rfl)) rfl rfl (Nat.le_of_ble_eq_true rfl) dX1_init_8 (fun H locs hP hD hS => ?_)
  have hP : va_P Z.1 vwCl [(hc, .inr (1, [.ref b0, .null, .null, .null, .null, .int (nI 0), .int (nI 0)])), (b0, xI Z 4 ((fun _ => 0)))] H := hP
  have hD : va_D A [(hc, .inr (1, [.ref b0, .null, .null, .null, .null, .int (nI 0), .int (nI 0)])), (b0, xI Z 4 ((fun _ => 0)))] := hD
  refine lv_aload_n hx hb dX1_init_11 rfl (lv_at hl 0 rfl) ?_
  refine ln_bipush 24 hx hb dX1_init_12 (by decide) ?_
  refine ln_newI (N := 24) hx hb qq_82 hK hP hD hS hC.2.2.1 (by decide) (Nat.le_of_ble_eq_true rfl) (Nat.le_of_ble_eq_true rfl) dX1_init_14 (fun b1 H hP hD hS => ?_)
  have hP : va_P Z.1 vwCl [(hc, .inr (1, [.ref b0, .null, .null, .null, .null, .int (nI 0), .int (nI 0)])), (b0, xI Z 4 ((fun _ => 0))), (b1, xI Z 24 ((fun _ => 0)))] H := hP
  have hD : va_D A [(hc, .inr (1, [.ref b0, .null, .null, .null, .null, .int (nI 0), .int (nI 0)])), (b0, xI Z 4 ((fun _ => 0))), (b1, xI Z 24 ((fun _ => 0)))] := hD
  refine va_putF (D := Z.1) (ci := 1) (v := .ref b1) (ty := tyX1 1) (C := RX1) (T := TX1) (N := 7) hx hb hts iX1 tyX1 tyX1_ok nmX1 hown hK hP hD hS 0 rfl rfl 1 (Nat.le_of_ble_eq_true rfl) qq_61 (fun _ h9 => h9) rfl hname rfl (tyX1_ok 1 (Nat.le_of_ble_eq_true rfl)) rfl rfl (Nat.le_of_ble_eq_true rfl) dX1_init_16 (fun H locs hP hD hS => ?_)
  have hP : va_P Z.1 vwCl [(hc, .inr (1, [.ref b0, .ref b1, .null, .null, .null, .int (nI 0), .int (nI 0)])), (b0, xI Z 4 ((fun _ => 0))), (b1, xI Z 24 ((fun _ => 0)))] H := hP
  have hD : va_D A [(hc, .inr (1, [.ref b0, .ref b1, .null, .null, .null, .int (nI 0), .int (nI 0)])), (b0, xI Z 4 ((fun _ => 0))), (b1, xI Z 24 ((fun _ => 0)))] := hD
  refine lv_aload_n hx hb dX1_init_19 rfl (lv_at hl 0 rfl) ?_
  refine ln_bipush 24 hx hb dX1_init_20 (by decide) ?_
  refine ln_newI (N := 24) hx hb qq_82 hK hP hD hS hC.2.2.1 (by decide) (Nat.le_of_ble_eq_true rfl) (Nat.le_of_ble_eq_true rfl) dX1_init_22 (fun b2 H hP hD hS => ?_)
  have hP : va_P Z.1 vwCl [(hc, .inr (1, [.ref b0, .ref b1, .null, .null, .null, .int (nI 0), .int (nI 0)])), (b0, xI Z 4 ((fun _ => 0))), (b1, xI Z 24 ((fun _ => 0))), (b2, xI Z 24 ((fun _ => 0)))] H := hP
  have hD : va_D A [(hc, .inr (1, [.ref b0, .ref b1, .null, .null, .null, .int (nI 0), .int (nI 0)])), (b0, xI Z 4 ((fun _ => 0))), (b1, xI Z 24 ((fun _ => 0))), (b2, xI Z 24 ((fun _ => 0)))] := hD
  refine va_putF (D := Z.1) (ci := 1) (v := .ref b2) (ty := tyX1 2) (C := RX1) (T := TX1) (N := 7) hx hb hts iX1 tyX1 tyX1_ok nmX1 hown hK hP hD hS 0 rfl rfl 2 (Nat.le_of_ble_eq_true rfl) qq_62 (fun _ h9 => h9) rfl hname rfl (tyX1_ok 2 (Nat.le_of_ble_eq_true rfl)) rfl rfl (Nat.le_of_ble_eq_true rfl) dX1_init_24 (fun H locs hP hD hS => ?_)
  have hP : va_P Z.1 vwCl [(hc, .inr (1, [.ref b0, .ref b1, .ref b2, .null, .null, .int (nI 0), .int (nI 0)])), (b0, xI Z 4 ((fun _ => 0))), (b1, xI Z 24 ((fun _ => 0))), (b2, xI Z 24 ((fun _ => 0)))] H := hP
  have hD : va_D A [(hc, .inr (1, [.ref b0, .ref b1, .ref b2, .null, .null, .int (nI 0), .int (nI 0)])), (b0, xI Z 4 ((fun _ => 0))), (b1, xI Z 24 ((fun _ => 0))), (b2, xI Z 24 ((fun _ => 0)))] := hD
  refine lv_aload_n hx hb dX1_init_27 rfl (lv_at hl 0 rfl) ?_
  refine ln_bipush 24 hx hb dX1_init_28 (by decide) ?_
  refine ln_newI (N := 24) hx hb qq_82 hK hP hD hS hC.2.2.1 (by decide) (Nat.le_of_ble_eq_true rfl) (Nat.le_of_ble_eq_true rfl) dX1_init_30 (fun b3 H hP hD hS => ?_)
  have hP : va_P Z.1 vwCl [(hc, .inr (1, [.ref b0, .ref b1, .ref b2, .null, .null, .int (nI 0), .int (nI 0)])), (b0, xI Z 4 ((fun _ => 0))), (b1, xI Z 24 ((fun _ => 0))), (b2, xI Z 24 ((fun _ => 0))), (b3, xI Z 24 ((fun _ => 0)))] H := hP
  have hD : va_D A [(hc, .inr (1, [.ref b0, .ref b1, .ref b2, .null, .null, .int (nI 0), .int (nI 0)])), (b0, xI Z 4 ((fun _ => 0))), (b1, xI Z 24 ((fun _ => 0))), (b2, xI Z 24 ((fun _ => 0))), (b3, xI Z 24 ((fun _ => 0)))] := hD
  refine va_putF (D := Z.1) (ci := 1) (v := .ref b3) (ty := tyX1 3) (C := RX1) (T := TX1) (N := 7) hx hb hts iX1 tyX1 tyX1_ok nmX1 hown hK hP hD hS 0 rfl rfl 3 (Nat.le_of_ble_eq_true rfl) qq_63 (fun _ h9 => h9) rfl hname rfl (tyX1_ok 3 (Nat.le_of_ble_eq_true rfl)) rfl rfl (Nat.le_of_ble_eq_true rfl) dX1_init_32 (fun H locs hP hD hS => ?_)
  have hP : va_P Z.1 vwCl [(hc, .inr (1, [.ref b0, .ref b1, .ref b2, .ref b3, .null, .int (nI 0), .int (nI 0)])), (b0, xI Z 4 ((fun _ => 0))), (b1, xI Z 24 ((fun _ => 0))), (b2, xI Z 24 ((fun _ => 0))), (b3, xI Z 24 ((fun _ => 0)))] H := hP
  have hD : va_D A [(hc, .inr (1, [.ref b0, .ref b1, .ref b2, .ref b3, .null, .int (nI 0), .int (nI 0)])), (b0, xI Z 4 ((fun _ => 0))), (b1, xI Z 24 ((fun _ => 0))), (b2, xI Z 24 ((fun _ => 0))), (b3, xI Z 24 ((fun _ => 0)))] := hD
  refine lv_aload_n hx hb dX1_init_35 rfl (lv_at hl 0 rfl) ?_
  refine ln_bipush 24 hx hb dX1_init_36 (by decide) ?_
  refine ln_newI (N := 24) hx hb qq_82 hK hP hD hS hC.2.2.1 (by decide) (Nat.le_of_ble_eq_true rfl) (Nat.le_of_ble_eq_true rfl) dX1_init_38 (fun b4 H hP hD hS => ?_)
  have hP : va_P Z.1 vwCl [(hc, .inr (1, [.ref b0, .ref b1, .ref b2, .ref b3, .null, .int (nI 0), .int (nI 0)])), (b0, xI Z 4 ((fun _ => 0))), (b1, xI Z 24 ((fun _ => 0))), (b2, xI Z 24 ((fun _ => 0))), (b3, xI Z 24 ((fun _ => 0))), (b4, xI Z 24 ((fun _ => 0)))] H := hP
  have hD : va_D A [(hc, .inr (1, [.ref b0, .ref b1, .ref b2, .ref b3, .null, .int (nI 0), .int (nI 0)])), (b0, xI Z 4 ((fun _ => 0))), (b1, xI Z 24 ((fun _ => 0))), (b2, xI Z 24 ((fun _ => 0))), (b3, xI Z 24 ((fun _ => 0))), (b4, xI Z 24 ((fun _ => 0)))] := hD
  refine va_putF (D := Z.1) (ci := 1) (v := .ref b4) (ty := tyX1 4) (C := RX1) (T := TX1) (N := 7) hx hb hts iX1 tyX1 tyX1_ok nmX1 hown hK hP hD hS 0 rfl rfl 4 (Nat.le_of_ble_eq_true rfl) qq_64 (fun _ h9 => h9) rfl hname rfl (tyX1_ok 4 (Nat.le_of_ble_eq_true rfl)) rfl rfl (Nat.le_of_ble_eq_true rfl) dX1_init_40 (fun H locs hP hD hS => ?_)
  have hP : va_P Z.1 vwCl [(hc, .inr (1, [.ref b0, .ref b1, .ref b2, .ref b3, .ref b4, .int (nI 0), .int (nI 0)])), (b0, xI Z 4 ((fun _ => 0))), (b1, xI Z 24 ((fun _ => 0))), (b2, xI Z 24 ((fun _ => 0))), (b3, xI Z 24 ((fun _ => 0))), (b4, xI Z 24 ((fun _ => 0)))] H := hP
  have hD : va_D A [(hc, .inr (1, [.ref b0, .ref b1, .ref b2, .ref b3, .ref b4, .int (nI 0), .int (nI 0)])), (b0, xI Z 4 ((fun _ => 0))), (b1, xI Z 24 ((fun _ => 0))), (b2, xI Z 24 ((fun _ => 0))), (b3, xI Z 24 ((fun _ => 0))), (b4, xI Z 24 ((fun _ => 0)))] := hD
  refine W.widen (k := 5) (n := 100) (Nat.le_of_ble_eq_true rfl) (Nat.le_of_ble_eq_true rfl) ?_
  exact x_vret hC hr hk hP hD hS dX1_init_43 ⟨b0, b1, b2, b3, b4, rfl⟩

set_option maxHeartbeats 4000000 in
set_option maxRecDepth 100000 in
theorem c_X3_init (l : Launch) (Z : xZ) (hm : Nat) : xMv l Z yX3_init vX3_init ({ frames := 1, cells := 4, slots := 24, locals := 12 } : Room) [.ref hm] [(hm, .inr (3, [.null, .null, .null, .null, .int (nI 0), .int (nI 0), .int (nI 0), .int (nI 0), .int (nI 0)]))] (fun w => ∃ a0 a1 a2 a3, w = [(hm, .inr (3, [.ref a0, .ref a1, .ref a2, .ref a3, .int (nI 0), .int (nI 0), .int (nI 0), .int (nI 0), .int (nI 0)])), (a0, xO Z 6 ((fun _ => 0))), (a1, xI Z 6 ((fun _ => 0))), (a2, xI Z 6 ((fun _ => 0))), (a3, xI Z 6 ((fun _ => 0)))]) := by
  refine x_v (by decide) rfl (Nat.le_of_ble_eq_true rfl) ?_
  intro p e s m args below meth c ls A hC hr hk hname hl hP hD hS
  have hx := hC.1.1
  have hb := hC.1.2.1
  have hml := hC.1.2.2.1
  have hown : s.vm.findClass RX3 = some m.cls := hC.1.2.2.2.1
  have hts := hC.1.2.2.2.2
  have hK := hC.2.1
  have qq_88 := hts (Cond.methodLink RX3 3 objectInit) (List.mem_cons_of_mem _ wq_88)
  have qq_52 := hts (Cond.instanceMethod objectInit) (List.mem_cons_of_mem _ wq_52)
  have qq_53 := hts (Cond.code objectInit ⟨#[0xb1]⟩ 1 none) (List.mem_cons_of_mem _ wq_53)
  have qq_121 := hts (Cond.arrayClass .boolean) (List.mem_cons_of_mem _ wq_121)
  have qq_89 := hts (Cond.fieldLink RX3 9 "TagTower$Machine" "ruled" "[Z") (List.mem_cons_of_mem _ wq_89)
  have iX3 : ∀ w ∈ wsX30, w ∈ vX3_init := fun w h => List.mem_cons_of_mem _ (wi_X3 w h)
  have qq_82 := hts (Cond.arrayClass .int) (List.mem_cons_of_mem _ wq_82)
  have qq_90 := hts (Cond.fieldLink RX3 15 "TagTower$Machine" "signs" "[I") (List.mem_cons_of_mem _ wq_90)
  have qq_91 := hts (Cond.fieldLink RX3 19 "TagTower$Machine" "ways" "[I") (List.mem_cons_of_mem _ wq_91)
  have qq_92 := hts (Cond.fieldLink RX3 22 "TagTower$Machine" "states" "[I") (List.mem_cons_of_mem _ wq_92)
  have hl : lv_has ls 1 [(0, .ref hm)] := hl
  have hP : va_P Z.1 vwCl [(hm, .inr (3, [.null, .null, .null, .null, .int (nI 0), .int (nI 0), .int (nI 0), .int (nI 0), .int (nI 0)]))] s.heap := hP
  have hD : va_D A [(hm, .inr (3, [.null, .null, .null, .null, .int (nI 0), .int (nI 0), .int (nI 0), .int (nI 0), .int (nI 0)]))] := hD
  refine lv_aload_n hx hb dX3_init_0 rfl (lv_at hl 0 rfl) ?_
  refine W.objInit hx hb hown qq_88 qq_52 qq_53 rfl (by rw [hml]; exact hl.1) rfl dX3_init_1 (Nat.le_of_ble_eq_true rfl) (Nat.le_of_ble_eq_true rfl) ?_
  refine W.eq (g2 := F0 m 4 ls []) rfl ?_
  refine lv_aload_n hx hb dX3_init_4 rfl (lv_at hl 0 rfl) ?_
  refine ln_bipush 6 hx hb dX3_init_5 (by decide) ?_
  refine ln_newZ (N := 6) hx hb qq_121 hK hP hD hS hC.2.2.1 (by decide) (Nat.le_of_ble_eq_true rfl) (Nat.le_of_ble_eq_true rfl) dX3_init_7 (fun a0 H hP hD hS => ?_)
  have hP : va_P Z.1 vwCl [(hm, .inr (3, [.null, .null, .null, .null, .int (nI 0), .int (nI 0), .int (nI 0), .int (nI 0), .int (nI 0)])), (a0, xO Z 6 ((fun _ => 0)))] H := hP
  have hD : va_D A [(hm, .inr (3, [.null, .null, .null, .null, .int (nI 0), .int (nI 0), .int (nI 0), .int (nI 0), .int (nI 0)])), (a0, xO Z 6 ((fun _ => 0)))] := hD
  refine va_putF (D := Z.1) (ci := 3) (v := .ref a0) (ty := tyX3 0) (C := RX3) (T := TX3) (N := 9) hx hb hts iX3 tyX3 tyX3_ok nmX3 hown hK hP hD hS 0 rfl rfl 0 (Nat.le_of_ble_eq_true rfl) qq_89 (fun _ h9 => h9) rfl hname rfl (tyX3_ok 0 (Nat.le_of_ble_eq_true rfl)) rfl rfl (Nat.le_of_ble_eq_true rfl) dX3_init_9 (fun H locs hP hD hS => ?_)
  have hP : va_P Z.1 vwCl [(hm, .inr (3, [.ref a0, .null, .null, .null, .int (nI 0), .int (nI 0), .int (nI 0), .int (nI 0), .int (nI 0)])), (a0, xO Z 6 ((fun _ => 0)))] H := hP
  have hD : va_D A [(hm, .inr (3, [.ref a0, .null, .null, .null, .int (nI 0), .int (nI 0), .int (nI 0), .int (nI 0), .int (nI 0)])), (a0, xO Z 6 ((fun _ => 0)))] := hD
  refine lv_aload_n hx hb dX3_init_12 rfl (lv_at hl 0 rfl) ?_
  refine ln_bipush 6 hx hb dX3_init_13 (by decide) ?_
  refine ln_newI (N := 6) hx hb qq_82 hK hP hD hS hC.2.2.1 (by decide) (Nat.le_of_ble_eq_true rfl) (Nat.le_of_ble_eq_true rfl) dX3_init_15 (fun a1 H hP hD hS => ?_)
  have hP : va_P Z.1 vwCl [(hm, .inr (3, [.ref a0, .null, .null, .null, .int (nI 0), .int (nI 0), .int (nI 0), .int (nI 0), .int (nI 0)])), (a0, xO Z 6 ((fun _ => 0))), (a1, xI Z 6 ((fun _ => 0)))] H := hP
  have hD : va_D A [(hm, .inr (3, [.ref a0, .null, .null, .null, .int (nI 0), .int (nI 0), .int (nI 0), .int (nI 0), .int (nI 0)])), (a0, xO Z 6 ((fun _ => 0))), (a1, xI Z 6 ((fun _ => 0)))] := hD
  refine va_putF (D := Z.1) (ci := 3) (v := .ref a1) (ty := tyX3 1) (C := RX3) (T := TX3) (N := 9) hx hb hts iX3 tyX3 tyX3_ok nmX3 hown hK hP hD hS 0 rfl rfl 1 (Nat.le_of_ble_eq_true rfl) qq_90 (fun _ h9 => h9) rfl hname rfl (tyX3_ok 1 (Nat.le_of_ble_eq_true rfl)) rfl rfl (Nat.le_of_ble_eq_true rfl) dX3_init_17 (fun H locs hP hD hS => ?_)
  have hP : va_P Z.1 vwCl [(hm, .inr (3, [.ref a0, .ref a1, .null, .null, .int (nI 0), .int (nI 0), .int (nI 0), .int (nI 0), .int (nI 0)])), (a0, xO Z 6 ((fun _ => 0))), (a1, xI Z 6 ((fun _ => 0)))] H := hP
  have hD : va_D A [(hm, .inr (3, [.ref a0, .ref a1, .null, .null, .int (nI 0), .int (nI 0), .int (nI 0), .int (nI 0), .int (nI 0)])), (a0, xO Z 6 ((fun _ => 0))), (a1, xI Z 6 ((fun _ => 0)))] := hD
  refine lv_aload_n hx hb dX3_init_20 rfl (lv_at hl 0 rfl) ?_
  refine ln_bipush 6 hx hb dX3_init_21 (by decide) ?_
  refine ln_newI (N := 6) hx hb qq_82 hK hP hD hS hC.2.2.1 (by decide) (Nat.le_of_ble_eq_true rfl) (Nat.le_of_ble_eq_true rfl) dX3_init_23 (fun a2 H hP hD hS => ?_)
  have hP : va_P Z.1 vwCl [(hm, .inr (3, [.ref a0, .ref a1, .null, .null, .int (nI 0), .int (nI 0), .int (nI 0), .int (nI 0), .int (nI 0)])), (a0, xO Z 6 ((fun _ => 0))), (a1, xI Z 6 ((fun _ => 0))), (a2, xI Z 6 ((fun _ => 0)))] H := hP
  have hD : va_D A [(hm, .inr (3, [.ref a0, .ref a1, .null, .null, .int (nI 0), .int (nI 0), .int (nI 0), .int (nI 0), .int (nI 0)])), (a0, xO Z 6 ((fun _ => 0))), (a1, xI Z 6 ((fun _ => 0))), (a2, xI Z 6 ((fun _ => 0)))] := hD
  refine va_putF (D := Z.1) (ci := 3) (v := .ref a2) (ty := tyX3 2) (C := RX3) (T := TX3) (N := 9) hx hb hts iX3 tyX3 tyX3_ok nmX3 hown hK hP hD hS 0 rfl rfl 2 (Nat.le_of_ble_eq_true rfl) qq_91 (fun _ h9 => h9) rfl hname rfl (tyX3_ok 2 (Nat.le_of_ble_eq_true rfl)) rfl rfl (Nat.le_of_ble_eq_true rfl) dX3_init_25 (fun H locs hP hD hS => ?_)
  have hP : va_P Z.1 vwCl [(hm, .inr (3, [.ref a0, .ref a1, .ref a2, .null, .int (nI 0), .int (nI 0), .int (nI 0), .int (nI 0), .int (nI 0)])), (a0, xO Z 6 ((fun _ => 0))), (a1, xI Z 6 ((fun _ => 0))), (a2, xI Z 6 ((fun _ => 0)))] H := hP
  have hD : va_D A [(hm, .inr (3, [.ref a0, .ref a1, .ref a2, .null, .int (nI 0), .int (nI 0), .int (nI 0), .int (nI 0), .int (nI 0)])), (a0, xO Z 6 ((fun _ => 0))), (a1, xI Z 6 ((fun _ => 0))), (a2, xI Z 6 ((fun _ => 0)))] := hD
  refine lv_aload_n hx hb dX3_init_28 rfl (lv_at hl 0 rfl) ?_
  refine ln_bipush 6 hx hb dX3_init_29 (by decide) ?_
  refine ln_newI (N := 6) hx hb qq_82 hK hP hD hS hC.2.2.1 (by decide) (Nat.le_of_ble_eq_true rfl) (Nat.le_of_ble_eq_true rfl) dX3_init_31 (fun a3 H hP hD hS => ?_)
  have hP : va_P Z.1 vwCl [(hm, .inr (3, [.ref a0, .ref a1, .ref a2, .null, .int (nI 0), .int (nI 0), .int (nI 0), .int (nI 0), .int (nI 0)])), (a0, xO Z 6 ((fun _ => 0))), (a1, xI Z 6 ((fun _ => 0))), (a2, xI Z 6 ((fun _ => 0))), (a3, xI Z 6 ((fun _ => 0)))] H := hP
  have hD : va_D A [(hm, .inr (3, [.ref a0, .ref a1, .ref a2, .null, .int (nI 0), .int (nI 0), .int (nI 0), .int (nI 0), .int (nI 0)])), (a0, xO Z 6 ((fun _ => 0))), (a1, xI Z 6 ((fun _ => 0))), (a2, xI Z 6 ((fun _ => 0))), (a3, xI Z 6 ((fun _ => 0)))] := hD
  refine va_putF (D := Z.1) (ci := 3) (v := .ref a3) (ty := tyX3 3) (C := RX3) (T := TX3) (N := 9) hx hb hts iX3 tyX3 tyX3_ok nmX3 hown hK hP hD hS 0 rfl rfl 3 (Nat.le_of_ble_eq_true rfl) qq_92 (fun _ h9 => h9) rfl hname rfl (tyX3_ok 3 (Nat.le_of_ble_eq_true rfl)) rfl rfl (Nat.le_of_ble_eq_true rfl) dX3_init_33 (fun H locs hP hD hS => ?_)
  have hP : va_P Z.1 vwCl [(hm, .inr (3, [.ref a0, .ref a1, .ref a2, .ref a3, .int (nI 0), .int (nI 0), .int (nI 0), .int (nI 0), .int (nI 0)])), (a0, xO Z 6 ((fun _ => 0))), (a1, xI Z 6 ((fun _ => 0))), (a2, xI Z 6 ((fun _ => 0))), (a3, xI Z 6 ((fun _ => 0)))] H := hP
  have hD : va_D A [(hm, .inr (3, [.ref a0, .ref a1, .ref a2, .ref a3, .int (nI 0), .int (nI 0), .int (nI 0), .int (nI 0), .int (nI 0)])), (a0, xO Z 6 ((fun _ => 0))), (a1, xI Z 6 ((fun _ => 0))), (a2, xI Z 6 ((fun _ => 0))), (a3, xI Z 6 ((fun _ => 0)))] := hD
  refine W.widen (k := 4) (n := 24) (Nat.le_of_ble_eq_true rfl) (Nat.le_of_ble_eq_true rfl) ?_
  exact x_vret hC hr hk hP hD hS dX3_init_36 ⟨a0, a1, a2, a3, rfl⟩

set_option maxHeartbeats 4000000 in
set_option maxRecDepth 100000 in
theorem c_X4_init (l : Launch) (Z : xZ) (hp : Nat) : xMv l Z yX4_init vX4_init ({ frames := 6, cells := 2, slots := 605, locals := 140 } : Room) [.ref hp] [(hp, .inr (4, [.null, .null]))] (fun w => ∃ s0 s1 sz2 lt2, TR (xprod (fun _ => none)) sz2 lt2 ∧ w = [(hp, .inr (4, [.ref s0, .ref s1])), (s0, xI Z 121 sz2), (s1, xI Z 484 lt2)]) := by
  refine x_v (by decide) rfl (Nat.le_of_ble_eq_true rfl) ?_
  intro p e s m args below meth c ls A hC hr hk hname hl hP hD hS
  have hx := hC.1.1
  have hb := hC.1.2.1
  have hml := hC.1.2.2.1
  have hown : s.vm.findClass RX4 = some m.cls := hC.1.2.2.2.1
  have hts := hC.1.2.2.2.2
  have hK := hC.2.1
  have qq_127 := hts (Cond.methodLink RX4 3 objectInit) (List.mem_cons_of_mem _ wq_127)
  have qq_52 := hts (Cond.instanceMethod objectInit) (List.mem_cons_of_mem _ wq_52)
  have qq_53 := hts (Cond.code objectInit ⟨#[0xb1]⟩ 1 none) (List.mem_cons_of_mem _ wq_53)
  have qq_82 := hts (Cond.arrayClass .int) (List.mem_cons_of_mem _ wq_82)
  have qq_258 := hts (Cond.fieldLink RX4 9 "TagTower$Productions" "sizes" "[I") (List.mem_cons_of_mem _ wq_258)
  have iX4 : ∀ w ∈ wsX40, w ∈ vX4_init := fun w h => List.mem_cons_of_mem _ (wi_X4 w h)
  have qq_259 := hts (Cond.fieldLink RX4 15 "TagTower$Productions" "letters" "[I") (List.mem_cons_of_mem _ wq_259)
  have hl : lv_has ls 2 [(0, .ref hp)] := hl
  have hP : va_P Z.1 vwCl [(hp, .inr (4, [.null, .null]))] s.heap := hP
  have hD : va_D A [(hp, .inr (4, [.null, .null]))] := hD
  refine lv_aload_n hx hb dX4_init_0 rfl (lv_at hl 0 rfl) ?_
  refine W.objInit hx hb hown qq_127 qq_52 qq_53 rfl (by rw [hml]; exact hl.1) rfl dX4_init_1 (Nat.le_of_ble_eq_true rfl) (Nat.le_of_ble_eq_true rfl) ?_
  refine W.eq (g2 := F0 m 4 ls []) rfl ?_
  refine lv_aload_n hx hb dX4_init_4 rfl (lv_at hl 0 rfl) ?_
  refine ln_bipush 121 hx hb dX4_init_5 (by decide) ?_
  refine ln_newI (N := 121) hx hb qq_82 hK hP hD hS hC.2.2.1 (by decide) (Nat.le_of_ble_eq_true rfl) (Nat.le_of_ble_eq_true rfl) dX4_init_7 (fun s0 H hP hD hS => ?_)
  have hP : va_P Z.1 vwCl [(hp, .inr (4, [.null, .null])), (s0, xI Z 121 ((fun _ => 0)))] H := hP
  have hD : va_D A [(hp, .inr (4, [.null, .null])), (s0, xI Z 121 ((fun _ => 0)))] := hD
  refine va_putF (D := Z.1) (ci := 4) (v := .ref s0) (ty := tyX4 0) (C := RX4) (T := TX4) (N := 2) hx hb hts iX4 tyX4 tyX4_ok nmX4 hown hK hP hD hS 0 rfl rfl 0 (Nat.le_of_ble_eq_true rfl) qq_258 (fun _ h9 => h9) rfl hname rfl (tyX4_ok 0 (Nat.le_of_ble_eq_true rfl)) rfl rfl (Nat.le_of_ble_eq_true rfl) dX4_init_9 (fun H locs hP hD hS => ?_)
  have hP : va_P Z.1 vwCl [(hp, .inr (4, [.ref s0, .null])), (s0, xI Z 121 ((fun _ => 0)))] H := hP
  have hD : va_D A [(hp, .inr (4, [.ref s0, .null])), (s0, xI Z 121 ((fun _ => 0)))] := hD
  refine lv_aload_n hx hb dX4_init_12 rfl (lv_at hl 0 rfl) ?_
  refine ln_sipush 484 hx hb dX4_init_13 (by decide) ?_
  refine ln_newI (N := 484) hx hb qq_82 hK hP hD hS hC.2.2.1 (by decide) (Nat.le_of_ble_eq_true rfl) (Nat.le_of_ble_eq_true rfl) dX4_init_16 (fun s1 H hP hD hS => ?_)
  have hP : va_P Z.1 vwCl [(hp, .inr (4, [.ref s0, .null])), (s0, xI Z 121 ((fun _ => 0))), (s1, xI Z 484 ((fun _ => 0)))] H := hP
  have hD : va_D A [(hp, .inr (4, [.ref s0, .null])), (s0, xI Z 121 ((fun _ => 0))), (s1, xI Z 484 ((fun _ => 0)))] := hD
  refine va_putF (D := Z.1) (ci := 4) (v := .ref s1) (ty := tyX4 1) (C := RX4) (T := TX4) (N := 2) hx hb hts iX4 tyX4 tyX4_ok nmX4 hown hK hP hD hS 0 rfl rfl 1 (Nat.le_of_ble_eq_true rfl) qq_259 (fun _ h9 => h9) rfl hname rfl (tyX4_ok 1 (Nat.le_of_ble_eq_true rfl)) rfl rfl (Nat.le_of_ble_eq_true rfl) dX4_init_18 (fun H locs hP hD hS => ?_)
  have hP : va_P Z.1 vwCl [(hp, .inr (4, [.ref s0, .ref s1])), (s0, xI Z 121 ((fun _ => 0))), (s1, xI Z 484 ((fun _ => 0)))] H := hP
  have hD : va_D A [(hp, .inr (4, [.ref s0, .ref s1])), (s0, xI Z 121 ((fun _ => 0))), (s1, xI Z 484 ((fun _ => 0)))] := hD
  refine ln_const 0 hx hb dX4_init_21 (by decide) ?_
  refine lv_istore_n (lv' := [(1, .int (nI 0)), (0, .ref hp)]) hx hb dX4_init_22 rfl hl (by decide) rfl (fun ls hl => ?_)
  have hloop23 : ∀ (nn : Nat) (k : Nat) (T1 : Nat → List Nat) (sz1 lt1 : Nat → Nat) (H : Heap) (locs : List Loc) (ls : Array Slot) (hk1 : k ≤ 6) (hT1 : TR T1 sz1 lt1) (h01 : T1 0 = []) (hX : ∀ c1, c1 < 121 → c1 ≤ k * 20 → T1 c1 = xprod (fun _ => none) c1) (hmu : 6 - k < nn) (hP : va_P Z.1 vwCl [(hp, .inr (4, [.ref s0, .ref s1])), (s0, xI Z 121 sz1), (s1, xI Z 484 lt1)] H) (hD : va_D A [(hp, .inr (4, [.ref s0, .ref s1])), (s0, xI Z 121 sz1), (s1, xI Z 484 lt1)]) (hS : va_S A s.heap H locs) (hl : lv_has ls 2 [(0, .ref hp), (1, .int (nI k))]), W p l e ({ frames := 6, cells := 2, slots := 605, locals := 140 } : Room) s m args below meth c H locs 2 605 (MQ below (va_Qv (fun w => ∃ s0 s1 sz2 lt2, TR (xprod (fun _ => none)) sz2 lt2 ∧ w = [(hp, .inr (4, [.ref s0, .ref s1])), (s0, xI Z 121 sz2), (s1, xI Z 484 lt2)]) (xB Z A) A) args s ({ frames := 6, cells := 2, slots := 605, locals := 140 } : Room).cells ({ frames := 6, cells := 2, slots := 605, locals := 140 } : Room).slots A) (F0 m 23 ls []) := by
    intro nn
    induction nn with
    | zero => intro k T1 sz1 lt1 H locs ls hk1 hT1 h01 hX hmu; exact absurd hmu (Nat.not_lt_zero _)
    | succ nn ih =>
      intro k T1 sz1 lt1 H locs ls hk1 hT1 h01 hX hmu hP hD hS hl
      refine lv_iload_n hx hb dX4_init_23 rfl (lv_at hl 1 rfl) ?_
      refine ln_bipush 6 hx hb dX4_init_24 (by decide) ?_
      refine ln_icmp_ge (tgt := 40) hx hb dX4_init_26 (by decide) (by omega) (by omega) (fun h26 => ?_) (fun h26 => ?_)
      · exact x_vret hC hr hk hP hD hS dX4_init_40 ⟨s0, s1, sz1, lt1, hT1.congr (fun c1 h1 => (hX c1 h1 (by omega)).symm), rfl⟩
      · refine lv_aload_n hx hb dX4_init_29 rfl (lv_at hl 0 rfl) ?_
        refine lv_iload_n hx hb dX4_init_30 rfl (lv_at hl 1 rfl) ?_
        refine x_Vv (y := yX4_followNone) (As := [.int (nI k)]) (wc := [(hp, .inr (4, [.ref s0, .ref s1])), (s0, xI Z 121 sz1), (s1, xI Z 484 lt1)]) (wr := []) hC hP hD hS (c_X4_followNone l Z hp s0 s1 sz1 lt1 T1 hT1 h01 k (by omega)) (gV wq_131 wq_128 wq_129 wq_130 wq_35) rfl kv_X4_followNone rfl rfl ⟨rfl, rfl⟩ rfl hl.1 rfl ⟨Nat.le_of_ble_eq_true rfl, Nat.le_of_ble_eq_true rfl⟩ [0, 1, 2] ([] : List Nat) rfl rfl (by decide) (by decide) (by decide) rfl dX4_init_31 (fun w1 H locs hw hP hD hS => ?_)
        obtain ⟨sz2, lt2, hT2, rfl⟩ := hw
        have hP : va_P Z.1 vwCl [(hp, .inr (4, [.ref s0, .ref s1])), (s0, xI Z 121 sz2), (s1, xI Z 484 lt2)] H := hP
        have hD : va_D A [(hp, .inr (4, [.ref s0, .ref s1])), (s0, xI Z 121 sz2), (s1, xI Z 484 lt2)] := hD
        refine ln_iinc (k0 := 1) (k := 1) (k + 1) (lv' := [(1, .int (nI (k + 1))), (0, .ref hp)]) hx hb dX4_init_34 hl rfl rfl (by first | rfl | omega) (by decide) rfl (fun ls hl => ?_)
        refine lv_goto (tgt := 23) hx hb dX4_init_37 (by decide) ?_
        exact ih  (k + 1) (LT k T1 (lnone k)) sz2 lt2 _ _ _ (by omega) hT2 (lnone_0 (by omega) T1) (tr_none (by omega) hX) (by omega) hP hD hS (lv_sub hl [1, 0] rfl)
  exact hloop23 ((6 - 0) + 1) 0 (fun _ => []) (fun _ => 0) (fun _ => 0) _ _ _ (Nat.zero_le _) TR_0 rfl (fun c1 h1 h2 => by rw [show c1 = 0 by omega]; rfl) (Nat.lt_succ_self _) hP hD hS (lv_sub hl [1, 0] rfl)

theorem ks_X2_init : yX2_init.cls ≠ "java/lang/invoke/MethodHandle" ∧ yX2_init.cls ≠ "java/lang/invoke/VarHandle" ∧ (parseMethodDescriptor yX2_init.desc).map (fun d => d.parameters.length) = some 1 := by decide +kernel
set_option maxHeartbeats 4000000 in
set_option maxRecDepth 100000 in
theorem c_X5_init (l : Launch) (Z : xZ) (hw : Nat) : xMv l Z yX5_init vX5_init ({ frames := 2, cells := 4, slots := 1206, locals := 37 } : Room) [.ref hw] [(hw, .inr (5, [.null, .null]))] (fun w => ∃ vr ar vk ak, w = [(hw, .inr (5, [.ref vr, .ref vk])), (vr, .inr (2, [.ref ar, .int (nI 0), .int (nI 0)])), (ar, xI Z 600 ((fun _ => 0))), (vk, .inr (2, [.ref ak, .int (nI 0), .int (nI 0)])), (ak, xI Z 600 ((fun _ => 0)))]) := by
  refine x_v (by decide) rfl (Nat.le_of_ble_eq_true rfl) ?_
  intro p e s m args below meth c ls A hC hr hk hname hl hP hD hS
  have hx := hC.1.1
  have hb := hC.1.2.1
  have hml := hC.1.2.2.1
  have hown : s.vm.findClass RX5 = some m.cls := hC.1.2.2.2.1
  have hts := hC.1.2.2.2.2
  have hK := hC.2.1
  have qq_271 := hts (Cond.methodLink RX5 3 objectInit) (List.mem_cons_of_mem _ wq_271)
  have qq_52 := hts (Cond.instanceMethod objectInit) (List.mem_cons_of_mem _ wq_52)
  have qq_53 := hts (Cond.code objectInit ⟨#[0xb1]⟩ 1 none) (List.mem_cons_of_mem _ wq_53)
  have iX2 : ∀ w ∈ wsX20, w ∈ vX5_init := fun w h => List.mem_cons_of_mem _ (wi_X2 w h)
  have qq_272 := hts (Cond.classLink RX5 9 RX2) (List.mem_cons_of_mem _ wq_272)
  have qq_273 := hts (Cond.instantiable RX2 3) (List.mem_cons_of_mem _ wq_273)
  have qq_43 := hts (Cond.initialized RX2) (List.mem_cons_of_mem _ wq_43)
  have qq_274 := hts (Cond.methodLink RX5 11 yX2_init) (List.mem_cons_of_mem _ wq_274)
  have qq_275 := hts (Cond.instanceMethod yX2_init) (List.mem_cons_of_mem _ wq_275)
  have qq_292 := hts (Cond.fieldLink RX5 14 "TagTower$Word" "row" "LTagTower$LetterRow;") (List.mem_cons_of_mem _ wq_292)
  have iX5 : ∀ w ∈ wsX50, w ∈ vX5_init := fun w h => List.mem_cons_of_mem _ (wi_X5 w h)
  have qq_294 := hts (Cond.fieldLink RX5 20 "TagTower$Word" "kept" "LTagTower$LetterRow;") (List.mem_cons_of_mem _ wq_294)
  have hl : lv_has ls 1 [(0, .ref hw)] := hl
  have hP : va_P Z.1 vwCl [(hw, .inr (5, [.null, .null]))] s.heap := hP
  have hD : va_D A [(hw, .inr (5, [.null, .null]))] := hD
  refine lv_aload_n hx hb dX5_init_0 rfl (lv_at hl 0 rfl) ?_
  refine W.objInit hx hb hown qq_271 qq_52 qq_53 rfl (by rw [hml]; exact hl.1) rfl dX5_init_1 (Nat.le_of_ble_eq_true rfl) (Nat.le_of_ble_eq_true rfl) ?_
  refine W.eq (g2 := F0 m 4 ls []) rfl ?_
  refine lv_aload_n hx hb dX5_init_4 rfl (lv_at hl 0 rfl) ?_
  refine va_new (D := Z.1) (ci := 2) (fs := [.null, .int (nI 0), .int (nI 0)]) (C := RX2) (T := TX2) (N := 3) hx hb hts iX2 tyX2 tyX2_ok hown qq_272 qq_273 qq_43 hK hP hD hS hC.2.2.1 rfl (fun j hj => by rcases (show j = 0 ∨ j = 1 ∨ j = 2 by omega) with rfl | rfl | rfl <;> rfl) (Nat.le_of_ble_eq_true rfl) (Nat.le_of_ble_eq_true rfl) dX5_init_5 (fun vr H hP hD hS => ?_)
  have hP : va_P Z.1 vwCl [(hw, .inr (5, [.null, .null])), (vr, .inr (2, [.null, .int (nI 0), .int (nI 0)]))] H := hP
  have hD : va_D A [(hw, .inr (5, [.null, .null])), (vr, .inr (2, [.null, .int (nI 0), .int (nI 0)]))] := hD
  refine lv_dup hx hb dX5_init_8 rfl ?_
  refine ln_sipush 600 hx hb dX5_init_9 (by decide) ?_
  refine x_Iv (ret := none) (y := yX2_init) (As := [.int (nI 600)]) (wc := [(vr, .inr (2, [.null, .int (nI 0), .int (nI 0)]))]) (wr := [(hw, .inr (5, [.null, .null]))]) hC hP hD hS (c_X2_init l Z vr 600 (by decide)) (gCo wq_276) qq_43 qq_274 qq_275 rfl rfl ks_X2_init ⟨rfl, rfl⟩ rfl hl.1 rfl ⟨Nat.le_of_ble_eq_true rfl, Nat.le_of_ble_eq_true rfl⟩ [1] [0] rfl rfl (by decide) (by decide) (by decide) rfl dX5_init_12 (fun w1 H locs hw hP hD hS => ?_)
  obtain ⟨ar, rfl⟩ := hw
  have hP : va_P Z.1 vwCl [(hw, .inr (5, [.null, .null])), (vr, .inr (2, [.ref ar, .int (nI 0), .int (nI 0)])), (ar, xI Z 600 ((fun _ => 0)))] H := hP
  have hD : va_D A [(hw, .inr (5, [.null, .null])), (vr, .inr (2, [.ref ar, .int (nI 0), .int (nI 0)])), (ar, xI Z 600 ((fun _ => 0)))] := hD
  refine va_putF (D := Z.1) (ci := 5) (v := .ref vr) (ty := tyX5 0) (C := RX5) (T := TX5) (N := 2) hx hb hts iX5 tyX5 tyX5_ok nmX5 hown hK hP hD hS 0 rfl rfl 0 (Nat.le_of_ble_eq_true rfl) qq_292 (fun _ h9 => h9) rfl hname rfl (tyX5_ok 0 (Nat.le_of_ble_eq_true rfl)) rfl rfl (Nat.le_of_ble_eq_true rfl) dX5_init_15 (fun H locs hP hD hS => ?_)
  have hP : va_P Z.1 vwCl [(hw, .inr (5, [.ref vr, .null])), (vr, .inr (2, [.ref ar, .int (nI 0), .int (nI 0)])), (ar, xI Z 600 ((fun _ => 0)))] H := hP
  have hD : va_D A [(hw, .inr (5, [.ref vr, .null])), (vr, .inr (2, [.ref ar, .int (nI 0), .int (nI 0)])), (ar, xI Z 600 ((fun _ => 0)))] := hD
  refine lv_aload_n hx hb dX5_init_18 rfl (lv_at hl 0 rfl) ?_
  refine va_new (D := Z.1) (ci := 2) (fs := [.null, .int (nI 0), .int (nI 0)]) (C := RX2) (T := TX2) (N := 3) hx hb hts iX2 tyX2 tyX2_ok hown qq_272 qq_273 qq_43 hK hP hD hS hC.2.2.1 rfl (fun j hj => by rcases (show j = 0 ∨ j = 1 ∨ j = 2 by omega) with rfl | rfl | rfl <;> rfl) (Nat.le_of_ble_eq_true rfl) (Nat.le_of_ble_eq_true rfl) dX5_init_19 (fun vk H hP hD hS => ?_)
  have hP : va_P Z.1 vwCl [(hw, .inr (5, [.ref vr, .null])), (vr, .inr (2, [.ref ar, .int (nI 0), .int (nI 0)])), (ar, xI Z 600 ((fun _ => 0))), (vk, .inr (2, [.null, .int (nI 0), .int (nI 0)]))] H := hP
  have hD : va_D A [(hw, .inr (5, [.ref vr, .null])), (vr, .inr (2, [.ref ar, .int (nI 0), .int (nI 0)])), (ar, xI Z 600 ((fun _ => 0))), (vk, .inr (2, [.null, .int (nI 0), .int (nI 0)]))] := hD
  refine lv_dup hx hb dX5_init_22 rfl ?_
  refine ln_sipush 600 hx hb dX5_init_23 (by decide) ?_
  refine x_Iv (ret := none) (y := yX2_init) (As := [.int (nI 600)]) (wc := [(vk, .inr (2, [.null, .int (nI 0), .int (nI 0)]))]) (wr := [(hw, .inr (5, [.ref vr, .null])), (vr, .inr (2, [.ref ar, .int (nI 0), .int (nI 0)])), (ar, xI Z 600 ((fun _ => 0)))]) hC hP hD hS (c_X2_init l Z vk 600 (by decide)) (gCo wq_276) qq_43 qq_274 qq_275 rfl rfl ks_X2_init ⟨rfl, rfl⟩ rfl hl.1 rfl ⟨Nat.le_of_ble_eq_true rfl, Nat.le_of_ble_eq_true rfl⟩ [3] [0, 1, 2] rfl rfl (by decide) (by decide) (by decide) rfl dX5_init_26 (fun w1 H locs hw hP hD hS => ?_)
  obtain ⟨ak, rfl⟩ := hw
  have hP : va_P Z.1 vwCl [(hw, .inr (5, [.ref vr, .null])), (vr, .inr (2, [.ref ar, .int (nI 0), .int (nI 0)])), (ar, xI Z 600 ((fun _ => 0))), (vk, .inr (2, [.ref ak, .int (nI 0), .int (nI 0)])), (ak, xI Z 600 ((fun _ => 0)))] H := hP
  have hD : va_D A [(hw, .inr (5, [.ref vr, .null])), (vr, .inr (2, [.ref ar, .int (nI 0), .int (nI 0)])), (ar, xI Z 600 ((fun _ => 0))), (vk, .inr (2, [.ref ak, .int (nI 0), .int (nI 0)])), (ak, xI Z 600 ((fun _ => 0)))] := hD
  refine va_putF (D := Z.1) (ci := 5) (v := .ref vk) (ty := tyX5 1) (C := RX5) (T := TX5) (N := 2) hx hb hts iX5 tyX5 tyX5_ok nmX5 hown hK hP hD hS 0 rfl rfl 1 (Nat.le_of_ble_eq_true rfl) qq_294 (fun _ h9 => h9) rfl hname rfl (tyX5_ok 1 (Nat.le_of_ble_eq_true rfl)) rfl rfl (Nat.le_of_ble_eq_true rfl) dX5_init_29 (fun H locs hP hD hS => ?_)
  have hP : va_P Z.1 vwCl [(hw, .inr (5, [.ref vr, .ref vk])), (vr, .inr (2, [.ref ar, .int (nI 0), .int (nI 0)])), (ar, xI Z 600 ((fun _ => 0))), (vk, .inr (2, [.ref ak, .int (nI 0), .int (nI 0)])), (ak, xI Z 600 ((fun _ => 0)))] H := hP
  have hD : va_D A [(hw, .inr (5, [.ref vr, .ref vk])), (vr, .inr (2, [.ref ar, .int (nI 0), .int (nI 0)])), (ar, xI Z 600 ((fun _ => 0))), (vk, .inr (2, [.ref ak, .int (nI 0), .int (nI 0)])), (ak, xI Z 600 ((fun _ => 0)))] := hD
  refine W.widen (k := 4) (n := 1206) (Nat.le_of_ble_eq_true rfl) (Nat.le_of_ble_eq_true rfl) ?_
  exact x_vret hC hr hk hP hD hS dX5_init_32 ⟨vr, ar, vk, ak, rfl⟩

set_option maxHeartbeats 4000000 in
set_option maxRecDepth 100000 in
theorem c_X0_init (l : Launch) (Z : xZ) (vb : Nat) : xMv l Z yX0_init vX0_init ({ frames := 2, cells := 2, slots := 665, locals := 37 } : Room) [.ref vb] [(vb, .inr (0, [.null, .int (nI 0)]))] (fun w => ∃ vq aq, w = [(vb, .inr (0, [.ref vq, .int (nI 0)])), (vq, .inr (2, [.ref aq, .int (nI 0), .int (nI 0)])), (aq, xI Z 662 ((fun _ => 0)))]) := by
  refine x_v (by decide) rfl (Nat.le_of_ble_eq_true rfl) ?_
  intro p e s m args below meth c ls A hC hr hk hname hl hP hD hS
  have hx := hC.1.1
  have hb := hC.1.2.1
  have hml := hC.1.2.2.1
  have hown : s.vm.findClass RX0 = some m.cls := hC.1.2.2.2.1
  have hts := hC.1.2.2.2.2
  have hK := hC.2.1
  have qq_305 := hts (Cond.methodLink RX0 3 objectInit) (List.mem_cons_of_mem _ wq_305)
  have qq_52 := hts (Cond.instanceMethod objectInit) (List.mem_cons_of_mem _ wq_52)
  have qq_53 := hts (Cond.code objectInit ⟨#[0xb1]⟩ 1 none) (List.mem_cons_of_mem _ wq_53)
  have iX2 : ∀ w ∈ wsX20, w ∈ vX0_init := fun w h => List.mem_cons_of_mem _ (wi_X2 w h)
  have qq_306 := hts (Cond.classLink RX0 9 RX2) (List.mem_cons_of_mem _ wq_306)
  have qq_273 := hts (Cond.instantiable RX2 3) (List.mem_cons_of_mem _ wq_273)
  have qq_43 := hts (Cond.initialized RX2) (List.mem_cons_of_mem _ wq_43)
  have qq_307 := hts (Cond.methodLink RX0 11 yX2_init) (List.mem_cons_of_mem _ wq_307)
  have qq_275 := hts (Cond.instanceMethod yX2_init) (List.mem_cons_of_mem _ wq_275)
  have qq_308 := hts (Cond.fieldLink RX0 14 "TagTower$Bits" "row" "LTagTower$LetterRow;") (List.mem_cons_of_mem _ wq_308)
  have iX0 : ∀ w ∈ wsX00, w ∈ vX0_init := fun w h => List.mem_cons_of_mem _ (wi_X0 w h)
  have hl : lv_has ls 1 [(0, .ref vb)] := hl
  have hP : va_P Z.1 vwCl [(vb, .inr (0, [.null, .int (nI 0)]))] s.heap := hP
  have hD : va_D A [(vb, .inr (0, [.null, .int (nI 0)]))] := hD
  refine lv_aload_n hx hb dX0_init_0 rfl (lv_at hl 0 rfl) ?_
  refine W.objInit hx hb hown qq_305 qq_52 qq_53 rfl (by rw [hml]; exact hl.1) rfl dX0_init_1 (Nat.le_of_ble_eq_true rfl) (Nat.le_of_ble_eq_true rfl) ?_
  refine W.eq (g2 := F0 m 4 ls []) rfl ?_
  refine lv_aload_n hx hb dX0_init_4 rfl (lv_at hl 0 rfl) ?_
  refine va_new (D := Z.1) (ci := 2) (fs := [.null, .int (nI 0), .int (nI 0)]) (C := RX2) (T := TX2) (N := 3) hx hb hts iX2 tyX2 tyX2_ok hown qq_306 qq_273 qq_43 hK hP hD hS hC.2.2.1 rfl (fun j hj => by rcases (show j = 0 ∨ j = 1 ∨ j = 2 by omega) with rfl | rfl | rfl <;> rfl) (Nat.le_of_ble_eq_true rfl) (Nat.le_of_ble_eq_true rfl) dX0_init_5 (fun vq H hP hD hS => ?_)
  have hP : va_P Z.1 vwCl [(vb, .inr (0, [.null, .int (nI 0)])), (vq, .inr (2, [.null, .int (nI 0), .int (nI 0)]))] H := hP
  have hD : va_D A [(vb, .inr (0, [.null, .int (nI 0)])), (vq, .inr (2, [.null, .int (nI 0), .int (nI 0)]))] := hD
  refine lv_dup hx hb dX0_init_8 rfl ?_
  refine ln_sipush 662 hx hb dX0_init_9 (by decide) ?_
  refine x_Iv (ret := none) (y := yX2_init) (As := [.int (nI 662)]) (wc := [(vq, .inr (2, [.null, .int (nI 0), .int (nI 0)]))]) (wr := [(vb, .inr (0, [.null, .int (nI 0)]))]) hC hP hD hS (c_X2_init l Z vq 662 (by decide)) (gCo wq_276) qq_43 qq_307 qq_275 rfl rfl ks_X2_init ⟨rfl, rfl⟩ rfl hl.1 rfl ⟨Nat.le_of_ble_eq_true rfl, Nat.le_of_ble_eq_true rfl⟩ [1] [0] rfl rfl (by decide) (by decide) (by decide) rfl dX0_init_12 (fun w1 H locs hw hP hD hS => ?_)
  obtain ⟨aq, rfl⟩ := hw
  have hP : va_P Z.1 vwCl [(vb, .inr (0, [.null, .int (nI 0)])), (vq, .inr (2, [.ref aq, .int (nI 0), .int (nI 0)])), (aq, xI Z 662 ((fun _ => 0)))] H := hP
  have hD : va_D A [(vb, .inr (0, [.null, .int (nI 0)])), (vq, .inr (2, [.ref aq, .int (nI 0), .int (nI 0)])), (aq, xI Z 662 ((fun _ => 0)))] := hD
  refine va_putF (D := Z.1) (ci := 0) (v := .ref vq) (ty := tyX0 0) (C := RX0) (T := TX0) (N := 2) hx hb hts iX0 tyX0 tyX0_ok nmX0 hown hK hP hD hS 0 rfl rfl 0 (Nat.le_of_ble_eq_true rfl) qq_308 (fun _ h9 => h9) rfl hname rfl (tyX0_ok 0 (Nat.le_of_ble_eq_true rfl)) rfl rfl (Nat.le_of_ble_eq_true rfl) dX0_init_15 (fun H locs hP hD hS => ?_)
  have hP : va_P Z.1 vwCl [(vb, .inr (0, [.ref vq, .int (nI 0)])), (vq, .inr (2, [.ref aq, .int (nI 0), .int (nI 0)])), (aq, xI Z 662 ((fun _ => 0)))] H := hP
  have hD : va_D A [(vb, .inr (0, [.ref vq, .int (nI 0)])), (vq, .inr (2, [.ref aq, .int (nI 0), .int (nI 0)])), (aq, xI Z 662 ((fun _ => 0)))] := hD
  refine W.widen (k := 2) (n := 665) (Nat.le_of_ble_eq_true rfl) (Nat.le_of_ble_eq_true rfl) ?_
  exact x_vret hC hr hk hP hD hS dX0_init_18 ⟨vq, aq, rfl⟩

theorem ks_X1_init : yX1_init.cls ≠ "java/lang/invoke/MethodHandle" ∧ yX1_init.cls ≠ "java/lang/invoke/VarHandle" ∧ (parseMethodDescriptor yX1_init.desc).map (fun d => d.parameters.length) = some 0 := by decide +kernel
theorem ks_X3_init : yX3_init.cls ≠ "java/lang/invoke/MethodHandle" ∧ yX3_init.cls ≠ "java/lang/invoke/VarHandle" ∧ (parseMethodDescriptor yX3_init.desc).map (fun d => d.parameters.length) = some 0 := by decide +kernel
theorem ks_X4_init : yX4_init.cls ≠ "java/lang/invoke/MethodHandle" ∧ yX4_init.cls ≠ "java/lang/invoke/VarHandle" ∧ (parseMethodDescriptor yX4_init.desc).map (fun d => d.parameters.length) = some 0 := by decide +kernel
theorem ks_X5_init : yX5_init.cls ≠ "java/lang/invoke/MethodHandle" ∧ yX5_init.cls ≠ "java/lang/invoke/VarHandle" ∧ (parseMethodDescriptor yX5_init.desc).map (fun d => d.parameters.length) = some 0 := by decide +kernel
theorem ks_X0_init : yX0_init.cls ≠ "java/lang/invoke/MethodHandle" ∧ yX0_init.cls ≠ "java/lang/invoke/VarHandle" ∧ (parseMethodDescriptor yX0_init.desc).map (fun d => d.parameters.length) = some 0 := by decide +kernel
set_option maxHeartbeats 4000000 in
set_option maxRecDepth 100000 in
theorem c_X6_init (l : Launch) (Z : xZ) (ax : Nat) : xMv l Z yX6_init vX6_init ({ frames := 7, cells := 22, slots := 2622, locals := 161 } : Room) [.ref ax] [(ax, .inr (6, [.null, .null, .null, .null, .null]))] (fun w => XW ax xS0 w Z) := by
  refine x_v (by decide) rfl (Nat.le_of_ble_eq_true rfl) ?_
  intro p e s m args below meth c ls A hC hr hk hname hl hP hD hS
  have hx := hC.1.1
  have hb := hC.1.2.1
  have hml := hC.1.2.2.1
  have hown : s.vm.findClass RX6 = some m.cls := hC.1.2.2.2.1
  have hts := hC.1.2.2.2.2
  have hK := hC.2.1
  have qq_51 := hts (Cond.methodLink RX6 3 objectInit) (List.mem_cons_of_mem _ wq_51)
  have qq_52 := hts (Cond.instanceMethod objectInit) (List.mem_cons_of_mem _ wq_52)
  have qq_53 := hts (Cond.code objectInit ⟨#[0xb1]⟩ 1 none) (List.mem_cons_of_mem _ wq_53)
  have iX1 : ∀ w ∈ wsX10, w ∈ vX6_init := fun w h => List.mem_cons_of_mem _ (wi_X1 w h)
  have qq_54 := hts (Cond.classLink RX6 9 RX1) (List.mem_cons_of_mem _ wq_54)
  have qq_55 := hts (Cond.instantiable RX1 7) (List.mem_cons_of_mem _ wq_55)
  have qq_33 := hts (Cond.initialized RX1) (List.mem_cons_of_mem _ wq_33)
  have qn_11 := hC.2.2.2.1.1 (RX6, 11, yX1_init, RX6) (List.mem_of_getElem? (i := 0) rfl)
  have qq_57 := hts (Cond.instanceMethod yX1_init) (List.mem_cons_of_mem _ wq_57)
  have qq_317 := hts (Cond.fieldLink RX6 12 "TagTower" "counters" "LTagTower$Counters;") (List.mem_cons_of_mem _ wq_317)
  have iX6 : ∀ w ∈ wsX60, w ∈ vX6_init := fun w h => List.mem_cons_of_mem _ (wi_X6 w h)
  have iX3 : ∀ w ∈ wsX30, w ∈ vX6_init := fun w h => List.mem_cons_of_mem _ (wi_X3 w h)
  have qq_83 := hts (Cond.classLink RX6 16 RX3) (List.mem_cons_of_mem _ wq_83)
  have qq_84 := hts (Cond.instantiable RX3 9) (List.mem_cons_of_mem _ wq_84)
  have qq_34 := hts (Cond.initialized RX3) (List.mem_cons_of_mem _ wq_34)
  have qn_18 := hC.2.2.2.1.1 (RX6, 18, yX3_init, RX6) (List.mem_of_getElem? (i := 1) rfl)
  have qq_86 := hts (Cond.instanceMethod yX3_init) (List.mem_cons_of_mem _ wq_86)
  have qq_318 := hts (Cond.fieldLink RX6 19 "TagTower" "machine" "LTagTower$Machine;") (List.mem_cons_of_mem _ wq_318)
  have iX4 : ∀ w ∈ wsX40, w ∈ vX6_init := fun w h => List.mem_cons_of_mem _ (wi_X4 w h)
  have qq_122 := hts (Cond.classLink RX6 23 RX4) (List.mem_cons_of_mem _ wq_122)
  have qq_123 := hts (Cond.instantiable RX4 2) (List.mem_cons_of_mem _ wq_123)
  have qq_35 := hts (Cond.initialized RX4) (List.mem_cons_of_mem _ wq_35)
  have qq_124 := hts (Cond.methodLink RX6 25 yX4_init) (List.mem_cons_of_mem _ wq_124)
  have qq_125 := hts (Cond.instanceMethod yX4_init) (List.mem_cons_of_mem _ wq_125)
  have qq_319 := hts (Cond.fieldLink RX6 26 "TagTower" "productions" "LTagTower$Productions;") (List.mem_cons_of_mem _ wq_319)
  have iX5 : ∀ w ∈ wsX50, w ∈ vX6_init := fun w h => List.mem_cons_of_mem _ (wi_X5 w h)
  have qq_266 := hts (Cond.classLink RX6 30 RX5) (List.mem_cons_of_mem _ wq_266)
  have qq_267 := hts (Cond.instantiable RX5 2) (List.mem_cons_of_mem _ wq_267)
  have qq_42 := hts (Cond.initialized RX5) (List.mem_cons_of_mem _ wq_42)
  have qn_32 := hC.2.2.2.1.1 (RX6, 32, yX5_init, RX6) (List.mem_of_getElem? (i := 3) rfl)
  have qq_269 := hts (Cond.instanceMethod yX5_init) (List.mem_cons_of_mem _ wq_269)
  have qq_320 := hts (Cond.fieldLink RX6 33 "TagTower" "word" "LTagTower$Word;") (List.mem_cons_of_mem _ wq_320)
  have iX0 : ∀ w ∈ wsX00, w ∈ vX6_init := fun w h => List.mem_cons_of_mem _ (wi_X0 w h)
  have qq_300 := hts (Cond.classLink RX6 37 RX0) (List.mem_cons_of_mem _ wq_300)
  have qq_301 := hts (Cond.instantiable RX0 2) (List.mem_cons_of_mem _ wq_301)
  have qq_44 := hts (Cond.initialized RX0) (List.mem_cons_of_mem _ wq_44)
  have qn_39 := hC.2.2.2.1.1 (RX6, 39, yX0_init, RX6) (List.mem_of_getElem? (i := 4) rfl)
  have qq_303 := hts (Cond.instanceMethod yX0_init) (List.mem_cons_of_mem _ wq_303)
  have qq_321 := hts (Cond.fieldLink RX6 40 "TagTower" "bitRow" "LTagTower$Bits;") (List.mem_cons_of_mem _ wq_321)
  have hl : lv_has ls 1 [(0, .ref ax)] := hl
  have hP : va_P Z.1 vwCl [(ax, .inr (6, [.null, .null, .null, .null, .null]))] s.heap := hP
  have hD : va_D A [(ax, .inr (6, [.null, .null, .null, .null, .null]))] := hD
  refine lv_aload_n hx hb dX6_init_0 rfl (lv_at hl 0 rfl) ?_
  refine W.objInit hx hb hown qq_51 qq_52 qq_53 rfl (by rw [hml]; exact hl.1) rfl dX6_init_1 (Nat.le_of_ble_eq_true rfl) (Nat.le_of_ble_eq_true rfl) ?_
  refine W.eq (g2 := F0 m 4 ls []) rfl ?_
  refine lv_aload_n hx hb dX6_init_4 rfl (lv_at hl 0 rfl) ?_
  refine va_new (D := Z.1) (ci := 1) (fs := [.null, .null, .null, .null, .null, .int (nI 0), .int (nI 0)]) (C := RX1) (T := TX1) (N := 7) hx hb hts iX1 tyX1 tyX1_ok hown qq_54 qq_55 qq_33 hK hP hD hS hC.2.2.1 rfl (fun j hj => by rcases (show j = 0 ∨ j = 1 ∨ j = 2 ∨ j = 3 ∨ j = 4 ∨ j = 5 ∨ j = 6 by omega) with rfl | rfl | rfl | rfl | rfl | rfl | rfl <;> rfl) (Nat.le_of_ble_eq_true rfl) (Nat.le_of_ble_eq_true rfl) dX6_init_5 (fun hc H hP hD hS => ?_)
  have hP : va_P Z.1 vwCl [(ax, .inr (6, [.null, .null, .null, .null, .null])), (hc, .inr (1, [.null, .null, .null, .null, .null, .int (nI 0), .int (nI 0)]))] H := hP
  have hD : va_D A [(ax, .inr (6, [.null, .null, .null, .null, .null])), (hc, .inr (1, [.null, .null, .null, .null, .null, .int (nI 0), .int (nI 0)]))] := hD
  refine lv_dup hx hb dX6_init_8 rfl ?_
  refine x_INv (ret := none) (y := yX1_init) (As := []) (wc := [(hc, .inr (1, [.null, .null, .null, .null, .null, .int (nI 0), .int (nI 0)]))]) (wr := [(ax, .inr (6, [.null, .null, .null, .null, .null]))]) hC hP hD hS (c_X1_init l Z hc) (gCo wq_58) qn_11 qq_33 qq_57 rfl rfl ks_X1_init ⟨rfl, rfl⟩ rfl hl.1 rfl ⟨Nat.le_of_ble_eq_true rfl, Nat.le_of_ble_eq_true rfl⟩ [1] [0] rfl rfl (by decide) (by decide) (by decide) rfl dX6_init_9 (fun w1 H locs hw hP hD hS => ?_)
  obtain ⟨b0, b1, b2, b3, b4, rfl⟩ := hw
  have hP : va_P Z.1 vwCl [(ax, .inr (6, [.null, .null, .null, .null, .null])), (hc, .inr (1, [.ref b0, .ref b1, .ref b2, .ref b3, .ref b4, .int (nI 0), .int (nI 0)])), (b0, xI Z 4 ((fun _ => 0))), (b1, xI Z 24 ((fun _ => 0))), (b2, xI Z 24 ((fun _ => 0))), (b3, xI Z 24 ((fun _ => 0))), (b4, xI Z 24 ((fun _ => 0)))] H := hP
  have hD : va_D A [(ax, .inr (6, [.null, .null, .null, .null, .null])), (hc, .inr (1, [.ref b0, .ref b1, .ref b2, .ref b3, .ref b4, .int (nI 0), .int (nI 0)])), (b0, xI Z 4 ((fun _ => 0))), (b1, xI Z 24 ((fun _ => 0))), (b2, xI Z 24 ((fun _ => 0))), (b3, xI Z 24 ((fun _ => 0))), (b4, xI Z 24 ((fun _ => 0)))] := hD
  refine va_putF (D := Z.1) (ci := 6) (v := .ref hc) (ty := tyX6 0) (C := RX6) (T := TX6) (N := 5) hx hb hts iX6 tyX6 tyX6_ok nmX6 hown hK hP hD hS 0 rfl rfl 0 (Nat.le_of_ble_eq_true rfl) qq_317 (fun _ h9 => h9) rfl hname rfl (tyX6_ok 0 (Nat.le_of_ble_eq_true rfl)) rfl rfl (Nat.le_of_ble_eq_true rfl) dX6_init_12 (fun H locs hP hD hS => ?_)
  have hP : va_P Z.1 vwCl [(ax, .inr (6, [.ref hc, .null, .null, .null, .null])), (hc, .inr (1, [.ref b0, .ref b1, .ref b2, .ref b3, .ref b4, .int (nI 0), .int (nI 0)])), (b0, xI Z 4 ((fun _ => 0))), (b1, xI Z 24 ((fun _ => 0))), (b2, xI Z 24 ((fun _ => 0))), (b3, xI Z 24 ((fun _ => 0))), (b4, xI Z 24 ((fun _ => 0)))] H := hP
  have hD : va_D A [(ax, .inr (6, [.ref hc, .null, .null, .null, .null])), (hc, .inr (1, [.ref b0, .ref b1, .ref b2, .ref b3, .ref b4, .int (nI 0), .int (nI 0)])), (b0, xI Z 4 ((fun _ => 0))), (b1, xI Z 24 ((fun _ => 0))), (b2, xI Z 24 ((fun _ => 0))), (b3, xI Z 24 ((fun _ => 0))), (b4, xI Z 24 ((fun _ => 0)))] := hD
  refine lv_aload_n hx hb dX6_init_15 rfl (lv_at hl 0 rfl) ?_
  refine va_new (D := Z.1) (ci := 3) (fs := [.null, .null, .null, .null, .int (nI 0), .int (nI 0), .int (nI 0), .int (nI 0), .int (nI 0)]) (C := RX3) (T := TX3) (N := 9) hx hb hts iX3 tyX3 tyX3_ok hown qq_83 qq_84 qq_34 hK hP hD hS hC.2.2.1 rfl (fun j hj => by rcases (show j = 0 ∨ j = 1 ∨ j = 2 ∨ j = 3 ∨ j = 4 ∨ j = 5 ∨ j = 6 ∨ j = 7 ∨ j = 8 by omega) with rfl | rfl | rfl | rfl | rfl | rfl | rfl | rfl | rfl <;> rfl) (Nat.le_of_ble_eq_true rfl) (Nat.le_of_ble_eq_true rfl) dX6_init_16 (fun hm H hP hD hS => ?_)
  have hP : va_P Z.1 vwCl [(ax, .inr (6, [.ref hc, .null, .null, .null, .null])), (hc, .inr (1, [.ref b0, .ref b1, .ref b2, .ref b3, .ref b4, .int (nI 0), .int (nI 0)])), (b0, xI Z 4 ((fun _ => 0))), (b1, xI Z 24 ((fun _ => 0))), (b2, xI Z 24 ((fun _ => 0))), (b3, xI Z 24 ((fun _ => 0))), (b4, xI Z 24 ((fun _ => 0))), (hm, .inr (3, [.null, .null, .null, .null, .int (nI 0), .int (nI 0), .int (nI 0), .int (nI 0), .int (nI 0)]))] H := hP
  have hD : va_D A [(ax, .inr (6, [.ref hc, .null, .null, .null, .null])), (hc, .inr (1, [.ref b0, .ref b1, .ref b2, .ref b3, .ref b4, .int (nI 0), .int (nI 0)])), (b0, xI Z 4 ((fun _ => 0))), (b1, xI Z 24 ((fun _ => 0))), (b2, xI Z 24 ((fun _ => 0))), (b3, xI Z 24 ((fun _ => 0))), (b4, xI Z 24 ((fun _ => 0))), (hm, .inr (3, [.null, .null, .null, .null, .int (nI 0), .int (nI 0), .int (nI 0), .int (nI 0), .int (nI 0)]))] := hD
  refine lv_dup hx hb dX6_init_19 rfl ?_
  refine x_INv (ret := none) (y := yX3_init) (As := []) (wc := [(hm, .inr (3, [.null, .null, .null, .null, .int (nI 0), .int (nI 0), .int (nI 0), .int (nI 0), .int (nI 0)]))]) (wr := [(ax, .inr (6, [.ref hc, .null, .null, .null, .null])), (hc, .inr (1, [.ref b0, .ref b1, .ref b2, .ref b3, .ref b4, .int (nI 0), .int (nI 0)])), (b0, xI Z 4 ((fun _ => 0))), (b1, xI Z 24 ((fun _ => 0))), (b2, xI Z 24 ((fun _ => 0))), (b3, xI Z 24 ((fun _ => 0))), (b4, xI Z 24 ((fun _ => 0)))]) hC hP hD hS (c_X3_init l Z hm) (gCo wq_87) qn_18 qq_34 qq_86 rfl rfl ks_X3_init ⟨rfl, rfl⟩ rfl hl.1 rfl ⟨Nat.le_of_ble_eq_true rfl, Nat.le_of_ble_eq_true rfl⟩ [7] [0, 1, 2, 3, 4, 5, 6] rfl rfl (by decide) (by decide) (by decide) rfl dX6_init_20 (fun w1 H locs hw hP hD hS => ?_)
  obtain ⟨a0, a1, a2, a3, rfl⟩ := hw
  have hP : va_P Z.1 vwCl [(ax, .inr (6, [.ref hc, .null, .null, .null, .null])), (hc, .inr (1, [.ref b0, .ref b1, .ref b2, .ref b3, .ref b4, .int (nI 0), .int (nI 0)])), (b0, xI Z 4 ((fun _ => 0))), (b1, xI Z 24 ((fun _ => 0))), (b2, xI Z 24 ((fun _ => 0))), (b3, xI Z 24 ((fun _ => 0))), (b4, xI Z 24 ((fun _ => 0))), (hm, .inr (3, [.ref a0, .ref a1, .ref a2, .ref a3, .int (nI 0), .int (nI 0), .int (nI 0), .int (nI 0), .int (nI 0)])), (a0, xO Z 6 ((fun _ => 0))), (a1, xI Z 6 ((fun _ => 0))), (a2, xI Z 6 ((fun _ => 0))), (a3, xI Z 6 ((fun _ => 0)))] H := hP
  have hD : va_D A [(ax, .inr (6, [.ref hc, .null, .null, .null, .null])), (hc, .inr (1, [.ref b0, .ref b1, .ref b2, .ref b3, .ref b4, .int (nI 0), .int (nI 0)])), (b0, xI Z 4 ((fun _ => 0))), (b1, xI Z 24 ((fun _ => 0))), (b2, xI Z 24 ((fun _ => 0))), (b3, xI Z 24 ((fun _ => 0))), (b4, xI Z 24 ((fun _ => 0))), (hm, .inr (3, [.ref a0, .ref a1, .ref a2, .ref a3, .int (nI 0), .int (nI 0), .int (nI 0), .int (nI 0), .int (nI 0)])), (a0, xO Z 6 ((fun _ => 0))), (a1, xI Z 6 ((fun _ => 0))), (a2, xI Z 6 ((fun _ => 0))), (a3, xI Z 6 ((fun _ => 0)))] := hD
  refine va_putF (D := Z.1) (ci := 6) (v := .ref hm) (ty := tyX6 1) (C := RX6) (T := TX6) (N := 5) hx hb hts iX6 tyX6 tyX6_ok nmX6 hown hK hP hD hS 0 rfl rfl 1 (Nat.le_of_ble_eq_true rfl) qq_318 (fun _ h9 => h9) rfl hname rfl (tyX6_ok 1 (Nat.le_of_ble_eq_true rfl)) rfl rfl (Nat.le_of_ble_eq_true rfl) dX6_init_23 (fun H locs hP hD hS => ?_)
  have hP : va_P Z.1 vwCl [(ax, .inr (6, [.ref hc, .ref hm, .null, .null, .null])), (hc, .inr (1, [.ref b0, .ref b1, .ref b2, .ref b3, .ref b4, .int (nI 0), .int (nI 0)])), (b0, xI Z 4 ((fun _ => 0))), (b1, xI Z 24 ((fun _ => 0))), (b2, xI Z 24 ((fun _ => 0))), (b3, xI Z 24 ((fun _ => 0))), (b4, xI Z 24 ((fun _ => 0))), (hm, .inr (3, [.ref a0, .ref a1, .ref a2, .ref a3, .int (nI 0), .int (nI 0), .int (nI 0), .int (nI 0), .int (nI 0)])), (a0, xO Z 6 ((fun _ => 0))), (a1, xI Z 6 ((fun _ => 0))), (a2, xI Z 6 ((fun _ => 0))), (a3, xI Z 6 ((fun _ => 0)))] H := hP
  have hD : va_D A [(ax, .inr (6, [.ref hc, .ref hm, .null, .null, .null])), (hc, .inr (1, [.ref b0, .ref b1, .ref b2, .ref b3, .ref b4, .int (nI 0), .int (nI 0)])), (b0, xI Z 4 ((fun _ => 0))), (b1, xI Z 24 ((fun _ => 0))), (b2, xI Z 24 ((fun _ => 0))), (b3, xI Z 24 ((fun _ => 0))), (b4, xI Z 24 ((fun _ => 0))), (hm, .inr (3, [.ref a0, .ref a1, .ref a2, .ref a3, .int (nI 0), .int (nI 0), .int (nI 0), .int (nI 0), .int (nI 0)])), (a0, xO Z 6 ((fun _ => 0))), (a1, xI Z 6 ((fun _ => 0))), (a2, xI Z 6 ((fun _ => 0))), (a3, xI Z 6 ((fun _ => 0)))] := hD
  refine lv_aload_n hx hb dX6_init_26 rfl (lv_at hl 0 rfl) ?_
  refine va_new (D := Z.1) (ci := 4) (fs := [.null, .null]) (C := RX4) (T := TX4) (N := 2) hx hb hts iX4 tyX4 tyX4_ok hown qq_122 qq_123 qq_35 hK hP hD hS hC.2.2.1 rfl (fun j hj => by rcases (show j = 0 ∨ j = 1 by omega) with rfl | rfl <;> rfl) (Nat.le_of_ble_eq_true rfl) (Nat.le_of_ble_eq_true rfl) dX6_init_27 (fun hp H hP hD hS => ?_)
  have hP : va_P Z.1 vwCl [(ax, .inr (6, [.ref hc, .ref hm, .null, .null, .null])), (hc, .inr (1, [.ref b0, .ref b1, .ref b2, .ref b3, .ref b4, .int (nI 0), .int (nI 0)])), (b0, xI Z 4 ((fun _ => 0))), (b1, xI Z 24 ((fun _ => 0))), (b2, xI Z 24 ((fun _ => 0))), (b3, xI Z 24 ((fun _ => 0))), (b4, xI Z 24 ((fun _ => 0))), (hm, .inr (3, [.ref a0, .ref a1, .ref a2, .ref a3, .int (nI 0), .int (nI 0), .int (nI 0), .int (nI 0), .int (nI 0)])), (a0, xO Z 6 ((fun _ => 0))), (a1, xI Z 6 ((fun _ => 0))), (a2, xI Z 6 ((fun _ => 0))), (a3, xI Z 6 ((fun _ => 0))), (hp, .inr (4, [.null, .null]))] H := hP
  have hD : va_D A [(ax, .inr (6, [.ref hc, .ref hm, .null, .null, .null])), (hc, .inr (1, [.ref b0, .ref b1, .ref b2, .ref b3, .ref b4, .int (nI 0), .int (nI 0)])), (b0, xI Z 4 ((fun _ => 0))), (b1, xI Z 24 ((fun _ => 0))), (b2, xI Z 24 ((fun _ => 0))), (b3, xI Z 24 ((fun _ => 0))), (b4, xI Z 24 ((fun _ => 0))), (hm, .inr (3, [.ref a0, .ref a1, .ref a2, .ref a3, .int (nI 0), .int (nI 0), .int (nI 0), .int (nI 0), .int (nI 0)])), (a0, xO Z 6 ((fun _ => 0))), (a1, xI Z 6 ((fun _ => 0))), (a2, xI Z 6 ((fun _ => 0))), (a3, xI Z 6 ((fun _ => 0))), (hp, .inr (4, [.null, .null]))] := hD
  refine lv_dup hx hb dX6_init_30 rfl ?_
  refine x_Iv (ret := none) (y := yX4_init) (As := []) (wc := [(hp, .inr (4, [.null, .null]))]) (wr := [(ax, .inr (6, [.ref hc, .ref hm, .null, .null, .null])), (hc, .inr (1, [.ref b0, .ref b1, .ref b2, .ref b3, .ref b4, .int (nI 0), .int (nI 0)])), (b0, xI Z 4 ((fun _ => 0))), (b1, xI Z 24 ((fun _ => 0))), (b2, xI Z 24 ((fun _ => 0))), (b3, xI Z 24 ((fun _ => 0))), (b4, xI Z 24 ((fun _ => 0))), (hm, .inr (3, [.ref a0, .ref a1, .ref a2, .ref a3, .int (nI 0), .int (nI 0), .int (nI 0), .int (nI 0), .int (nI 0)])), (a0, xO Z 6 ((fun _ => 0))), (a1, xI Z 6 ((fun _ => 0))), (a2, xI Z 6 ((fun _ => 0))), (a3, xI Z 6 ((fun _ => 0)))]) hC hP hD hS (c_X4_init l Z hp) (gCo wq_126) qq_35 qq_124 qq_125 rfl rfl ks_X4_init ⟨rfl, rfl⟩ rfl hl.1 rfl ⟨Nat.le_of_ble_eq_true rfl, Nat.le_of_ble_eq_true rfl⟩ [12] [0, 1, 2, 3, 4, 5, 6, 7, 8, 9, 10, 11] rfl rfl (by decide) (by decide) (by decide) rfl dX6_init_31 (fun w1 H locs hw hP hD hS => ?_)
  obtain ⟨s0, s1, sz2, lt2, hT2, rfl⟩ := hw
  have hP : va_P Z.1 vwCl [(ax, .inr (6, [.ref hc, .ref hm, .null, .null, .null])), (hc, .inr (1, [.ref b0, .ref b1, .ref b2, .ref b3, .ref b4, .int (nI 0), .int (nI 0)])), (b0, xI Z 4 ((fun _ => 0))), (b1, xI Z 24 ((fun _ => 0))), (b2, xI Z 24 ((fun _ => 0))), (b3, xI Z 24 ((fun _ => 0))), (b4, xI Z 24 ((fun _ => 0))), (hm, .inr (3, [.ref a0, .ref a1, .ref a2, .ref a3, .int (nI 0), .int (nI 0), .int (nI 0), .int (nI 0), .int (nI 0)])), (a0, xO Z 6 ((fun _ => 0))), (a1, xI Z 6 ((fun _ => 0))), (a2, xI Z 6 ((fun _ => 0))), (a3, xI Z 6 ((fun _ => 0))), (hp, .inr (4, [.ref s0, .ref s1])), (s0, xI Z 121 sz2), (s1, xI Z 484 lt2)] H := hP
  have hD : va_D A [(ax, .inr (6, [.ref hc, .ref hm, .null, .null, .null])), (hc, .inr (1, [.ref b0, .ref b1, .ref b2, .ref b3, .ref b4, .int (nI 0), .int (nI 0)])), (b0, xI Z 4 ((fun _ => 0))), (b1, xI Z 24 ((fun _ => 0))), (b2, xI Z 24 ((fun _ => 0))), (b3, xI Z 24 ((fun _ => 0))), (b4, xI Z 24 ((fun _ => 0))), (hm, .inr (3, [.ref a0, .ref a1, .ref a2, .ref a3, .int (nI 0), .int (nI 0), .int (nI 0), .int (nI 0), .int (nI 0)])), (a0, xO Z 6 ((fun _ => 0))), (a1, xI Z 6 ((fun _ => 0))), (a2, xI Z 6 ((fun _ => 0))), (a3, xI Z 6 ((fun _ => 0))), (hp, .inr (4, [.ref s0, .ref s1])), (s0, xI Z 121 sz2), (s1, xI Z 484 lt2)] := hD
  refine va_putF (D := Z.1) (ci := 6) (v := .ref hp) (ty := tyX6 2) (C := RX6) (T := TX6) (N := 5) hx hb hts iX6 tyX6 tyX6_ok nmX6 hown hK hP hD hS 0 rfl rfl 2 (Nat.le_of_ble_eq_true rfl) qq_319 (fun _ h9 => h9) rfl hname rfl (tyX6_ok 2 (Nat.le_of_ble_eq_true rfl)) rfl rfl (Nat.le_of_ble_eq_true rfl) dX6_init_34 (fun H locs hP hD hS => ?_)
  have hP : va_P Z.1 vwCl [(ax, .inr (6, [.ref hc, .ref hm, .ref hp, .null, .null])), (hc, .inr (1, [.ref b0, .ref b1, .ref b2, .ref b3, .ref b4, .int (nI 0), .int (nI 0)])), (b0, xI Z 4 ((fun _ => 0))), (b1, xI Z 24 ((fun _ => 0))), (b2, xI Z 24 ((fun _ => 0))), (b3, xI Z 24 ((fun _ => 0))), (b4, xI Z 24 ((fun _ => 0))), (hm, .inr (3, [.ref a0, .ref a1, .ref a2, .ref a3, .int (nI 0), .int (nI 0), .int (nI 0), .int (nI 0), .int (nI 0)])), (a0, xO Z 6 ((fun _ => 0))), (a1, xI Z 6 ((fun _ => 0))), (a2, xI Z 6 ((fun _ => 0))), (a3, xI Z 6 ((fun _ => 0))), (hp, .inr (4, [.ref s0, .ref s1])), (s0, xI Z 121 sz2), (s1, xI Z 484 lt2)] H := hP
  have hD : va_D A [(ax, .inr (6, [.ref hc, .ref hm, .ref hp, .null, .null])), (hc, .inr (1, [.ref b0, .ref b1, .ref b2, .ref b3, .ref b4, .int (nI 0), .int (nI 0)])), (b0, xI Z 4 ((fun _ => 0))), (b1, xI Z 24 ((fun _ => 0))), (b2, xI Z 24 ((fun _ => 0))), (b3, xI Z 24 ((fun _ => 0))), (b4, xI Z 24 ((fun _ => 0))), (hm, .inr (3, [.ref a0, .ref a1, .ref a2, .ref a3, .int (nI 0), .int (nI 0), .int (nI 0), .int (nI 0), .int (nI 0)])), (a0, xO Z 6 ((fun _ => 0))), (a1, xI Z 6 ((fun _ => 0))), (a2, xI Z 6 ((fun _ => 0))), (a3, xI Z 6 ((fun _ => 0))), (hp, .inr (4, [.ref s0, .ref s1])), (s0, xI Z 121 sz2), (s1, xI Z 484 lt2)] := hD
  refine lv_aload_n hx hb dX6_init_37 rfl (lv_at hl 0 rfl) ?_
  refine va_new (D := Z.1) (ci := 5) (fs := [.null, .null]) (C := RX5) (T := TX5) (N := 2) hx hb hts iX5 tyX5 tyX5_ok hown qq_266 qq_267 qq_42 hK hP hD hS hC.2.2.1 rfl (fun j hj => by rcases (show j = 0 ∨ j = 1 by omega) with rfl | rfl <;> rfl) (Nat.le_of_ble_eq_true rfl) (Nat.le_of_ble_eq_true rfl) dX6_init_38 (fun hw H hP hD hS => ?_)
  have hP : va_P Z.1 vwCl [(ax, .inr (6, [.ref hc, .ref hm, .ref hp, .null, .null])), (hc, .inr (1, [.ref b0, .ref b1, .ref b2, .ref b3, .ref b4, .int (nI 0), .int (nI 0)])), (b0, xI Z 4 ((fun _ => 0))), (b1, xI Z 24 ((fun _ => 0))), (b2, xI Z 24 ((fun _ => 0))), (b3, xI Z 24 ((fun _ => 0))), (b4, xI Z 24 ((fun _ => 0))), (hm, .inr (3, [.ref a0, .ref a1, .ref a2, .ref a3, .int (nI 0), .int (nI 0), .int (nI 0), .int (nI 0), .int (nI 0)])), (a0, xO Z 6 ((fun _ => 0))), (a1, xI Z 6 ((fun _ => 0))), (a2, xI Z 6 ((fun _ => 0))), (a3, xI Z 6 ((fun _ => 0))), (hp, .inr (4, [.ref s0, .ref s1])), (s0, xI Z 121 sz2), (s1, xI Z 484 lt2), (hw, .inr (5, [.null, .null]))] H := hP
  have hD : va_D A [(ax, .inr (6, [.ref hc, .ref hm, .ref hp, .null, .null])), (hc, .inr (1, [.ref b0, .ref b1, .ref b2, .ref b3, .ref b4, .int (nI 0), .int (nI 0)])), (b0, xI Z 4 ((fun _ => 0))), (b1, xI Z 24 ((fun _ => 0))), (b2, xI Z 24 ((fun _ => 0))), (b3, xI Z 24 ((fun _ => 0))), (b4, xI Z 24 ((fun _ => 0))), (hm, .inr (3, [.ref a0, .ref a1, .ref a2, .ref a3, .int (nI 0), .int (nI 0), .int (nI 0), .int (nI 0), .int (nI 0)])), (a0, xO Z 6 ((fun _ => 0))), (a1, xI Z 6 ((fun _ => 0))), (a2, xI Z 6 ((fun _ => 0))), (a3, xI Z 6 ((fun _ => 0))), (hp, .inr (4, [.ref s0, .ref s1])), (s0, xI Z 121 sz2), (s1, xI Z 484 lt2), (hw, .inr (5, [.null, .null]))] := hD
  refine lv_dup hx hb dX6_init_41 rfl ?_
  refine x_INv (ret := none) (y := yX5_init) (As := []) (wc := [(hw, .inr (5, [.null, .null]))]) (wr := [(ax, .inr (6, [.ref hc, .ref hm, .ref hp, .null, .null])), (hc, .inr (1, [.ref b0, .ref b1, .ref b2, .ref b3, .ref b4, .int (nI 0), .int (nI 0)])), (b0, xI Z 4 ((fun _ => 0))), (b1, xI Z 24 ((fun _ => 0))), (b2, xI Z 24 ((fun _ => 0))), (b3, xI Z 24 ((fun _ => 0))), (b4, xI Z 24 ((fun _ => 0))), (hm, .inr (3, [.ref a0, .ref a1, .ref a2, .ref a3, .int (nI 0), .int (nI 0), .int (nI 0), .int (nI 0), .int (nI 0)])), (a0, xO Z 6 ((fun _ => 0))), (a1, xI Z 6 ((fun _ => 0))), (a2, xI Z 6 ((fun _ => 0))), (a3, xI Z 6 ((fun _ => 0))), (hp, .inr (4, [.ref s0, .ref s1])), (s0, xI Z 121 sz2), (s1, xI Z 484 lt2)]) hC hP hD hS (c_X5_init l Z hw) (gCo wq_270) qn_32 qq_42 qq_269 rfl rfl ks_X5_init ⟨rfl, rfl⟩ rfl hl.1 rfl ⟨Nat.le_of_ble_eq_true rfl, Nat.le_of_ble_eq_true rfl⟩ [15] [0, 1, 2, 3, 4, 5, 6, 7, 8, 9, 10, 11, 12, 13, 14] rfl rfl (by decide) (by decide) (by decide) rfl dX6_init_42 (fun w1 H locs hw hP hD hS => ?_)
  obtain ⟨vr, ar, vk, ak, rfl⟩ := hw
  have hP : va_P Z.1 vwCl [(ax, .inr (6, [.ref hc, .ref hm, .ref hp, .null, .null])), (hc, .inr (1, [.ref b0, .ref b1, .ref b2, .ref b3, .ref b4, .int (nI 0), .int (nI 0)])), (b0, xI Z 4 ((fun _ => 0))), (b1, xI Z 24 ((fun _ => 0))), (b2, xI Z 24 ((fun _ => 0))), (b3, xI Z 24 ((fun _ => 0))), (b4, xI Z 24 ((fun _ => 0))), (hm, .inr (3, [.ref a0, .ref a1, .ref a2, .ref a3, .int (nI 0), .int (nI 0), .int (nI 0), .int (nI 0), .int (nI 0)])), (a0, xO Z 6 ((fun _ => 0))), (a1, xI Z 6 ((fun _ => 0))), (a2, xI Z 6 ((fun _ => 0))), (a3, xI Z 6 ((fun _ => 0))), (hp, .inr (4, [.ref s0, .ref s1])), (s0, xI Z 121 sz2), (s1, xI Z 484 lt2), (hw, .inr (5, [.ref vr, .ref vk])), (vr, .inr (2, [.ref ar, .int (nI 0), .int (nI 0)])), (ar, xI Z 600 ((fun _ => 0))), (vk, .inr (2, [.ref ak, .int (nI 0), .int (nI 0)])), (ak, xI Z 600 ((fun _ => 0)))] H := hP
  have hD : va_D A [(ax, .inr (6, [.ref hc, .ref hm, .ref hp, .null, .null])), (hc, .inr (1, [.ref b0, .ref b1, .ref b2, .ref b3, .ref b4, .int (nI 0), .int (nI 0)])), (b0, xI Z 4 ((fun _ => 0))), (b1, xI Z 24 ((fun _ => 0))), (b2, xI Z 24 ((fun _ => 0))), (b3, xI Z 24 ((fun _ => 0))), (b4, xI Z 24 ((fun _ => 0))), (hm, .inr (3, [.ref a0, .ref a1, .ref a2, .ref a3, .int (nI 0), .int (nI 0), .int (nI 0), .int (nI 0), .int (nI 0)])), (a0, xO Z 6 ((fun _ => 0))), (a1, xI Z 6 ((fun _ => 0))), (a2, xI Z 6 ((fun _ => 0))), (a3, xI Z 6 ((fun _ => 0))), (hp, .inr (4, [.ref s0, .ref s1])), (s0, xI Z 121 sz2), (s1, xI Z 484 lt2), (hw, .inr (5, [.ref vr, .ref vk])), (vr, .inr (2, [.ref ar, .int (nI 0), .int (nI 0)])), (ar, xI Z 600 ((fun _ => 0))), (vk, .inr (2, [.ref ak, .int (nI 0), .int (nI 0)])), (ak, xI Z 600 ((fun _ => 0)))] := hD
  refine va_putF (D := Z.1) (ci := 6) (v := .ref hw) (ty := tyX6 3) (C := RX6) (T := TX6) (N := 5) hx hb hts iX6 tyX6 tyX6_ok nmX6 hown hK hP hD hS 0 rfl rfl 3 (Nat.le_of_ble_eq_true rfl) qq_320 (fun _ h9 => h9) rfl hname rfl (tyX6_ok 3 (Nat.le_of_ble_eq_true rfl)) rfl rfl (Nat.le_of_ble_eq_true rfl) dX6_init_45 (fun H locs hP hD hS => ?_)
  have hP : va_P Z.1 vwCl [(ax, .inr (6, [.ref hc, .ref hm, .ref hp, .ref hw, .null])), (hc, .inr (1, [.ref b0, .ref b1, .ref b2, .ref b3, .ref b4, .int (nI 0), .int (nI 0)])), (b0, xI Z 4 ((fun _ => 0))), (b1, xI Z 24 ((fun _ => 0))), (b2, xI Z 24 ((fun _ => 0))), (b3, xI Z 24 ((fun _ => 0))), (b4, xI Z 24 ((fun _ => 0))), (hm, .inr (3, [.ref a0, .ref a1, .ref a2, .ref a3, .int (nI 0), .int (nI 0), .int (nI 0), .int (nI 0), .int (nI 0)])), (a0, xO Z 6 ((fun _ => 0))), (a1, xI Z 6 ((fun _ => 0))), (a2, xI Z 6 ((fun _ => 0))), (a3, xI Z 6 ((fun _ => 0))), (hp, .inr (4, [.ref s0, .ref s1])), (s0, xI Z 121 sz2), (s1, xI Z 484 lt2), (hw, .inr (5, [.ref vr, .ref vk])), (vr, .inr (2, [.ref ar, .int (nI 0), .int (nI 0)])), (ar, xI Z 600 ((fun _ => 0))), (vk, .inr (2, [.ref ak, .int (nI 0), .int (nI 0)])), (ak, xI Z 600 ((fun _ => 0)))] H := hP
  have hD : va_D A [(ax, .inr (6, [.ref hc, .ref hm, .ref hp, .ref hw, .null])), (hc, .inr (1, [.ref b0, .ref b1, .ref b2, .ref b3, .ref b4, .int (nI 0), .int (nI 0)])), (b0, xI Z 4 ((fun _ => 0))), (b1, xI Z 24 ((fun _ => 0))), (b2, xI Z 24 ((fun _ => 0))), (b3, xI Z 24 ((fun _ => 0))), (b4, xI Z 24 ((fun _ => 0))), (hm, .inr (3, [.ref a0, .ref a1, .ref a2, .ref a3, .int (nI 0), .int (nI 0), .int (nI 0), .int (nI 0), .int (nI 0)])), (a0, xO Z 6 ((fun _ => 0))), (a1, xI Z 6 ((fun _ => 0))), (a2, xI Z 6 ((fun _ => 0))), (a3, xI Z 6 ((fun _ => 0))), (hp, .inr (4, [.ref s0, .ref s1])), (s0, xI Z 121 sz2), (s1, xI Z 484 lt2), (hw, .inr (5, [.ref vr, .ref vk])), (vr, .inr (2, [.ref ar, .int (nI 0), .int (nI 0)])), (ar, xI Z 600 ((fun _ => 0))), (vk, .inr (2, [.ref ak, .int (nI 0), .int (nI 0)])), (ak, xI Z 600 ((fun _ => 0)))] := hD
  refine lv_aload_n hx hb dX6_init_48 rfl (lv_at hl 0 rfl) ?_
  refine va_new (D := Z.1) (ci := 0) (fs := [.null, .int (nI 0)]) (C := RX0) (T := TX0) (N := 2) hx hb hts iX0 tyX0 tyX0_ok hown qq_300 qq_301 qq_44 hK hP hD hS hC.2.2.1 rfl (fun j hj => by rcases (show j = 0 ∨ j = 1 by omega) with rfl | rfl <;> rfl) (Nat.le_of_ble_eq_true rfl) (Nat.le_of_ble_eq_true rfl) dX6_init_49 (fun vb H hP hD hS => ?_)
  have hP : va_P Z.1 vwCl [(ax, .inr (6, [.ref hc, .ref hm, .ref hp, .ref hw, .null])), (hc, .inr (1, [.ref b0, .ref b1, .ref b2, .ref b3, .ref b4, .int (nI 0), .int (nI 0)])), (b0, xI Z 4 ((fun _ => 0))), (b1, xI Z 24 ((fun _ => 0))), (b2, xI Z 24 ((fun _ => 0))), (b3, xI Z 24 ((fun _ => 0))), (b4, xI Z 24 ((fun _ => 0))), (hm, .inr (3, [.ref a0, .ref a1, .ref a2, .ref a3, .int (nI 0), .int (nI 0), .int (nI 0), .int (nI 0), .int (nI 0)])), (a0, xO Z 6 ((fun _ => 0))), (a1, xI Z 6 ((fun _ => 0))), (a2, xI Z 6 ((fun _ => 0))), (a3, xI Z 6 ((fun _ => 0))), (hp, .inr (4, [.ref s0, .ref s1])), (s0, xI Z 121 sz2), (s1, xI Z 484 lt2), (hw, .inr (5, [.ref vr, .ref vk])), (vr, .inr (2, [.ref ar, .int (nI 0), .int (nI 0)])), (ar, xI Z 600 ((fun _ => 0))), (vk, .inr (2, [.ref ak, .int (nI 0), .int (nI 0)])), (ak, xI Z 600 ((fun _ => 0))), (vb, .inr (0, [.null, .int (nI 0)]))] H := hP
  have hD : va_D A [(ax, .inr (6, [.ref hc, .ref hm, .ref hp, .ref hw, .null])), (hc, .inr (1, [.ref b0, .ref b1, .ref b2, .ref b3, .ref b4, .int (nI 0), .int (nI 0)])), (b0, xI Z 4 ((fun _ => 0))), (b1, xI Z 24 ((fun _ => 0))), (b2, xI Z 24 ((fun _ => 0))), (b3, xI Z 24 ((fun _ => 0))), (b4, xI Z 24 ((fun _ => 0))), (hm, .inr (3, [.ref a0, .ref a1, .ref a2, .ref a3, .int (nI 0), .int (nI 0), .int (nI 0), .int (nI 0), .int (nI 0)])), (a0, xO Z 6 ((fun _ => 0))), (a1, xI Z 6 ((fun _ => 0))), (a2, xI Z 6 ((fun _ => 0))), (a3, xI Z 6 ((fun _ => 0))), (hp, .inr (4, [.ref s0, .ref s1])), (s0, xI Z 121 sz2), (s1, xI Z 484 lt2), (hw, .inr (5, [.ref vr, .ref vk])), (vr, .inr (2, [.ref ar, .int (nI 0), .int (nI 0)])), (ar, xI Z 600 ((fun _ => 0))), (vk, .inr (2, [.ref ak, .int (nI 0), .int (nI 0)])), (ak, xI Z 600 ((fun _ => 0))), (vb, .inr (0, [.null, .int (nI 0)]))] := hD
  refine lv_dup hx hb dX6_init_52 rfl ?_
  refine x_INv (ret := none) (y := yX0_init) (As := []) (wc := [(vb, .inr (0, [.null, .int (nI 0)]))]) (wr := [(ax, .inr (6, [.ref hc, .ref hm, .ref hp, .ref hw, .null])), (hc, .inr (1, [.ref b0, .ref b1, .ref b2, .ref b3, .ref b4, .int (nI 0), .int (nI 0)])), (b0, xI Z 4 ((fun _ => 0))), (b1, xI Z 24 ((fun _ => 0))), (b2, xI Z 24 ((fun _ => 0))), (b3, xI Z 24 ((fun _ => 0))), (b4, xI Z 24 ((fun _ => 0))), (hm, .inr (3, [.ref a0, .ref a1, .ref a2, .ref a3, .int (nI 0), .int (nI 0), .int (nI 0), .int (nI 0), .int (nI 0)])), (a0, xO Z 6 ((fun _ => 0))), (a1, xI Z 6 ((fun _ => 0))), (a2, xI Z 6 ((fun _ => 0))), (a3, xI Z 6 ((fun _ => 0))), (hp, .inr (4, [.ref s0, .ref s1])), (s0, xI Z 121 sz2), (s1, xI Z 484 lt2), (hw, .inr (5, [.ref vr, .ref vk])), (vr, .inr (2, [.ref ar, .int (nI 0), .int (nI 0)])), (ar, xI Z 600 ((fun _ => 0))), (vk, .inr (2, [.ref ak, .int (nI 0), .int (nI 0)])), (ak, xI Z 600 ((fun _ => 0)))]) hC hP hD hS (c_X0_init l Z vb) (gCo wq_304) qn_39 qq_44 qq_303 rfl rfl ks_X0_init ⟨rfl, rfl⟩ rfl hl.1 rfl ⟨Nat.le_of_ble_eq_true rfl, Nat.le_of_ble_eq_true rfl⟩ [20] [0, 1, 2, 3, 4, 5, 6, 7, 8, 9, 10, 11, 12, 13, 14, 15, 16, 17, 18, 19] rfl rfl (by decide) (by decide) (by decide) rfl dX6_init_53 (fun w1 H locs hw hP hD hS => ?_)
  obtain ⟨vq, aq, rfl⟩ := hw
  have hP : va_P Z.1 vwCl [(ax, .inr (6, [.ref hc, .ref hm, .ref hp, .ref hw, .null])), (hc, .inr (1, [.ref b0, .ref b1, .ref b2, .ref b3, .ref b4, .int (nI 0), .int (nI 0)])), (b0, xI Z 4 ((fun _ => 0))), (b1, xI Z 24 ((fun _ => 0))), (b2, xI Z 24 ((fun _ => 0))), (b3, xI Z 24 ((fun _ => 0))), (b4, xI Z 24 ((fun _ => 0))), (hm, .inr (3, [.ref a0, .ref a1, .ref a2, .ref a3, .int (nI 0), .int (nI 0), .int (nI 0), .int (nI 0), .int (nI 0)])), (a0, xO Z 6 ((fun _ => 0))), (a1, xI Z 6 ((fun _ => 0))), (a2, xI Z 6 ((fun _ => 0))), (a3, xI Z 6 ((fun _ => 0))), (hp, .inr (4, [.ref s0, .ref s1])), (s0, xI Z 121 sz2), (s1, xI Z 484 lt2), (hw, .inr (5, [.ref vr, .ref vk])), (vr, .inr (2, [.ref ar, .int (nI 0), .int (nI 0)])), (ar, xI Z 600 ((fun _ => 0))), (vk, .inr (2, [.ref ak, .int (nI 0), .int (nI 0)])), (ak, xI Z 600 ((fun _ => 0))), (vb, .inr (0, [.ref vq, .int (nI 0)])), (vq, .inr (2, [.ref aq, .int (nI 0), .int (nI 0)])), (aq, xI Z 662 ((fun _ => 0)))] H := hP
  have hD : va_D A [(ax, .inr (6, [.ref hc, .ref hm, .ref hp, .ref hw, .null])), (hc, .inr (1, [.ref b0, .ref b1, .ref b2, .ref b3, .ref b4, .int (nI 0), .int (nI 0)])), (b0, xI Z 4 ((fun _ => 0))), (b1, xI Z 24 ((fun _ => 0))), (b2, xI Z 24 ((fun _ => 0))), (b3, xI Z 24 ((fun _ => 0))), (b4, xI Z 24 ((fun _ => 0))), (hm, .inr (3, [.ref a0, .ref a1, .ref a2, .ref a3, .int (nI 0), .int (nI 0), .int (nI 0), .int (nI 0), .int (nI 0)])), (a0, xO Z 6 ((fun _ => 0))), (a1, xI Z 6 ((fun _ => 0))), (a2, xI Z 6 ((fun _ => 0))), (a3, xI Z 6 ((fun _ => 0))), (hp, .inr (4, [.ref s0, .ref s1])), (s0, xI Z 121 sz2), (s1, xI Z 484 lt2), (hw, .inr (5, [.ref vr, .ref vk])), (vr, .inr (2, [.ref ar, .int (nI 0), .int (nI 0)])), (ar, xI Z 600 ((fun _ => 0))), (vk, .inr (2, [.ref ak, .int (nI 0), .int (nI 0)])), (ak, xI Z 600 ((fun _ => 0))), (vb, .inr (0, [.ref vq, .int (nI 0)])), (vq, .inr (2, [.ref aq, .int (nI 0), .int (nI 0)])), (aq, xI Z 662 ((fun _ => 0)))] := hD
  refine va_putF (D := Z.1) (ci := 6) (v := .ref vb) (ty := tyX6 4) (C := RX6) (T := TX6) (N := 5) hx hb hts iX6 tyX6 tyX6_ok nmX6 hown hK hP hD hS 0 rfl rfl 4 (Nat.le_of_ble_eq_true rfl) qq_321 (fun _ h9 => h9) rfl hname rfl (tyX6_ok 4 (Nat.le_of_ble_eq_true rfl)) rfl rfl (Nat.le_of_ble_eq_true rfl) dX6_init_56 (fun H locs hP hD hS => ?_)
  have hP : va_P Z.1 vwCl [(ax, .inr (6, [.ref hc, .ref hm, .ref hp, .ref hw, .ref vb])), (hc, .inr (1, [.ref b0, .ref b1, .ref b2, .ref b3, .ref b4, .int (nI 0), .int (nI 0)])), (b0, xI Z 4 ((fun _ => 0))), (b1, xI Z 24 ((fun _ => 0))), (b2, xI Z 24 ((fun _ => 0))), (b3, xI Z 24 ((fun _ => 0))), (b4, xI Z 24 ((fun _ => 0))), (hm, .inr (3, [.ref a0, .ref a1, .ref a2, .ref a3, .int (nI 0), .int (nI 0), .int (nI 0), .int (nI 0), .int (nI 0)])), (a0, xO Z 6 ((fun _ => 0))), (a1, xI Z 6 ((fun _ => 0))), (a2, xI Z 6 ((fun _ => 0))), (a3, xI Z 6 ((fun _ => 0))), (hp, .inr (4, [.ref s0, .ref s1])), (s0, xI Z 121 sz2), (s1, xI Z 484 lt2), (hw, .inr (5, [.ref vr, .ref vk])), (vr, .inr (2, [.ref ar, .int (nI 0), .int (nI 0)])), (ar, xI Z 600 ((fun _ => 0))), (vk, .inr (2, [.ref ak, .int (nI 0), .int (nI 0)])), (ak, xI Z 600 ((fun _ => 0))), (vb, .inr (0, [.ref vq, .int (nI 0)])), (vq, .inr (2, [.ref aq, .int (nI 0), .int (nI 0)])), (aq, xI Z 662 ((fun _ => 0)))] H := hP
  have hD : va_D A [(ax, .inr (6, [.ref hc, .ref hm, .ref hp, .ref hw, .ref vb])), (hc, .inr (1, [.ref b0, .ref b1, .ref b2, .ref b3, .ref b4, .int (nI 0), .int (nI 0)])), (b0, xI Z 4 ((fun _ => 0))), (b1, xI Z 24 ((fun _ => 0))), (b2, xI Z 24 ((fun _ => 0))), (b3, xI Z 24 ((fun _ => 0))), (b4, xI Z 24 ((fun _ => 0))), (hm, .inr (3, [.ref a0, .ref a1, .ref a2, .ref a3, .int (nI 0), .int (nI 0), .int (nI 0), .int (nI 0), .int (nI 0)])), (a0, xO Z 6 ((fun _ => 0))), (a1, xI Z 6 ((fun _ => 0))), (a2, xI Z 6 ((fun _ => 0))), (a3, xI Z 6 ((fun _ => 0))), (hp, .inr (4, [.ref s0, .ref s1])), (s0, xI Z 121 sz2), (s1, xI Z 484 lt2), (hw, .inr (5, [.ref vr, .ref vk])), (vr, .inr (2, [.ref ar, .int (nI 0), .int (nI 0)])), (ar, xI Z 600 ((fun _ => 0))), (vk, .inr (2, [.ref ak, .int (nI 0), .int (nI 0)])), (ak, xI Z 600 ((fun _ => 0))), (vb, .inr (0, [.ref vq, .int (nI 0)])), (vq, .inr (2, [.ref aq, .int (nI 0), .int (nI 0)])), (aq, xI Z 662 ((fun _ => 0)))] := hD
  refine W.widen (k := 22) (n := 2622) (Nat.le_of_ble_eq_true rfl) (Nat.le_of_ble_eq_true rfl) ?_
  exact x_vret hC hr hk hP hD hS dX6_init_59 ⟨hc, b0, b1, b2, b3, b4, hm, a0, a1, a2, a3, hp, s0, s1, hw, vr, ar, vk, ak, vb, vq, aq, 0, 0, 0, 0, fun _ => 0, fun _ => 0, fun _ => 0, fun _ => 0, sz2, lt2, fun _ => 0, fun _ => 0, fun _ => 0, MR_0, hT2, RR.nil (by decide), RR.nil (by decide), rfl⟩

theorem MR7_0 : MR7 (fun _ => none) (upd (upd (upd (upd (upd (upd (fun _ => nI 0) 0 (-1)) 1 (-1)) 2 (-1)) 3 (-1)) 4 (-1)) 5 (-1)) (fun _ => 0) (fun _ => 0) := ⟨fun q hq _ => by
  rcases (show q = 0 ∨ q = 1 ∨ q = 2 ∨ q = 3 ∨ q = 4 ∨ q = 5 by omega) with rfl | rfl | rfl | rfl | rfl | rfl <;> rfl, fun q z _ hz => by cases hz⟩

set_option maxHeartbeats 4000000 in
set_option maxRecDepth 100000 in
theorem c_X7_init (l : Launch) (Z : xZ) (mx : Nat) : xMv l Z yX7_init vX7_init ({ frames := 1, cells := 12, slots := 81525, locals := 12 } : Room) [.ref mx] [(mx, .inr (7, [.int (nI 0), .null, .int (nI 0), .null, .null, .null, .null, .int (nI 0), .null, .null, .null, .int (nI 0), .int (nI 0), .int (nI 0), .int (nI 0), .int (nI 0), .int (nI 0), .null, .int (nI 0), .null, .int (nI 0), .int (nI 0), .null, .int (nI 0), .int (nI 0), .null, .int (nI 0), .int (nI 0), .int (nI 0)]))] (fun w => MW mx xS0 w Z) := by
  refine x_v (by decide) rfl (Nat.le_of_ble_eq_true rfl) ?_
  intro p e s m args below meth c ls A hC hr hk hname hl hP hD hS
  have hx := hC.1.1
  have hb := hC.1.2.1
  have hml := hC.1.2.2.1
  have hown : s.vm.findClass RX7 = some m.cls := hC.1.2.2.2.1
  have hts := hC.1.2.2.2.2
  have hK := hC.2.1
  have qq_672 := hts (Cond.methodLink RX7 1 objectInit) (List.mem_cons_of_mem _ wq_672)
  have qq_52 := hts (Cond.instanceMethod objectInit) (List.mem_cons_of_mem _ wq_52)
  have qq_53 := hts (Cond.code objectInit ⟨#[0xb1]⟩ 1 none) (List.mem_cons_of_mem _ wq_53)
  have qq_82 := hts (Cond.arrayClass .int) (List.mem_cons_of_mem _ wq_82)
  have qq_675 := hts (Cond.fieldLink RX7 7 "TagTowerModel" "counter" "[I") (List.mem_cons_of_mem _ wq_675)
  have iX7 : ∀ w ∈ wsX70, w ∈ vX7_init := fun w h => List.mem_cons_of_mem _ (wi_X7 w h)
  have qq_677 := hts (Cond.fieldLink RX7 13 "TagTowerModel" "op" "[I") (List.mem_cons_of_mem _ wq_677)
  have qq_678 := hts (Cond.fieldLink RX7 16 "TagTowerModel" "which" "[I") (List.mem_cons_of_mem _ wq_678)
  have qq_679 := hts (Cond.fieldLink RX7 19 "TagTowerModel" "then" "[I") (List.mem_cons_of_mem _ wq_679)
  have qq_680 := hts (Cond.fieldLink RX7 22 "TagTowerModel" "other" "[I") (List.mem_cons_of_mem _ wq_680)
  have qq_682 := hts (Cond.fieldLink RX7 25 "TagTowerModel" "writes" "[I") (List.mem_cons_of_mem _ wq_682)
  have qq_683 := hts (Cond.fieldLink RX7 28 "TagTowerModel" "way" "[I") (List.mem_cons_of_mem _ wq_683)
  have qq_684 := hts (Cond.fieldLink RX7 31 "TagTowerModel" "goes" "[I") (List.mem_cons_of_mem _ wq_684)
  have qq_691 := hts (Cond.fieldLink RX7 34 "TagTowerModel" "word" "[I") (List.mem_cons_of_mem _ wq_691)
  have qq_693 := hts (Cond.fieldLink RX7 37 "TagTowerModel" "saved" "[I") (List.mem_cons_of_mem _ wq_693)
  have qq_673 := hts (Cond.constant RX7 40 (80001)) (List.mem_cons_of_mem _ wq_673)
  have qq_696 := hts (Cond.fieldLink RX7 41 "TagTowerModel" "bits" "[I") (List.mem_cons_of_mem _ wq_696)
  have qq_699 := hts (Cond.fieldLink RX7 44 "TagTowerModel" "makes" "[I") (List.mem_cons_of_mem _ wq_699)
  have hl : lv_has ls 1 [(0, .ref mx)] := hl
  have hP : va_P Z.1 vwCl [(mx, .inr (7, [.int (nI 0), .null, .int (nI 0), .null, .null, .null, .null, .int (nI 0), .null, .null, .null, .int (nI 0), .int (nI 0), .int (nI 0), .int (nI 0), .int (nI 0), .int (nI 0), .null, .int (nI 0), .null, .int (nI 0), .int (nI 0), .null, .int (nI 0), .int (nI 0), .null, .int (nI 0), .int (nI 0), .int (nI 0)]))] s.heap := hP
  have hD : va_D A [(mx, .inr (7, [.int (nI 0), .null, .int (nI 0), .null, .null, .null, .null, .int (nI 0), .null, .null, .null, .int (nI 0), .int (nI 0), .int (nI 0), .int (nI 0), .int (nI 0), .int (nI 0), .null, .int (nI 0), .null, .int (nI 0), .int (nI 0), .null, .int (nI 0), .int (nI 0), .null, .int (nI 0), .int (nI 0), .int (nI 0)]))] := hD
  refine lv_aload_n hx hb dX7_init_0 rfl (lv_at hl 0 rfl) ?_
  refine W.objInit hx hb hown qq_672 qq_52 qq_53 rfl (by rw [hml]; exact hl.1) rfl dX7_init_1 (Nat.le_of_ble_eq_true rfl) (Nat.le_of_ble_eq_true rfl) ?_
  refine W.eq (g2 := F0 m 4 ls []) rfl ?_
  refine lv_aload_n hx hb dX7_init_4 rfl (lv_at hl 0 rfl) ?_
  refine ln_const 4 hx hb dX7_init_5 (by decide) ?_
  refine ln_newI (N := 4) hx hb qq_82 hK hP hD hS hC.2.2.1 (by decide) (Nat.le_of_ble_eq_true rfl) (Nat.le_of_ble_eq_true rfl) dX7_init_6 (fun c0 H hP hD hS => ?_)
  have hP : va_P Z.1 vwCl [(mx, .inr (7, [.int (nI 0), .null, .int (nI 0), .null, .null, .null, .null, .int (nI 0), .null, .null, .null, .int (nI 0), .int (nI 0), .int (nI 0), .int (nI 0), .int (nI 0), .int (nI 0), .null, .int (nI 0), .null, .int (nI 0), .int (nI 0), .null, .int (nI 0), .int (nI 0), .null, .int (nI 0), .int (nI 0), .int (nI 0)])), (c0, xI Z 4 ((fun _ => 0)))] H := hP
  have hD : va_D A [(mx, .inr (7, [.int (nI 0), .null, .int (nI 0), .null, .null, .null, .null, .int (nI 0), .null, .null, .null, .int (nI 0), .int (nI 0), .int (nI 0), .int (nI 0), .int (nI 0), .int (nI 0), .null, .int (nI 0), .null, .int (nI 0), .int (nI 0), .null, .int (nI 0), .int (nI 0), .null, .int (nI 0), .int (nI 0), .int (nI 0)])), (c0, xI Z 4 ((fun _ => 0)))] := hD
  refine va_putF (D := Z.1) (ci := 7) (v := .ref c0) (ty := tyX7 1) (C := RX7) (T := TX7) (N := 29) hx hb hts iX7 tyX7 tyX7_ok nmX7 hown hK hP hD hS 0 rfl rfl 1 (Nat.le_of_ble_eq_true rfl) qq_675 (fun _ h9 => h9) rfl hname rfl (tyX7_ok 1 (Nat.le_of_ble_eq_true rfl)) rfl rfl (Nat.le_of_ble_eq_true rfl) dX7_init_8 (fun H locs hP hD hS => ?_)
  have hP : va_P Z.1 vwCl [(mx, .inr (7, [.int (nI 0), .ref c0, .int (nI 0), .null, .null, .null, .null, .int (nI 0), .null, .null, .null, .int (nI 0), .int (nI 0), .int (nI 0), .int (nI 0), .int (nI 0), .int (nI 0), .null, .int (nI 0), .null, .int (nI 0), .int (nI 0), .null, .int (nI 0), .int (nI 0), .null, .int (nI 0), .int (nI 0), .int (nI 0)])), (c0, xI Z 4 ((fun _ => 0)))] H := hP
  have hD : va_D A [(mx, .inr (7, [.int (nI 0), .ref c0, .int (nI 0), .null, .null, .null, .null, .int (nI 0), .null, .null, .null, .int (nI 0), .int (nI 0), .int (nI 0), .int (nI 0), .int (nI 0), .int (nI 0), .null, .int (nI 0), .null, .int (nI 0), .int (nI 0), .null, .int (nI 0), .int (nI 0), .null, .int (nI 0), .int (nI 0), .int (nI 0)])), (c0, xI Z 4 ((fun _ => 0)))] := hD
  refine lv_aload_n hx hb dX7_init_11 rfl (lv_at hl 0 rfl) ?_
  refine ln_bipush 24 hx hb dX7_init_12 (by decide) ?_
  refine ln_newI (N := 24) hx hb qq_82 hK hP hD hS hC.2.2.1 (by decide) (Nat.le_of_ble_eq_true rfl) (Nat.le_of_ble_eq_true rfl) dX7_init_14 (fun c1 H hP hD hS => ?_)
  have hP : va_P Z.1 vwCl [(mx, .inr (7, [.int (nI 0), .ref c0, .int (nI 0), .null, .null, .null, .null, .int (nI 0), .null, .null, .null, .int (nI 0), .int (nI 0), .int (nI 0), .int (nI 0), .int (nI 0), .int (nI 0), .null, .int (nI 0), .null, .int (nI 0), .int (nI 0), .null, .int (nI 0), .int (nI 0), .null, .int (nI 0), .int (nI 0), .int (nI 0)])), (c0, xI Z 4 ((fun _ => 0))), (c1, xI Z 24 ((fun _ => 0)))] H := hP
  have hD : va_D A [(mx, .inr (7, [.int (nI 0), .ref c0, .int (nI 0), .null, .null, .null, .null, .int (nI 0), .null, .null, .null, .int (nI 0), .int (nI 0), .int (nI 0), .int (nI 0), .int (nI 0), .int (nI 0), .null, .int (nI 0), .null, .int (nI 0), .int (nI 0), .null, .int (nI 0), .int (nI 0), .null, .int (nI 0), .int (nI 0), .int (nI 0)])), (c0, xI Z 4 ((fun _ => 0))), (c1, xI Z 24 ((fun _ => 0)))] := hD
  refine va_putF (D := Z.1) (ci := 7) (v := .ref c1) (ty := tyX7 3) (C := RX7) (T := TX7) (N := 29) hx hb hts iX7 tyX7 tyX7_ok nmX7 hown hK hP hD hS 0 rfl rfl 3 (Nat.le_of_ble_eq_true rfl) qq_677 (fun _ h9 => h9) rfl hname rfl (tyX7_ok 3 (Nat.le_of_ble_eq_true rfl)) rfl rfl (Nat.le_of_ble_eq_true rfl) dX7_init_16 (fun H locs hP hD hS => ?_)
  have hP : va_P Z.1 vwCl [(mx, .inr (7, [.int (nI 0), .ref c0, .int (nI 0), .ref c1, .null, .null, .null, .int (nI 0), .null, .null, .null, .int (nI 0), .int (nI 0), .int (nI 0), .int (nI 0), .int (nI 0), .int (nI 0), .null, .int (nI 0), .null, .int (nI 0), .int (nI 0), .null, .int (nI 0), .int (nI 0), .null, .int (nI 0), .int (nI 0), .int (nI 0)])), (c0, xI Z 4 ((fun _ => 0))), (c1, xI Z 24 ((fun _ => 0)))] H := hP
  have hD : va_D A [(mx, .inr (7, [.int (nI 0), .ref c0, .int (nI 0), .ref c1, .null, .null, .null, .int (nI 0), .null, .null, .null, .int (nI 0), .int (nI 0), .int (nI 0), .int (nI 0), .int (nI 0), .int (nI 0), .null, .int (nI 0), .null, .int (nI 0), .int (nI 0), .null, .int (nI 0), .int (nI 0), .null, .int (nI 0), .int (nI 0), .int (nI 0)])), (c0, xI Z 4 ((fun _ => 0))), (c1, xI Z 24 ((fun _ => 0)))] := hD
  refine lv_aload_n hx hb dX7_init_19 rfl (lv_at hl 0 rfl) ?_
  refine ln_bipush 24 hx hb dX7_init_20 (by decide) ?_
  refine ln_newI (N := 24) hx hb qq_82 hK hP hD hS hC.2.2.1 (by decide) (Nat.le_of_ble_eq_true rfl) (Nat.le_of_ble_eq_true rfl) dX7_init_22 (fun c2 H hP hD hS => ?_)
  have hP : va_P Z.1 vwCl [(mx, .inr (7, [.int (nI 0), .ref c0, .int (nI 0), .ref c1, .null, .null, .null, .int (nI 0), .null, .null, .null, .int (nI 0), .int (nI 0), .int (nI 0), .int (nI 0), .int (nI 0), .int (nI 0), .null, .int (nI 0), .null, .int (nI 0), .int (nI 0), .null, .int (nI 0), .int (nI 0), .null, .int (nI 0), .int (nI 0), .int (nI 0)])), (c0, xI Z 4 ((fun _ => 0))), (c1, xI Z 24 ((fun _ => 0))), (c2, xI Z 24 ((fun _ => 0)))] H := hP
  have hD : va_D A [(mx, .inr (7, [.int (nI 0), .ref c0, .int (nI 0), .ref c1, .null, .null, .null, .int (nI 0), .null, .null, .null, .int (nI 0), .int (nI 0), .int (nI 0), .int (nI 0), .int (nI 0), .int (nI 0), .null, .int (nI 0), .null, .int (nI 0), .int (nI 0), .null, .int (nI 0), .int (nI 0), .null, .int (nI 0), .int (nI 0), .int (nI 0)])), (c0, xI Z 4 ((fun _ => 0))), (c1, xI Z 24 ((fun _ => 0))), (c2, xI Z 24 ((fun _ => 0)))] := hD
  refine va_putF (D := Z.1) (ci := 7) (v := .ref c2) (ty := tyX7 4) (C := RX7) (T := TX7) (N := 29) hx hb hts iX7 tyX7 tyX7_ok nmX7 hown hK hP hD hS 0 rfl rfl 4 (Nat.le_of_ble_eq_true rfl) qq_678 (fun _ h9 => h9) rfl hname rfl (tyX7_ok 4 (Nat.le_of_ble_eq_true rfl)) rfl rfl (Nat.le_of_ble_eq_true rfl) dX7_init_24 (fun H locs hP hD hS => ?_)
  have hP : va_P Z.1 vwCl [(mx, .inr (7, [.int (nI 0), .ref c0, .int (nI 0), .ref c1, .ref c2, .null, .null, .int (nI 0), .null, .null, .null, .int (nI 0), .int (nI 0), .int (nI 0), .int (nI 0), .int (nI 0), .int (nI 0), .null, .int (nI 0), .null, .int (nI 0), .int (nI 0), .null, .int (nI 0), .int (nI 0), .null, .int (nI 0), .int (nI 0), .int (nI 0)])), (c0, xI Z 4 ((fun _ => 0))), (c1, xI Z 24 ((fun _ => 0))), (c2, xI Z 24 ((fun _ => 0)))] H := hP
  have hD : va_D A [(mx, .inr (7, [.int (nI 0), .ref c0, .int (nI 0), .ref c1, .ref c2, .null, .null, .int (nI 0), .null, .null, .null, .int (nI 0), .int (nI 0), .int (nI 0), .int (nI 0), .int (nI 0), .int (nI 0), .null, .int (nI 0), .null, .int (nI 0), .int (nI 0), .null, .int (nI 0), .int (nI 0), .null, .int (nI 0), .int (nI 0), .int (nI 0)])), (c0, xI Z 4 ((fun _ => 0))), (c1, xI Z 24 ((fun _ => 0))), (c2, xI Z 24 ((fun _ => 0)))] := hD
  refine lv_aload_n hx hb dX7_init_27 rfl (lv_at hl 0 rfl) ?_
  refine ln_bipush 24 hx hb dX7_init_28 (by decide) ?_
  refine ln_newI (N := 24) hx hb qq_82 hK hP hD hS hC.2.2.1 (by decide) (Nat.le_of_ble_eq_true rfl) (Nat.le_of_ble_eq_true rfl) dX7_init_30 (fun c3 H hP hD hS => ?_)
  have hP : va_P Z.1 vwCl [(mx, .inr (7, [.int (nI 0), .ref c0, .int (nI 0), .ref c1, .ref c2, .null, .null, .int (nI 0), .null, .null, .null, .int (nI 0), .int (nI 0), .int (nI 0), .int (nI 0), .int (nI 0), .int (nI 0), .null, .int (nI 0), .null, .int (nI 0), .int (nI 0), .null, .int (nI 0), .int (nI 0), .null, .int (nI 0), .int (nI 0), .int (nI 0)])), (c0, xI Z 4 ((fun _ => 0))), (c1, xI Z 24 ((fun _ => 0))), (c2, xI Z 24 ((fun _ => 0))), (c3, xI Z 24 ((fun _ => 0)))] H := hP
  have hD : va_D A [(mx, .inr (7, [.int (nI 0), .ref c0, .int (nI 0), .ref c1, .ref c2, .null, .null, .int (nI 0), .null, .null, .null, .int (nI 0), .int (nI 0), .int (nI 0), .int (nI 0), .int (nI 0), .int (nI 0), .null, .int (nI 0), .null, .int (nI 0), .int (nI 0), .null, .int (nI 0), .int (nI 0), .null, .int (nI 0), .int (nI 0), .int (nI 0)])), (c0, xI Z 4 ((fun _ => 0))), (c1, xI Z 24 ((fun _ => 0))), (c2, xI Z 24 ((fun _ => 0))), (c3, xI Z 24 ((fun _ => 0)))] := hD
  refine va_putF (D := Z.1) (ci := 7) (v := .ref c3) (ty := tyX7 5) (C := RX7) (T := TX7) (N := 29) hx hb hts iX7 tyX7 tyX7_ok nmX7 hown hK hP hD hS 0 rfl rfl 5 (Nat.le_of_ble_eq_true rfl) qq_679 (fun _ h9 => h9) rfl hname rfl (tyX7_ok 5 (Nat.le_of_ble_eq_true rfl)) rfl rfl (Nat.le_of_ble_eq_true rfl) dX7_init_32 (fun H locs hP hD hS => ?_)
  have hP : va_P Z.1 vwCl [(mx, .inr (7, [.int (nI 0), .ref c0, .int (nI 0), .ref c1, .ref c2, .ref c3, .null, .int (nI 0), .null, .null, .null, .int (nI 0), .int (nI 0), .int (nI 0), .int (nI 0), .int (nI 0), .int (nI 0), .null, .int (nI 0), .null, .int (nI 0), .int (nI 0), .null, .int (nI 0), .int (nI 0), .null, .int (nI 0), .int (nI 0), .int (nI 0)])), (c0, xI Z 4 ((fun _ => 0))), (c1, xI Z 24 ((fun _ => 0))), (c2, xI Z 24 ((fun _ => 0))), (c3, xI Z 24 ((fun _ => 0)))] H := hP
  have hD : va_D A [(mx, .inr (7, [.int (nI 0), .ref c0, .int (nI 0), .ref c1, .ref c2, .ref c3, .null, .int (nI 0), .null, .null, .null, .int (nI 0), .int (nI 0), .int (nI 0), .int (nI 0), .int (nI 0), .int (nI 0), .null, .int (nI 0), .null, .int (nI 0), .int (nI 0), .null, .int (nI 0), .int (nI 0), .null, .int (nI 0), .int (nI 0), .int (nI 0)])), (c0, xI Z 4 ((fun _ => 0))), (c1, xI Z 24 ((fun _ => 0))), (c2, xI Z 24 ((fun _ => 0))), (c3, xI Z 24 ((fun _ => 0)))] := hD
  refine lv_aload_n hx hb dX7_init_35 rfl (lv_at hl 0 rfl) ?_
  refine ln_bipush 24 hx hb dX7_init_36 (by decide) ?_
  refine ln_newI (N := 24) hx hb qq_82 hK hP hD hS hC.2.2.1 (by decide) (Nat.le_of_ble_eq_true rfl) (Nat.le_of_ble_eq_true rfl) dX7_init_38 (fun c4 H hP hD hS => ?_)
  have hP : va_P Z.1 vwCl [(mx, .inr (7, [.int (nI 0), .ref c0, .int (nI 0), .ref c1, .ref c2, .ref c3, .null, .int (nI 0), .null, .null, .null, .int (nI 0), .int (nI 0), .int (nI 0), .int (nI 0), .int (nI 0), .int (nI 0), .null, .int (nI 0), .null, .int (nI 0), .int (nI 0), .null, .int (nI 0), .int (nI 0), .null, .int (nI 0), .int (nI 0), .int (nI 0)])), (c0, xI Z 4 ((fun _ => 0))), (c1, xI Z 24 ((fun _ => 0))), (c2, xI Z 24 ((fun _ => 0))), (c3, xI Z 24 ((fun _ => 0))), (c4, xI Z 24 ((fun _ => 0)))] H := hP
  have hD : va_D A [(mx, .inr (7, [.int (nI 0), .ref c0, .int (nI 0), .ref c1, .ref c2, .ref c3, .null, .int (nI 0), .null, .null, .null, .int (nI 0), .int (nI 0), .int (nI 0), .int (nI 0), .int (nI 0), .int (nI 0), .null, .int (nI 0), .null, .int (nI 0), .int (nI 0), .null, .int (nI 0), .int (nI 0), .null, .int (nI 0), .int (nI 0), .int (nI 0)])), (c0, xI Z 4 ((fun _ => 0))), (c1, xI Z 24 ((fun _ => 0))), (c2, xI Z 24 ((fun _ => 0))), (c3, xI Z 24 ((fun _ => 0))), (c4, xI Z 24 ((fun _ => 0)))] := hD
  refine va_putF (D := Z.1) (ci := 7) (v := .ref c4) (ty := tyX7 6) (C := RX7) (T := TX7) (N := 29) hx hb hts iX7 tyX7 tyX7_ok nmX7 hown hK hP hD hS 0 rfl rfl 6 (Nat.le_of_ble_eq_true rfl) qq_680 (fun _ h9 => h9) rfl hname rfl (tyX7_ok 6 (Nat.le_of_ble_eq_true rfl)) rfl rfl (Nat.le_of_ble_eq_true rfl) dX7_init_40 (fun H locs hP hD hS => ?_)
  have hP : va_P Z.1 vwCl [(mx, .inr (7, [.int (nI 0), .ref c0, .int (nI 0), .ref c1, .ref c2, .ref c3, .ref c4, .int (nI 0), .null, .null, .null, .int (nI 0), .int (nI 0), .int (nI 0), .int (nI 0), .int (nI 0), .int (nI 0), .null, .int (nI 0), .null, .int (nI 0), .int (nI 0), .null, .int (nI 0), .int (nI 0), .null, .int (nI 0), .int (nI 0), .int (nI 0)])), (c0, xI Z 4 ((fun _ => 0))), (c1, xI Z 24 ((fun _ => 0))), (c2, xI Z 24 ((fun _ => 0))), (c3, xI Z 24 ((fun _ => 0))), (c4, xI Z 24 ((fun _ => 0)))] H := hP
  have hD : va_D A [(mx, .inr (7, [.int (nI 0), .ref c0, .int (nI 0), .ref c1, .ref c2, .ref c3, .ref c4, .int (nI 0), .null, .null, .null, .int (nI 0), .int (nI 0), .int (nI 0), .int (nI 0), .int (nI 0), .int (nI 0), .null, .int (nI 0), .null, .int (nI 0), .int (nI 0), .null, .int (nI 0), .int (nI 0), .null, .int (nI 0), .int (nI 0), .int (nI 0)])), (c0, xI Z 4 ((fun _ => 0))), (c1, xI Z 24 ((fun _ => 0))), (c2, xI Z 24 ((fun _ => 0))), (c3, xI Z 24 ((fun _ => 0))), (c4, xI Z 24 ((fun _ => 0)))] := hD
  refine lv_aload_n hx hb dX7_init_43 rfl (lv_at hl 0 rfl) ?_
  refine ln_bipush 6 hx hb dX7_init_44 (by decide) ?_
  refine ln_newI (N := 6) hx hb qq_82 hK hP hD hS hC.2.2.1 (by decide) (Nat.le_of_ble_eq_true rfl) (Nat.le_of_ble_eq_true rfl) dX7_init_46 (fun c5 H hP hD hS => ?_)
  have hP : va_P Z.1 vwCl [(mx, .inr (7, [.int (nI 0), .ref c0, .int (nI 0), .ref c1, .ref c2, .ref c3, .ref c4, .int (nI 0), .null, .null, .null, .int (nI 0), .int (nI 0), .int (nI 0), .int (nI 0), .int (nI 0), .int (nI 0), .null, .int (nI 0), .null, .int (nI 0), .int (nI 0), .null, .int (nI 0), .int (nI 0), .null, .int (nI 0), .int (nI 0), .int (nI 0)])), (c0, xI Z 4 ((fun _ => 0))), (c1, xI Z 24 ((fun _ => 0))), (c2, xI Z 24 ((fun _ => 0))), (c3, xI Z 24 ((fun _ => 0))), (c4, xI Z 24 ((fun _ => 0))), (c5, xJ Z 6 ((fun _ => nI 0)))] H := hP
  have hD : va_D A [(mx, .inr (7, [.int (nI 0), .ref c0, .int (nI 0), .ref c1, .ref c2, .ref c3, .ref c4, .int (nI 0), .null, .null, .null, .int (nI 0), .int (nI 0), .int (nI 0), .int (nI 0), .int (nI 0), .int (nI 0), .null, .int (nI 0), .null, .int (nI 0), .int (nI 0), .null, .int (nI 0), .int (nI 0), .null, .int (nI 0), .int (nI 0), .int (nI 0)])), (c0, xI Z 4 ((fun _ => 0))), (c1, xI Z 24 ((fun _ => 0))), (c2, xI Z 24 ((fun _ => 0))), (c3, xI Z 24 ((fun _ => 0))), (c4, xI Z 24 ((fun _ => 0))), (c5, xJ Z 6 ((fun _ => nI 0)))] := hD
  refine lv_dup hx hb dX7_init_48 rfl ?_
  refine ln_const 0 hx hb dX7_init_49 (by decide) ?_
  refine lv_iconst (v := (-1)) hx hb dX7_init_50 (by decide) ?_
  refine ln_jast hx hb hK hP hD hS 6 rfl (by omega) (by omega) dX7_init_51 (fun H locs hP hD hS => ?_)
  have hP : va_P Z.1 vwCl [(mx, .inr (7, [.int (nI 0), .ref c0, .int (nI 0), .ref c1, .ref c2, .ref c3, .ref c4, .int (nI 0), .null, .null, .null, .int (nI 0), .int (nI 0), .int (nI 0), .int (nI 0), .int (nI 0), .int (nI 0), .null, .int (nI 0), .null, .int (nI 0), .int (nI 0), .null, .int (nI 0), .int (nI 0), .null, .int (nI 0), .int (nI 0), .int (nI 0)])), (c0, xI Z 4 ((fun _ => 0))), (c1, xI Z 24 ((fun _ => 0))), (c2, xI Z 24 ((fun _ => 0))), (c3, xI Z 24 ((fun _ => 0))), (c4, xI Z 24 ((fun _ => 0))), (c5, xJ Z 6 (upd ((fun _ => nI 0)) 0 ((-1))))] H := hP
  have hD : va_D A [(mx, .inr (7, [.int (nI 0), .ref c0, .int (nI 0), .ref c1, .ref c2, .ref c3, .ref c4, .int (nI 0), .null, .null, .null, .int (nI 0), .int (nI 0), .int (nI 0), .int (nI 0), .int (nI 0), .int (nI 0), .null, .int (nI 0), .null, .int (nI 0), .int (nI 0), .null, .int (nI 0), .int (nI 0), .null, .int (nI 0), .int (nI 0), .int (nI 0)])), (c0, xI Z 4 ((fun _ => 0))), (c1, xI Z 24 ((fun _ => 0))), (c2, xI Z 24 ((fun _ => 0))), (c3, xI Z 24 ((fun _ => 0))), (c4, xI Z 24 ((fun _ => 0))), (c5, xJ Z 6 (upd ((fun _ => nI 0)) 0 ((-1))))] := hD
  refine lv_dup hx hb dX7_init_52 rfl ?_
  refine ln_const 1 hx hb dX7_init_53 (by decide) ?_
  refine lv_iconst (v := (-1)) hx hb dX7_init_54 (by decide) ?_
  refine ln_jast hx hb hK hP hD hS 6 rfl (by omega) (by omega) dX7_init_55 (fun H locs hP hD hS => ?_)
  have hP : va_P Z.1 vwCl [(mx, .inr (7, [.int (nI 0), .ref c0, .int (nI 0), .ref c1, .ref c2, .ref c3, .ref c4, .int (nI 0), .null, .null, .null, .int (nI 0), .int (nI 0), .int (nI 0), .int (nI 0), .int (nI 0), .int (nI 0), .null, .int (nI 0), .null, .int (nI 0), .int (nI 0), .null, .int (nI 0), .int (nI 0), .null, .int (nI 0), .int (nI 0), .int (nI 0)])), (c0, xI Z 4 ((fun _ => 0))), (c1, xI Z 24 ((fun _ => 0))), (c2, xI Z 24 ((fun _ => 0))), (c3, xI Z 24 ((fun _ => 0))), (c4, xI Z 24 ((fun _ => 0))), (c5, xJ Z 6 (upd (upd ((fun _ => nI 0)) 0 ((-1))) 1 ((-1))))] H := hP
  have hD : va_D A [(mx, .inr (7, [.int (nI 0), .ref c0, .int (nI 0), .ref c1, .ref c2, .ref c3, .ref c4, .int (nI 0), .null, .null, .null, .int (nI 0), .int (nI 0), .int (nI 0), .int (nI 0), .int (nI 0), .int (nI 0), .null, .int (nI 0), .null, .int (nI 0), .int (nI 0), .null, .int (nI 0), .int (nI 0), .null, .int (nI 0), .int (nI 0), .int (nI 0)])), (c0, xI Z 4 ((fun _ => 0))), (c1, xI Z 24 ((fun _ => 0))), (c2, xI Z 24 ((fun _ => 0))), (c3, xI Z 24 ((fun _ => 0))), (c4, xI Z 24 ((fun _ => 0))), (c5, xJ Z 6 (upd (upd ((fun _ => nI 0)) 0 ((-1))) 1 ((-1))))] := hD
  refine lv_dup hx hb dX7_init_56 rfl ?_
  refine ln_const 2 hx hb dX7_init_57 (by decide) ?_
  refine lv_iconst (v := (-1)) hx hb dX7_init_58 (by decide) ?_
  refine ln_jast hx hb hK hP hD hS 6 rfl (by omega) (by omega) dX7_init_59 (fun H locs hP hD hS => ?_)
  have hP : va_P Z.1 vwCl [(mx, .inr (7, [.int (nI 0), .ref c0, .int (nI 0), .ref c1, .ref c2, .ref c3, .ref c4, .int (nI 0), .null, .null, .null, .int (nI 0), .int (nI 0), .int (nI 0), .int (nI 0), .int (nI 0), .int (nI 0), .null, .int (nI 0), .null, .int (nI 0), .int (nI 0), .null, .int (nI 0), .int (nI 0), .null, .int (nI 0), .int (nI 0), .int (nI 0)])), (c0, xI Z 4 ((fun _ => 0))), (c1, xI Z 24 ((fun _ => 0))), (c2, xI Z 24 ((fun _ => 0))), (c3, xI Z 24 ((fun _ => 0))), (c4, xI Z 24 ((fun _ => 0))), (c5, xJ Z 6 (upd (upd (upd ((fun _ => nI 0)) 0 ((-1))) 1 ((-1))) 2 ((-1))))] H := hP
  have hD : va_D A [(mx, .inr (7, [.int (nI 0), .ref c0, .int (nI 0), .ref c1, .ref c2, .ref c3, .ref c4, .int (nI 0), .null, .null, .null, .int (nI 0), .int (nI 0), .int (nI 0), .int (nI 0), .int (nI 0), .int (nI 0), .null, .int (nI 0), .null, .int (nI 0), .int (nI 0), .null, .int (nI 0), .int (nI 0), .null, .int (nI 0), .int (nI 0), .int (nI 0)])), (c0, xI Z 4 ((fun _ => 0))), (c1, xI Z 24 ((fun _ => 0))), (c2, xI Z 24 ((fun _ => 0))), (c3, xI Z 24 ((fun _ => 0))), (c4, xI Z 24 ((fun _ => 0))), (c5, xJ Z 6 (upd (upd (upd ((fun _ => nI 0)) 0 ((-1))) 1 ((-1))) 2 ((-1))))] := hD
  refine lv_dup hx hb dX7_init_60 rfl ?_
  refine ln_const 3 hx hb dX7_init_61 (by decide) ?_
  refine lv_iconst (v := (-1)) hx hb dX7_init_62 (by decide) ?_
  refine ln_jast hx hb hK hP hD hS 6 rfl (by omega) (by omega) dX7_init_63 (fun H locs hP hD hS => ?_)
  have hP : va_P Z.1 vwCl [(mx, .inr (7, [.int (nI 0), .ref c0, .int (nI 0), .ref c1, .ref c2, .ref c3, .ref c4, .int (nI 0), .null, .null, .null, .int (nI 0), .int (nI 0), .int (nI 0), .int (nI 0), .int (nI 0), .int (nI 0), .null, .int (nI 0), .null, .int (nI 0), .int (nI 0), .null, .int (nI 0), .int (nI 0), .null, .int (nI 0), .int (nI 0), .int (nI 0)])), (c0, xI Z 4 ((fun _ => 0))), (c1, xI Z 24 ((fun _ => 0))), (c2, xI Z 24 ((fun _ => 0))), (c3, xI Z 24 ((fun _ => 0))), (c4, xI Z 24 ((fun _ => 0))), (c5, xJ Z 6 (upd (upd (upd (upd ((fun _ => nI 0)) 0 ((-1))) 1 ((-1))) 2 ((-1))) 3 ((-1))))] H := hP
  have hD : va_D A [(mx, .inr (7, [.int (nI 0), .ref c0, .int (nI 0), .ref c1, .ref c2, .ref c3, .ref c4, .int (nI 0), .null, .null, .null, .int (nI 0), .int (nI 0), .int (nI 0), .int (nI 0), .int (nI 0), .int (nI 0), .null, .int (nI 0), .null, .int (nI 0), .int (nI 0), .null, .int (nI 0), .int (nI 0), .null, .int (nI 0), .int (nI 0), .int (nI 0)])), (c0, xI Z 4 ((fun _ => 0))), (c1, xI Z 24 ((fun _ => 0))), (c2, xI Z 24 ((fun _ => 0))), (c3, xI Z 24 ((fun _ => 0))), (c4, xI Z 24 ((fun _ => 0))), (c5, xJ Z 6 (upd (upd (upd (upd ((fun _ => nI 0)) 0 ((-1))) 1 ((-1))) 2 ((-1))) 3 ((-1))))] := hD
  refine lv_dup hx hb dX7_init_64 rfl ?_
  refine ln_const 4 hx hb dX7_init_65 (by decide) ?_
  refine lv_iconst (v := (-1)) hx hb dX7_init_66 (by decide) ?_
  refine ln_jast hx hb hK hP hD hS 6 rfl (by omega) (by omega) dX7_init_67 (fun H locs hP hD hS => ?_)
  have hP : va_P Z.1 vwCl [(mx, .inr (7, [.int (nI 0), .ref c0, .int (nI 0), .ref c1, .ref c2, .ref c3, .ref c4, .int (nI 0), .null, .null, .null, .int (nI 0), .int (nI 0), .int (nI 0), .int (nI 0), .int (nI 0), .int (nI 0), .null, .int (nI 0), .null, .int (nI 0), .int (nI 0), .null, .int (nI 0), .int (nI 0), .null, .int (nI 0), .int (nI 0), .int (nI 0)])), (c0, xI Z 4 ((fun _ => 0))), (c1, xI Z 24 ((fun _ => 0))), (c2, xI Z 24 ((fun _ => 0))), (c3, xI Z 24 ((fun _ => 0))), (c4, xI Z 24 ((fun _ => 0))), (c5, xJ Z 6 (upd (upd (upd (upd (upd ((fun _ => nI 0)) 0 ((-1))) 1 ((-1))) 2 ((-1))) 3 ((-1))) 4 ((-1))))] H := hP
  have hD : va_D A [(mx, .inr (7, [.int (nI 0), .ref c0, .int (nI 0), .ref c1, .ref c2, .ref c3, .ref c4, .int (nI 0), .null, .null, .null, .int (nI 0), .int (nI 0), .int (nI 0), .int (nI 0), .int (nI 0), .int (nI 0), .null, .int (nI 0), .null, .int (nI 0), .int (nI 0), .null, .int (nI 0), .int (nI 0), .null, .int (nI 0), .int (nI 0), .int (nI 0)])), (c0, xI Z 4 ((fun _ => 0))), (c1, xI Z 24 ((fun _ => 0))), (c2, xI Z 24 ((fun _ => 0))), (c3, xI Z 24 ((fun _ => 0))), (c4, xI Z 24 ((fun _ => 0))), (c5, xJ Z 6 (upd (upd (upd (upd (upd ((fun _ => nI 0)) 0 ((-1))) 1 ((-1))) 2 ((-1))) 3 ((-1))) 4 ((-1))))] := hD
  refine lv_dup hx hb dX7_init_68 rfl ?_
  refine ln_const 5 hx hb dX7_init_69 (by decide) ?_
  refine lv_iconst (v := (-1)) hx hb dX7_init_70 (by decide) ?_
  refine ln_jast hx hb hK hP hD hS 6 rfl (by omega) (by omega) dX7_init_71 (fun H locs hP hD hS => ?_)
  have hP : va_P Z.1 vwCl [(mx, .inr (7, [.int (nI 0), .ref c0, .int (nI 0), .ref c1, .ref c2, .ref c3, .ref c4, .int (nI 0), .null, .null, .null, .int (nI 0), .int (nI 0), .int (nI 0), .int (nI 0), .int (nI 0), .int (nI 0), .null, .int (nI 0), .null, .int (nI 0), .int (nI 0), .null, .int (nI 0), .int (nI 0), .null, .int (nI 0), .int (nI 0), .int (nI 0)])), (c0, xI Z 4 ((fun _ => 0))), (c1, xI Z 24 ((fun _ => 0))), (c2, xI Z 24 ((fun _ => 0))), (c3, xI Z 24 ((fun _ => 0))), (c4, xI Z 24 ((fun _ => 0))), (c5, xJ Z 6 (upd (upd (upd (upd (upd (upd ((fun _ => nI 0)) 0 ((-1))) 1 ((-1))) 2 ((-1))) 3 ((-1))) 4 ((-1))) 5 ((-1))))] H := hP
  have hD : va_D A [(mx, .inr (7, [.int (nI 0), .ref c0, .int (nI 0), .ref c1, .ref c2, .ref c3, .ref c4, .int (nI 0), .null, .null, .null, .int (nI 0), .int (nI 0), .int (nI 0), .int (nI 0), .int (nI 0), .int (nI 0), .null, .int (nI 0), .null, .int (nI 0), .int (nI 0), .null, .int (nI 0), .int (nI 0), .null, .int (nI 0), .int (nI 0), .int (nI 0)])), (c0, xI Z 4 ((fun _ => 0))), (c1, xI Z 24 ((fun _ => 0))), (c2, xI Z 24 ((fun _ => 0))), (c3, xI Z 24 ((fun _ => 0))), (c4, xI Z 24 ((fun _ => 0))), (c5, xJ Z 6 (upd (upd (upd (upd (upd (upd ((fun _ => nI 0)) 0 ((-1))) 1 ((-1))) 2 ((-1))) 3 ((-1))) 4 ((-1))) 5 ((-1))))] := hD
  refine va_putF (D := Z.1) (ci := 7) (v := .ref c5) (ty := tyX7 8) (C := RX7) (T := TX7) (N := 29) hx hb hts iX7 tyX7 tyX7_ok nmX7 hown hK hP hD hS 0 rfl rfl 8 (Nat.le_of_ble_eq_true rfl) qq_682 (fun _ h9 => h9) rfl hname rfl (tyX7_ok 8 (Nat.le_of_ble_eq_true rfl)) rfl rfl (Nat.le_of_ble_eq_true rfl) dX7_init_72 (fun H locs hP hD hS => ?_)
  have hP : va_P Z.1 vwCl [(mx, .inr (7, [.int (nI 0), .ref c0, .int (nI 0), .ref c1, .ref c2, .ref c3, .ref c4, .int (nI 0), .ref c5, .null, .null, .int (nI 0), .int (nI 0), .int (nI 0), .int (nI 0), .int (nI 0), .int (nI 0), .null, .int (nI 0), .null, .int (nI 0), .int (nI 0), .null, .int (nI 0), .int (nI 0), .null, .int (nI 0), .int (nI 0), .int (nI 0)])), (c0, xI Z 4 ((fun _ => 0))), (c1, xI Z 24 ((fun _ => 0))), (c2, xI Z 24 ((fun _ => 0))), (c3, xI Z 24 ((fun _ => 0))), (c4, xI Z 24 ((fun _ => 0))), (c5, xJ Z 6 (upd (upd (upd (upd (upd (upd ((fun _ => nI 0)) 0 ((-1))) 1 ((-1))) 2 ((-1))) 3 ((-1))) 4 ((-1))) 5 ((-1))))] H := hP
  have hD : va_D A [(mx, .inr (7, [.int (nI 0), .ref c0, .int (nI 0), .ref c1, .ref c2, .ref c3, .ref c4, .int (nI 0), .ref c5, .null, .null, .int (nI 0), .int (nI 0), .int (nI 0), .int (nI 0), .int (nI 0), .int (nI 0), .null, .int (nI 0), .null, .int (nI 0), .int (nI 0), .null, .int (nI 0), .int (nI 0), .null, .int (nI 0), .int (nI 0), .int (nI 0)])), (c0, xI Z 4 ((fun _ => 0))), (c1, xI Z 24 ((fun _ => 0))), (c2, xI Z 24 ((fun _ => 0))), (c3, xI Z 24 ((fun _ => 0))), (c4, xI Z 24 ((fun _ => 0))), (c5, xJ Z 6 (upd (upd (upd (upd (upd (upd ((fun _ => nI 0)) 0 ((-1))) 1 ((-1))) 2 ((-1))) 3 ((-1))) 4 ((-1))) 5 ((-1))))] := hD
  refine lv_aload_n hx hb dX7_init_75 rfl (lv_at hl 0 rfl) ?_
  refine ln_bipush 6 hx hb dX7_init_76 (by decide) ?_
  refine ln_newI (N := 6) hx hb qq_82 hK hP hD hS hC.2.2.1 (by decide) (Nat.le_of_ble_eq_true rfl) (Nat.le_of_ble_eq_true rfl) dX7_init_78 (fun c6 H hP hD hS => ?_)
  have hP : va_P Z.1 vwCl [(mx, .inr (7, [.int (nI 0), .ref c0, .int (nI 0), .ref c1, .ref c2, .ref c3, .ref c4, .int (nI 0), .ref c5, .null, .null, .int (nI 0), .int (nI 0), .int (nI 0), .int (nI 0), .int (nI 0), .int (nI 0), .null, .int (nI 0), .null, .int (nI 0), .int (nI 0), .null, .int (nI 0), .int (nI 0), .null, .int (nI 0), .int (nI 0), .int (nI 0)])), (c0, xI Z 4 ((fun _ => 0))), (c1, xI Z 24 ((fun _ => 0))), (c2, xI Z 24 ((fun _ => 0))), (c3, xI Z 24 ((fun _ => 0))), (c4, xI Z 24 ((fun _ => 0))), (c5, xJ Z 6 (upd (upd (upd (upd (upd (upd ((fun _ => nI 0)) 0 ((-1))) 1 ((-1))) 2 ((-1))) 3 ((-1))) 4 ((-1))) 5 ((-1)))), (c6, xI Z 6 ((fun _ => 0)))] H := hP
  have hD : va_D A [(mx, .inr (7, [.int (nI 0), .ref c0, .int (nI 0), .ref c1, .ref c2, .ref c3, .ref c4, .int (nI 0), .ref c5, .null, .null, .int (nI 0), .int (nI 0), .int (nI 0), .int (nI 0), .int (nI 0), .int (nI 0), .null, .int (nI 0), .null, .int (nI 0), .int (nI 0), .null, .int (nI 0), .int (nI 0), .null, .int (nI 0), .int (nI 0), .int (nI 0)])), (c0, xI Z 4 ((fun _ => 0))), (c1, xI Z 24 ((fun _ => 0))), (c2, xI Z 24 ((fun _ => 0))), (c3, xI Z 24 ((fun _ => 0))), (c4, xI Z 24 ((fun _ => 0))), (c5, xJ Z 6 (upd (upd (upd (upd (upd (upd ((fun _ => nI 0)) 0 ((-1))) 1 ((-1))) 2 ((-1))) 3 ((-1))) 4 ((-1))) 5 ((-1)))), (c6, xI Z 6 ((fun _ => 0)))] := hD
  refine va_putF (D := Z.1) (ci := 7) (v := .ref c6) (ty := tyX7 9) (C := RX7) (T := TX7) (N := 29) hx hb hts iX7 tyX7 tyX7_ok nmX7 hown hK hP hD hS 0 rfl rfl 9 (Nat.le_of_ble_eq_true rfl) qq_683 (fun _ h9 => h9) rfl hname rfl (tyX7_ok 9 (Nat.le_of_ble_eq_true rfl)) rfl rfl (Nat.le_of_ble_eq_true rfl) dX7_init_80 (fun H locs hP hD hS => ?_)
  have hP : va_P Z.1 vwCl [(mx, .inr (7, [.int (nI 0), .ref c0, .int (nI 0), .ref c1, .ref c2, .ref c3, .ref c4, .int (nI 0), .ref c5, .ref c6, .null, .int (nI 0), .int (nI 0), .int (nI 0), .int (nI 0), .int (nI 0), .int (nI 0), .null, .int (nI 0), .null, .int (nI 0), .int (nI 0), .null, .int (nI 0), .int (nI 0), .null, .int (nI 0), .int (nI 0), .int (nI 0)])), (c0, xI Z 4 ((fun _ => 0))), (c1, xI Z 24 ((fun _ => 0))), (c2, xI Z 24 ((fun _ => 0))), (c3, xI Z 24 ((fun _ => 0))), (c4, xI Z 24 ((fun _ => 0))), (c5, xJ Z 6 (upd (upd (upd (upd (upd (upd ((fun _ => nI 0)) 0 ((-1))) 1 ((-1))) 2 ((-1))) 3 ((-1))) 4 ((-1))) 5 ((-1)))), (c6, xI Z 6 ((fun _ => 0)))] H := hP
  have hD : va_D A [(mx, .inr (7, [.int (nI 0), .ref c0, .int (nI 0), .ref c1, .ref c2, .ref c3, .ref c4, .int (nI 0), .ref c5, .ref c6, .null, .int (nI 0), .int (nI 0), .int (nI 0), .int (nI 0), .int (nI 0), .int (nI 0), .null, .int (nI 0), .null, .int (nI 0), .int (nI 0), .null, .int (nI 0), .int (nI 0), .null, .int (nI 0), .int (nI 0), .int (nI 0)])), (c0, xI Z 4 ((fun _ => 0))), (c1, xI Z 24 ((fun _ => 0))), (c2, xI Z 24 ((fun _ => 0))), (c3, xI Z 24 ((fun _ => 0))), (c4, xI Z 24 ((fun _ => 0))), (c5, xJ Z 6 (upd (upd (upd (upd (upd (upd ((fun _ => nI 0)) 0 ((-1))) 1 ((-1))) 2 ((-1))) 3 ((-1))) 4 ((-1))) 5 ((-1)))), (c6, xI Z 6 ((fun _ => 0)))] := hD
  refine lv_aload_n hx hb dX7_init_83 rfl (lv_at hl 0 rfl) ?_
  refine ln_bipush 6 hx hb dX7_init_84 (by decide) ?_
  refine ln_newI (N := 6) hx hb qq_82 hK hP hD hS hC.2.2.1 (by decide) (Nat.le_of_ble_eq_true rfl) (Nat.le_of_ble_eq_true rfl) dX7_init_86 (fun c7 H hP hD hS => ?_)
  have hP : va_P Z.1 vwCl [(mx, .inr (7, [.int (nI 0), .ref c0, .int (nI 0), .ref c1, .ref c2, .ref c3, .ref c4, .int (nI 0), .ref c5, .ref c6, .null, .int (nI 0), .int (nI 0), .int (nI 0), .int (nI 0), .int (nI 0), .int (nI 0), .null, .int (nI 0), .null, .int (nI 0), .int (nI 0), .null, .int (nI 0), .int (nI 0), .null, .int (nI 0), .int (nI 0), .int (nI 0)])), (c0, xI Z 4 ((fun _ => 0))), (c1, xI Z 24 ((fun _ => 0))), (c2, xI Z 24 ((fun _ => 0))), (c3, xI Z 24 ((fun _ => 0))), (c4, xI Z 24 ((fun _ => 0))), (c5, xJ Z 6 (upd (upd (upd (upd (upd (upd ((fun _ => nI 0)) 0 ((-1))) 1 ((-1))) 2 ((-1))) 3 ((-1))) 4 ((-1))) 5 ((-1)))), (c6, xI Z 6 ((fun _ => 0))), (c7, xI Z 6 ((fun _ => 0)))] H := hP
  have hD : va_D A [(mx, .inr (7, [.int (nI 0), .ref c0, .int (nI 0), .ref c1, .ref c2, .ref c3, .ref c4, .int (nI 0), .ref c5, .ref c6, .null, .int (nI 0), .int (nI 0), .int (nI 0), .int (nI 0), .int (nI 0), .int (nI 0), .null, .int (nI 0), .null, .int (nI 0), .int (nI 0), .null, .int (nI 0), .int (nI 0), .null, .int (nI 0), .int (nI 0), .int (nI 0)])), (c0, xI Z 4 ((fun _ => 0))), (c1, xI Z 24 ((fun _ => 0))), (c2, xI Z 24 ((fun _ => 0))), (c3, xI Z 24 ((fun _ => 0))), (c4, xI Z 24 ((fun _ => 0))), (c5, xJ Z 6 (upd (upd (upd (upd (upd (upd ((fun _ => nI 0)) 0 ((-1))) 1 ((-1))) 2 ((-1))) 3 ((-1))) 4 ((-1))) 5 ((-1)))), (c6, xI Z 6 ((fun _ => 0))), (c7, xI Z 6 ((fun _ => 0)))] := hD
  refine va_putF (D := Z.1) (ci := 7) (v := .ref c7) (ty := tyX7 10) (C := RX7) (T := TX7) (N := 29) hx hb hts iX7 tyX7 tyX7_ok nmX7 hown hK hP hD hS 0 rfl rfl 10 (Nat.le_of_ble_eq_true rfl) qq_684 (fun _ h9 => h9) rfl hname rfl (tyX7_ok 10 (Nat.le_of_ble_eq_true rfl)) rfl rfl (Nat.le_of_ble_eq_true rfl) dX7_init_88 (fun H locs hP hD hS => ?_)
  have hP : va_P Z.1 vwCl [(mx, .inr (7, [.int (nI 0), .ref c0, .int (nI 0), .ref c1, .ref c2, .ref c3, .ref c4, .int (nI 0), .ref c5, .ref c6, .ref c7, .int (nI 0), .int (nI 0), .int (nI 0), .int (nI 0), .int (nI 0), .int (nI 0), .null, .int (nI 0), .null, .int (nI 0), .int (nI 0), .null, .int (nI 0), .int (nI 0), .null, .int (nI 0), .int (nI 0), .int (nI 0)])), (c0, xI Z 4 ((fun _ => 0))), (c1, xI Z 24 ((fun _ => 0))), (c2, xI Z 24 ((fun _ => 0))), (c3, xI Z 24 ((fun _ => 0))), (c4, xI Z 24 ((fun _ => 0))), (c5, xJ Z 6 (upd (upd (upd (upd (upd (upd ((fun _ => nI 0)) 0 ((-1))) 1 ((-1))) 2 ((-1))) 3 ((-1))) 4 ((-1))) 5 ((-1)))), (c6, xI Z 6 ((fun _ => 0))), (c7, xI Z 6 ((fun _ => 0)))] H := hP
  have hD : va_D A [(mx, .inr (7, [.int (nI 0), .ref c0, .int (nI 0), .ref c1, .ref c2, .ref c3, .ref c4, .int (nI 0), .ref c5, .ref c6, .ref c7, .int (nI 0), .int (nI 0), .int (nI 0), .int (nI 0), .int (nI 0), .int (nI 0), .null, .int (nI 0), .null, .int (nI 0), .int (nI 0), .null, .int (nI 0), .int (nI 0), .null, .int (nI 0), .int (nI 0), .int (nI 0)])), (c0, xI Z 4 ((fun _ => 0))), (c1, xI Z 24 ((fun _ => 0))), (c2, xI Z 24 ((fun _ => 0))), (c3, xI Z 24 ((fun _ => 0))), (c4, xI Z 24 ((fun _ => 0))), (c5, xJ Z 6 (upd (upd (upd (upd (upd (upd ((fun _ => nI 0)) 0 ((-1))) 1 ((-1))) 2 ((-1))) 3 ((-1))) 4 ((-1))) 5 ((-1)))), (c6, xI Z 6 ((fun _ => 0))), (c7, xI Z 6 ((fun _ => 0)))] := hD
  refine lv_aload_n hx hb dX7_init_91 rfl (lv_at hl 0 rfl) ?_
  refine ln_sipush 700 hx hb dX7_init_92 (by decide) ?_
  refine ln_newI (N := 700) hx hb qq_82 hK hP hD hS hC.2.2.1 (by decide) (Nat.le_of_ble_eq_true rfl) (Nat.le_of_ble_eq_true rfl) dX7_init_95 (fun c8 H hP hD hS => ?_)
  have hP : va_P Z.1 vwCl [(mx, .inr (7, [.int (nI 0), .ref c0, .int (nI 0), .ref c1, .ref c2, .ref c3, .ref c4, .int (nI 0), .ref c5, .ref c6, .ref c7, .int (nI 0), .int (nI 0), .int (nI 0), .int (nI 0), .int (nI 0), .int (nI 0), .null, .int (nI 0), .null, .int (nI 0), .int (nI 0), .null, .int (nI 0), .int (nI 0), .null, .int (nI 0), .int (nI 0), .int (nI 0)])), (c0, xI Z 4 ((fun _ => 0))), (c1, xI Z 24 ((fun _ => 0))), (c2, xI Z 24 ((fun _ => 0))), (c3, xI Z 24 ((fun _ => 0))), (c4, xI Z 24 ((fun _ => 0))), (c5, xJ Z 6 (upd (upd (upd (upd (upd (upd ((fun _ => nI 0)) 0 ((-1))) 1 ((-1))) 2 ((-1))) 3 ((-1))) 4 ((-1))) 5 ((-1)))), (c6, xI Z 6 ((fun _ => 0))), (c7, xI Z 6 ((fun _ => 0))), (c8, xI Z 700 ((fun _ => 0)))] H := hP
  have hD : va_D A [(mx, .inr (7, [.int (nI 0), .ref c0, .int (nI 0), .ref c1, .ref c2, .ref c3, .ref c4, .int (nI 0), .ref c5, .ref c6, .ref c7, .int (nI 0), .int (nI 0), .int (nI 0), .int (nI 0), .int (nI 0), .int (nI 0), .null, .int (nI 0), .null, .int (nI 0), .int (nI 0), .null, .int (nI 0), .int (nI 0), .null, .int (nI 0), .int (nI 0), .int (nI 0)])), (c0, xI Z 4 ((fun _ => 0))), (c1, xI Z 24 ((fun _ => 0))), (c2, xI Z 24 ((fun _ => 0))), (c3, xI Z 24 ((fun _ => 0))), (c4, xI Z 24 ((fun _ => 0))), (c5, xJ Z 6 (upd (upd (upd (upd (upd (upd ((fun _ => nI 0)) 0 ((-1))) 1 ((-1))) 2 ((-1))) 3 ((-1))) 4 ((-1))) 5 ((-1)))), (c6, xI Z 6 ((fun _ => 0))), (c7, xI Z 6 ((fun _ => 0))), (c8, xI Z 700 ((fun _ => 0)))] := hD
  refine va_putF (D := Z.1) (ci := 7) (v := .ref c8) (ty := tyX7 17) (C := RX7) (T := TX7) (N := 29) hx hb hts iX7 tyX7 tyX7_ok nmX7 hown hK hP hD hS 0 rfl rfl 17 (Nat.le_of_ble_eq_true rfl) qq_691 (fun _ h9 => h9) rfl hname rfl (tyX7_ok 17 (Nat.le_of_ble_eq_true rfl)) rfl rfl (Nat.le_of_ble_eq_true rfl) dX7_init_97 (fun H locs hP hD hS => ?_)
  have hP : va_P Z.1 vwCl [(mx, .inr (7, [.int (nI 0), .ref c0, .int (nI 0), .ref c1, .ref c2, .ref c3, .ref c4, .int (nI 0), .ref c5, .ref c6, .ref c7, .int (nI 0), .int (nI 0), .int (nI 0), .int (nI 0), .int (nI 0), .int (nI 0), .ref c8, .int (nI 0), .null, .int (nI 0), .int (nI 0), .null, .int (nI 0), .int (nI 0), .null, .int (nI 0), .int (nI 0), .int (nI 0)])), (c0, xI Z 4 ((fun _ => 0))), (c1, xI Z 24 ((fun _ => 0))), (c2, xI Z 24 ((fun _ => 0))), (c3, xI Z 24 ((fun _ => 0))), (c4, xI Z 24 ((fun _ => 0))), (c5, xJ Z 6 (upd (upd (upd (upd (upd (upd ((fun _ => nI 0)) 0 ((-1))) 1 ((-1))) 2 ((-1))) 3 ((-1))) 4 ((-1))) 5 ((-1)))), (c6, xI Z 6 ((fun _ => 0))), (c7, xI Z 6 ((fun _ => 0))), (c8, xI Z 700 ((fun _ => 0)))] H := hP
  have hD : va_D A [(mx, .inr (7, [.int (nI 0), .ref c0, .int (nI 0), .ref c1, .ref c2, .ref c3, .ref c4, .int (nI 0), .ref c5, .ref c6, .ref c7, .int (nI 0), .int (nI 0), .int (nI 0), .int (nI 0), .int (nI 0), .int (nI 0), .ref c8, .int (nI 0), .null, .int (nI 0), .int (nI 0), .null, .int (nI 0), .int (nI 0), .null, .int (nI 0), .int (nI 0), .int (nI 0)])), (c0, xI Z 4 ((fun _ => 0))), (c1, xI Z 24 ((fun _ => 0))), (c2, xI Z 24 ((fun _ => 0))), (c3, xI Z 24 ((fun _ => 0))), (c4, xI Z 24 ((fun _ => 0))), (c5, xJ Z 6 (upd (upd (upd (upd (upd (upd ((fun _ => nI 0)) 0 ((-1))) 1 ((-1))) 2 ((-1))) 3 ((-1))) 4 ((-1))) 5 ((-1)))), (c6, xI Z 6 ((fun _ => 0))), (c7, xI Z 6 ((fun _ => 0))), (c8, xI Z 700 ((fun _ => 0)))] := hD
  refine lv_aload_n hx hb dX7_init_100 rfl (lv_at hl 0 rfl) ?_
  refine ln_sipush 700 hx hb dX7_init_101 (by decide) ?_
  refine ln_newI (N := 700) hx hb qq_82 hK hP hD hS hC.2.2.1 (by decide) (Nat.le_of_ble_eq_true rfl) (Nat.le_of_ble_eq_true rfl) dX7_init_104 (fun c9 H hP hD hS => ?_)
  have hP : va_P Z.1 vwCl [(mx, .inr (7, [.int (nI 0), .ref c0, .int (nI 0), .ref c1, .ref c2, .ref c3, .ref c4, .int (nI 0), .ref c5, .ref c6, .ref c7, .int (nI 0), .int (nI 0), .int (nI 0), .int (nI 0), .int (nI 0), .int (nI 0), .ref c8, .int (nI 0), .null, .int (nI 0), .int (nI 0), .null, .int (nI 0), .int (nI 0), .null, .int (nI 0), .int (nI 0), .int (nI 0)])), (c0, xI Z 4 ((fun _ => 0))), (c1, xI Z 24 ((fun _ => 0))), (c2, xI Z 24 ((fun _ => 0))), (c3, xI Z 24 ((fun _ => 0))), (c4, xI Z 24 ((fun _ => 0))), (c5, xJ Z 6 (upd (upd (upd (upd (upd (upd ((fun _ => nI 0)) 0 ((-1))) 1 ((-1))) 2 ((-1))) 3 ((-1))) 4 ((-1))) 5 ((-1)))), (c6, xI Z 6 ((fun _ => 0))), (c7, xI Z 6 ((fun _ => 0))), (c8, xI Z 700 ((fun _ => 0))), (c9, xI Z 700 ((fun _ => 0)))] H := hP
  have hD : va_D A [(mx, .inr (7, [.int (nI 0), .ref c0, .int (nI 0), .ref c1, .ref c2, .ref c3, .ref c4, .int (nI 0), .ref c5, .ref c6, .ref c7, .int (nI 0), .int (nI 0), .int (nI 0), .int (nI 0), .int (nI 0), .int (nI 0), .ref c8, .int (nI 0), .null, .int (nI 0), .int (nI 0), .null, .int (nI 0), .int (nI 0), .null, .int (nI 0), .int (nI 0), .int (nI 0)])), (c0, xI Z 4 ((fun _ => 0))), (c1, xI Z 24 ((fun _ => 0))), (c2, xI Z 24 ((fun _ => 0))), (c3, xI Z 24 ((fun _ => 0))), (c4, xI Z 24 ((fun _ => 0))), (c5, xJ Z 6 (upd (upd (upd (upd (upd (upd ((fun _ => nI 0)) 0 ((-1))) 1 ((-1))) 2 ((-1))) 3 ((-1))) 4 ((-1))) 5 ((-1)))), (c6, xI Z 6 ((fun _ => 0))), (c7, xI Z 6 ((fun _ => 0))), (c8, xI Z 700 ((fun _ => 0))), (c9, xI Z 700 ((fun _ => 0)))] := hD
  refine va_putF (D := Z.1) (ci := 7) (v := .ref c9) (ty := tyX7 19) (C := RX7) (T := TX7) (N := 29) hx hb hts iX7 tyX7 tyX7_ok nmX7 hown hK hP hD hS 0 rfl rfl 19 (Nat.le_of_ble_eq_true rfl) qq_693 (fun _ h9 => h9) rfl hname rfl (tyX7_ok 19 (Nat.le_of_ble_eq_true rfl)) rfl rfl (Nat.le_of_ble_eq_true rfl) dX7_init_106 (fun H locs hP hD hS => ?_)
  have hP : va_P Z.1 vwCl [(mx, .inr (7, [.int (nI 0), .ref c0, .int (nI 0), .ref c1, .ref c2, .ref c3, .ref c4, .int (nI 0), .ref c5, .ref c6, .ref c7, .int (nI 0), .int (nI 0), .int (nI 0), .int (nI 0), .int (nI 0), .int (nI 0), .ref c8, .int (nI 0), .ref c9, .int (nI 0), .int (nI 0), .null, .int (nI 0), .int (nI 0), .null, .int (nI 0), .int (nI 0), .int (nI 0)])), (c0, xI Z 4 ((fun _ => 0))), (c1, xI Z 24 ((fun _ => 0))), (c2, xI Z 24 ((fun _ => 0))), (c3, xI Z 24 ((fun _ => 0))), (c4, xI Z 24 ((fun _ => 0))), (c5, xJ Z 6 (upd (upd (upd (upd (upd (upd ((fun _ => nI 0)) 0 ((-1))) 1 ((-1))) 2 ((-1))) 3 ((-1))) 4 ((-1))) 5 ((-1)))), (c6, xI Z 6 ((fun _ => 0))), (c7, xI Z 6 ((fun _ => 0))), (c8, xI Z 700 ((fun _ => 0))), (c9, xI Z 700 ((fun _ => 0)))] H := hP
  have hD : va_D A [(mx, .inr (7, [.int (nI 0), .ref c0, .int (nI 0), .ref c1, .ref c2, .ref c3, .ref c4, .int (nI 0), .ref c5, .ref c6, .ref c7, .int (nI 0), .int (nI 0), .int (nI 0), .int (nI 0), .int (nI 0), .int (nI 0), .ref c8, .int (nI 0), .ref c9, .int (nI 0), .int (nI 0), .null, .int (nI 0), .int (nI 0), .null, .int (nI 0), .int (nI 0), .int (nI 0)])), (c0, xI Z 4 ((fun _ => 0))), (c1, xI Z 24 ((fun _ => 0))), (c2, xI Z 24 ((fun _ => 0))), (c3, xI Z 24 ((fun _ => 0))), (c4, xI Z 24 ((fun _ => 0))), (c5, xJ Z 6 (upd (upd (upd (upd (upd (upd ((fun _ => nI 0)) 0 ((-1))) 1 ((-1))) 2 ((-1))) 3 ((-1))) 4 ((-1))) 5 ((-1)))), (c6, xI Z 6 ((fun _ => 0))), (c7, xI Z 6 ((fun _ => 0))), (c8, xI Z 700 ((fun _ => 0))), (c9, xI Z 700 ((fun _ => 0)))] := hD
  refine lv_aload_n hx hb dX7_init_109 rfl (lv_at hl 0 rfl) ?_
  refine lv_ldc (v := nI 80001) hx hb hown qq_673 dX7_init_110 ?_
  refine ln_newI (N := 80001) hx hb qq_82 hK hP hD hS hC.2.2.1 (by decide) (Nat.le_of_ble_eq_true rfl) (Nat.le_of_ble_eq_true rfl) dX7_init_112 (fun c10 H hP hD hS => ?_)
  have hP : va_P Z.1 vwCl [(mx, .inr (7, [.int (nI 0), .ref c0, .int (nI 0), .ref c1, .ref c2, .ref c3, .ref c4, .int (nI 0), .ref c5, .ref c6, .ref c7, .int (nI 0), .int (nI 0), .int (nI 0), .int (nI 0), .int (nI 0), .int (nI 0), .ref c8, .int (nI 0), .ref c9, .int (nI 0), .int (nI 0), .null, .int (nI 0), .int (nI 0), .null, .int (nI 0), .int (nI 0), .int (nI 0)])), (c0, xI Z 4 ((fun _ => 0))), (c1, xI Z 24 ((fun _ => 0))), (c2, xI Z 24 ((fun _ => 0))), (c3, xI Z 24 ((fun _ => 0))), (c4, xI Z 24 ((fun _ => 0))), (c5, xJ Z 6 (upd (upd (upd (upd (upd (upd ((fun _ => nI 0)) 0 ((-1))) 1 ((-1))) 2 ((-1))) 3 ((-1))) 4 ((-1))) 5 ((-1)))), (c6, xI Z 6 ((fun _ => 0))), (c7, xI Z 6 ((fun _ => 0))), (c8, xI Z 700 ((fun _ => 0))), (c9, xI Z 700 ((fun _ => 0))), (c10, xI Z 80001 ((fun _ => 0)))] H := hP
  have hD : va_D A [(mx, .inr (7, [.int (nI 0), .ref c0, .int (nI 0), .ref c1, .ref c2, .ref c3, .ref c4, .int (nI 0), .ref c5, .ref c6, .ref c7, .int (nI 0), .int (nI 0), .int (nI 0), .int (nI 0), .int (nI 0), .int (nI 0), .ref c8, .int (nI 0), .ref c9, .int (nI 0), .int (nI 0), .null, .int (nI 0), .int (nI 0), .null, .int (nI 0), .int (nI 0), .int (nI 0)])), (c0, xI Z 4 ((fun _ => 0))), (c1, xI Z 24 ((fun _ => 0))), (c2, xI Z 24 ((fun _ => 0))), (c3, xI Z 24 ((fun _ => 0))), (c4, xI Z 24 ((fun _ => 0))), (c5, xJ Z 6 (upd (upd (upd (upd (upd (upd ((fun _ => nI 0)) 0 ((-1))) 1 ((-1))) 2 ((-1))) 3 ((-1))) 4 ((-1))) 5 ((-1)))), (c6, xI Z 6 ((fun _ => 0))), (c7, xI Z 6 ((fun _ => 0))), (c8, xI Z 700 ((fun _ => 0))), (c9, xI Z 700 ((fun _ => 0))), (c10, xI Z 80001 ((fun _ => 0)))] := hD
  refine va_putF (D := Z.1) (ci := 7) (v := .ref c10) (ty := tyX7 22) (C := RX7) (T := TX7) (N := 29) hx hb hts iX7 tyX7 tyX7_ok nmX7 hown hK hP hD hS 0 rfl rfl 22 (Nat.le_of_ble_eq_true rfl) qq_696 (fun _ h9 => h9) rfl hname rfl (tyX7_ok 22 (Nat.le_of_ble_eq_true rfl)) rfl rfl (Nat.le_of_ble_eq_true rfl) dX7_init_114 (fun H locs hP hD hS => ?_)
  have hP : va_P Z.1 vwCl [(mx, .inr (7, [.int (nI 0), .ref c0, .int (nI 0), .ref c1, .ref c2, .ref c3, .ref c4, .int (nI 0), .ref c5, .ref c6, .ref c7, .int (nI 0), .int (nI 0), .int (nI 0), .int (nI 0), .int (nI 0), .int (nI 0), .ref c8, .int (nI 0), .ref c9, .int (nI 0), .int (nI 0), .ref c10, .int (nI 0), .int (nI 0), .null, .int (nI 0), .int (nI 0), .int (nI 0)])), (c0, xI Z 4 ((fun _ => 0))), (c1, xI Z 24 ((fun _ => 0))), (c2, xI Z 24 ((fun _ => 0))), (c3, xI Z 24 ((fun _ => 0))), (c4, xI Z 24 ((fun _ => 0))), (c5, xJ Z 6 (upd (upd (upd (upd (upd (upd ((fun _ => nI 0)) 0 ((-1))) 1 ((-1))) 2 ((-1))) 3 ((-1))) 4 ((-1))) 5 ((-1)))), (c6, xI Z 6 ((fun _ => 0))), (c7, xI Z 6 ((fun _ => 0))), (c8, xI Z 700 ((fun _ => 0))), (c9, xI Z 700 ((fun _ => 0))), (c10, xI Z 80001 ((fun _ => 0)))] H := hP
  have hD : va_D A [(mx, .inr (7, [.int (nI 0), .ref c0, .int (nI 0), .ref c1, .ref c2, .ref c3, .ref c4, .int (nI 0), .ref c5, .ref c6, .ref c7, .int (nI 0), .int (nI 0), .int (nI 0), .int (nI 0), .int (nI 0), .int (nI 0), .ref c8, .int (nI 0), .ref c9, .int (nI 0), .int (nI 0), .ref c10, .int (nI 0), .int (nI 0), .null, .int (nI 0), .int (nI 0), .int (nI 0)])), (c0, xI Z 4 ((fun _ => 0))), (c1, xI Z 24 ((fun _ => 0))), (c2, xI Z 24 ((fun _ => 0))), (c3, xI Z 24 ((fun _ => 0))), (c4, xI Z 24 ((fun _ => 0))), (c5, xJ Z 6 (upd (upd (upd (upd (upd (upd ((fun _ => nI 0)) 0 ((-1))) 1 ((-1))) 2 ((-1))) 3 ((-1))) 4 ((-1))) 5 ((-1)))), (c6, xI Z 6 ((fun _ => 0))), (c7, xI Z 6 ((fun _ => 0))), (c8, xI Z 700 ((fun _ => 0))), (c9, xI Z 700 ((fun _ => 0))), (c10, xI Z 80001 ((fun _ => 0)))] := hD
  refine lv_aload_n hx hb dX7_init_117 rfl (lv_at hl 0 rfl) ?_
  refine ln_bipush 6 hx hb dX7_init_118 (by decide) ?_
  refine ln_newI (N := 6) hx hb qq_82 hK hP hD hS hC.2.2.1 (by decide) (Nat.le_of_ble_eq_true rfl) (Nat.le_of_ble_eq_true rfl) dX7_init_120 (fun c11 H hP hD hS => ?_)
  have hP : va_P Z.1 vwCl [(mx, .inr (7, [.int (nI 0), .ref c0, .int (nI 0), .ref c1, .ref c2, .ref c3, .ref c4, .int (nI 0), .ref c5, .ref c6, .ref c7, .int (nI 0), .int (nI 0), .int (nI 0), .int (nI 0), .int (nI 0), .int (nI 0), .ref c8, .int (nI 0), .ref c9, .int (nI 0), .int (nI 0), .ref c10, .int (nI 0), .int (nI 0), .null, .int (nI 0), .int (nI 0), .int (nI 0)])), (c0, xI Z 4 ((fun _ => 0))), (c1, xI Z 24 ((fun _ => 0))), (c2, xI Z 24 ((fun _ => 0))), (c3, xI Z 24 ((fun _ => 0))), (c4, xI Z 24 ((fun _ => 0))), (c5, xJ Z 6 (upd (upd (upd (upd (upd (upd ((fun _ => nI 0)) 0 ((-1))) 1 ((-1))) 2 ((-1))) 3 ((-1))) 4 ((-1))) 5 ((-1)))), (c6, xI Z 6 ((fun _ => 0))), (c7, xI Z 6 ((fun _ => 0))), (c8, xI Z 700 ((fun _ => 0))), (c9, xI Z 700 ((fun _ => 0))), (c10, xI Z 80001 ((fun _ => 0))), (c11, xI Z 6 ((fun _ => 0)))] H := hP
  have hD : va_D A [(mx, .inr (7, [.int (nI 0), .ref c0, .int (nI 0), .ref c1, .ref c2, .ref c3, .ref c4, .int (nI 0), .ref c5, .ref c6, .ref c7, .int (nI 0), .int (nI 0), .int (nI 0), .int (nI 0), .int (nI 0), .int (nI 0), .ref c8, .int (nI 0), .ref c9, .int (nI 0), .int (nI 0), .ref c10, .int (nI 0), .int (nI 0), .null, .int (nI 0), .int (nI 0), .int (nI 0)])), (c0, xI Z 4 ((fun _ => 0))), (c1, xI Z 24 ((fun _ => 0))), (c2, xI Z 24 ((fun _ => 0))), (c3, xI Z 24 ((fun _ => 0))), (c4, xI Z 24 ((fun _ => 0))), (c5, xJ Z 6 (upd (upd (upd (upd (upd (upd ((fun _ => nI 0)) 0 ((-1))) 1 ((-1))) 2 ((-1))) 3 ((-1))) 4 ((-1))) 5 ((-1)))), (c6, xI Z 6 ((fun _ => 0))), (c7, xI Z 6 ((fun _ => 0))), (c8, xI Z 700 ((fun _ => 0))), (c9, xI Z 700 ((fun _ => 0))), (c10, xI Z 80001 ((fun _ => 0))), (c11, xI Z 6 ((fun _ => 0)))] := hD
  refine va_putF (D := Z.1) (ci := 7) (v := .ref c11) (ty := tyX7 25) (C := RX7) (T := TX7) (N := 29) hx hb hts iX7 tyX7 tyX7_ok nmX7 hown hK hP hD hS 0 rfl rfl 25 (Nat.le_of_ble_eq_true rfl) qq_699 (fun _ h9 => h9) rfl hname rfl (tyX7_ok 25 (Nat.le_of_ble_eq_true rfl)) rfl rfl (Nat.le_of_ble_eq_true rfl) dX7_init_122 (fun H locs hP hD hS => ?_)
  have hP : va_P Z.1 vwCl [(mx, .inr (7, [.int (nI 0), .ref c0, .int (nI 0), .ref c1, .ref c2, .ref c3, .ref c4, .int (nI 0), .ref c5, .ref c6, .ref c7, .int (nI 0), .int (nI 0), .int (nI 0), .int (nI 0), .int (nI 0), .int (nI 0), .ref c8, .int (nI 0), .ref c9, .int (nI 0), .int (nI 0), .ref c10, .int (nI 0), .int (nI 0), .ref c11, .int (nI 0), .int (nI 0), .int (nI 0)])), (c0, xI Z 4 ((fun _ => 0))), (c1, xI Z 24 ((fun _ => 0))), (c2, xI Z 24 ((fun _ => 0))), (c3, xI Z 24 ((fun _ => 0))), (c4, xI Z 24 ((fun _ => 0))), (c5, xJ Z 6 (upd (upd (upd (upd (upd (upd ((fun _ => nI 0)) 0 ((-1))) 1 ((-1))) 2 ((-1))) 3 ((-1))) 4 ((-1))) 5 ((-1)))), (c6, xI Z 6 ((fun _ => 0))), (c7, xI Z 6 ((fun _ => 0))), (c8, xI Z 700 ((fun _ => 0))), (c9, xI Z 700 ((fun _ => 0))), (c10, xI Z 80001 ((fun _ => 0))), (c11, xI Z 6 ((fun _ => 0)))] H := hP
  have hD : va_D A [(mx, .inr (7, [.int (nI 0), .ref c0, .int (nI 0), .ref c1, .ref c2, .ref c3, .ref c4, .int (nI 0), .ref c5, .ref c6, .ref c7, .int (nI 0), .int (nI 0), .int (nI 0), .int (nI 0), .int (nI 0), .int (nI 0), .ref c8, .int (nI 0), .ref c9, .int (nI 0), .int (nI 0), .ref c10, .int (nI 0), .int (nI 0), .ref c11, .int (nI 0), .int (nI 0), .int (nI 0)])), (c0, xI Z 4 ((fun _ => 0))), (c1, xI Z 24 ((fun _ => 0))), (c2, xI Z 24 ((fun _ => 0))), (c3, xI Z 24 ((fun _ => 0))), (c4, xI Z 24 ((fun _ => 0))), (c5, xJ Z 6 (upd (upd (upd (upd (upd (upd ((fun _ => nI 0)) 0 ((-1))) 1 ((-1))) 2 ((-1))) 3 ((-1))) 4 ((-1))) 5 ((-1)))), (c6, xI Z 6 ((fun _ => 0))), (c7, xI Z 6 ((fun _ => 0))), (c8, xI Z 700 ((fun _ => 0))), (c9, xI Z 700 ((fun _ => 0))), (c10, xI Z 80001 ((fun _ => 0))), (c11, xI Z 6 ((fun _ => 0)))] := hD
  refine W.widen (k := 12) (n := 81525) (Nat.le_of_ble_eq_true rfl) (Nat.le_of_ble_eq_true rfl) ?_
  exact x_vret hC hr hk hP hD hS dX7_init_125 ⟨c0, c1, c2, c3, c4, c5, c6, c7, c8, c9, c10, c11, 0, 0, 0, 0, 0, 0, 0, 0, fun _ => 0, fun _ => 0, fun _ => 0, fun _ => 0, fun _ => 0, fun _ => 0, upd (upd (upd (upd (upd (upd (fun _ => nI 0) 0 (-1)) 1 (-1)) 2 (-1)) 3 (-1)) 4 (-1)) 5 (-1), MR7_0, RR.nil (by decide), BQ.nil (by decide), rfl⟩
