/-- the model's objects hold the state -/
def MW (mx : Nat) (S : xS) (w : va_W) (Z : xZ) : Prop := match S with
  | ((v, now), (nl, op, wk, on, iz), R, (pq, pu, pf, pg), L, (B, t)) => ∃ (c0 c1 c2 c3 c4 c5 c6 c7 c8 c9 c10 c11 th bg sl fb md tp tl tr : Nat) (wy gs gw sv gb mk : Nat → Nat) (wr : Nat → Int32), MR7 R wr wy gs ∧ RR 700 bg gw L ∧ BQ fb gb (bmany (B, t)) (BF (B, t)) ∧ w = [(mx, .inr (7, [.int (nI th), .ref c0, .int (nI nl), .ref c1, .ref c2, .ref c3, .ref c4, .int (nI now), .ref c5, .ref c6, .ref c7, .int (nI pq), .int (nI pu), .int (nI pf), .int (nI pg), .int (nI bg), .int (nI L.length), .ref c8, .int (nI sl), .ref c9, .int (nI fb), .int (nI (bmany (B, t))), .ref c10, .int (nI t), .int (nI md), .ref c11, .int (nI tp), .int (nI tl), .int (nI tr)])), (c0, xI Z 4 v), (c1, xI Z 24 op), (c2, xI Z 24 wk), (c3, xI Z 24 on), (c4, xI Z 24 iz), (c5, xJ Z 6 wr), (c6, xI Z 6 wy), (c7, xI Z 6 gs), (c8, xI Z 700 gw), (c9, xI Z 700 sv), (c10, xI Z 80001 gb), (c11, xI Z 6 mk)]
def XQ (mx : Nat) (Z : xZ) (q : Int32 × xS) (r : Int32) (w : va_W) : Prop := r = q.1 ∧ SV q.2 ∧ MW mx q.2 w Z
def rcp (R : xRl) : Nat → Nat
  | 0 => 0
  | k + 1 => rcp R k + rone R k
theorem rcp_6 (R : xRl) : rcp R 6 = rcount R := by simp only [rcp, rcount, Nat.zero_add]
theorem rcp_le (R : xRl) : ∀ k, rcp R k ≤ k
  | 0 => Nat.le_refl 0
  | k + 1 => by
    have := rcp_le R k
    have := rone_le R k
    simp only [rcp]
    omega

theorem ks_X7_in : yX7_in.cls ≠ "java/lang/invoke/MethodHandle" ∧ yX7_in.cls ≠ "java/lang/invoke/VarHandle" ∧ (parseMethodDescriptor yX7_in.desc).map (fun d => d.parameters.length) = some 3 := by decide +kernel
set_option maxHeartbeats 4000000 in
set_option maxRecDepth 100000 in
theorem c_isPair_y (l : Launch) (Z : xZ) (q u : Nat) (hq : inQ (nI q) 0 2 = true) (hu : inQ (nI u) 0 1 = true) : xMi l Z yX7_isPair vX7_isPair ({ frames := 1, cells := 0, slots := 0, locals := 25 } : Room) [.int (nI q), .int (nI u)] [] (fun r w => r = nI 1 ∧ w = []) := by
  refine x_i (by decide) rfl (Nat.le_of_ble_eq_true rfl) ?_
  intro p e s m args below meth c ls A hC hr hk hl hP hD hS
  have hx := hC.1.1
  have hb := hC.1.2.1
  have hml := hC.1.2.2.1
  have hown : s.vm.findClass RX7 = some m.cls := hC.1.2.2.2.1
  have hts := hC.1.2.2.2.2
  have hK := hC.2.1
  have qq_766 := hts (Cond.constantLong RX7 51 (2)) (List.mem_cons_of_mem _ wq_766)
  have hl : lv_has ls 2 [(0, .int (nI q)), (1, .int (nI u))] := hl
  have hP : va_P Z.1 vwCl [] s.heap := hP
  have hD : va_D A [] := hD
  refine lv_iload_n hx hb dX7_isPair_0 rfl (lv_at hl 0 rfl) ?_
  refine lv_i2l (v := (nI q).toInt64) hx hb dX7_isPair_1 rfl ?_
  refine lv_lconst (v := lN 0) hx hb dX7_isPair_2 (by decide) ?_
  refine lv_ldc2 (v := lN 2) hx hb hown qq_766 dX7_isPair_3 ?_
  refine x_Si (y := yX7_in) (As := [.long ((nI q).toInt64), .long (lN 0), .long (lN 2)]) (wc := []) (wr := []) hC hP hD hS (c_in_y l Z ((nI q).toInt64) (lN 0) (lN 2) (in_y hq (by decide) (by decide))) (gS wq_769 wq_767 wq_768 wq_45) rfl ks_X7_in ⟨rfl, rfl⟩ rfl hl.1 rfl ⟨Nat.le_of_ble_eq_true rfl, Nat.le_of_ble_eq_true rfl⟩ ([] : List Nat) ([] : List Nat) rfl rfl (by decide) (by decide) (by decide) rfl dX7_isPair_6 (fun r6 w1 H locs hw hP hD hS => ?_)
  obtain ⟨rfl, rfl⟩ := hw
  have hP : va_P Z.1 vwCl [] H := hP
  have hD : va_D A [] := hD
  refine ln_if_eq (tgt := 26) hx hb dX7_isPair_9 (by decide) (by omega) (fun h9 => False.elim (by omega)) (fun h9 => ?_)
  refine lv_iload_n hx hb dX7_isPair_12 rfl (lv_at hl 1 rfl) ?_
  refine lv_i2l (v := (nI u).toInt64) hx hb dX7_isPair_13 rfl ?_
  refine lv_lconst (v := lN 0) hx hb dX7_isPair_14 (by decide) ?_
  refine lv_lconst (v := lN 1) hx hb dX7_isPair_15 (by decide) ?_
  refine x_Si (y := yX7_in) (As := [.long ((nI u).toInt64), .long (lN 0), .long (lN 1)]) (wc := []) (wr := []) hC hP hD hS (c_in_y l Z ((nI u).toInt64) (lN 0) (lN 1) (in_y hu (by decide) (by decide))) (gS wq_769 wq_767 wq_768 wq_45) rfl ks_X7_in ⟨rfl, rfl⟩ rfl hl.1 rfl ⟨Nat.le_of_ble_eq_true rfl, Nat.le_of_ble_eq_true rfl⟩ ([] : List Nat) ([] : List Nat) rfl rfl (by decide) (by decide) (by decide) rfl dX7_isPair_16 (fun r16 w1 H locs hw hP hD hS => ?_)
  obtain ⟨rfl, rfl⟩ := hw
  have hP : va_P Z.1 vwCl [] H := hP
  have hD : va_D A [] := hD
  refine ln_if_eq (tgt := 26) hx hb dX7_isPair_19 (by decide) (by omega) (fun h19 => False.elim (by omega)) (fun h19 => ?_)
  refine ln_const 1 hx hb dX7_isPair_22 (by decide) ?_
  refine lv_goto (tgt := 27) hx hb dX7_isPair_23 (by decide) ?_
  exact x_zret hC hr rfl hk hP hD hS dX7_isPair_27 ⟨rfl, rfl⟩

set_option maxHeartbeats 4000000 in
set_option maxRecDepth 100000 in
theorem c_isPair_n1 (l : Launch) (Z : xZ) (q u : Int32) (hq : inQ q 0 2 = false) : xMi l Z yX7_isPair vX7_isPair ({ frames := 1, cells := 0, slots := 0, locals := 25 } : Room) [.int q, .int u] [] (fun r w => r = nI 0 ∧ w = []) := by
  refine x_i (by decide) rfl (Nat.le_of_ble_eq_true rfl) ?_
  intro p e s m args below meth c ls A hC hr hk hl hP hD hS
  have hx := hC.1.1
  have hb := hC.1.2.1
  have hml := hC.1.2.2.1
  have hown : s.vm.findClass RX7 = some m.cls := hC.1.2.2.2.1
  have hts := hC.1.2.2.2.2
  have hK := hC.2.1
  have qq_766 := hts (Cond.constantLong RX7 51 (2)) (List.mem_cons_of_mem _ wq_766)
  have hl : lv_has ls 2 [(0, .int q), (1, .int u)] := hl
  have hP : va_P Z.1 vwCl [] s.heap := hP
  have hD : va_D A [] := hD
  refine lv_iload_n hx hb dX7_isPair_0 rfl (lv_at hl 0 rfl) ?_
  refine lv_i2l (v := (q).toInt64) hx hb dX7_isPair_1 rfl ?_
  refine lv_lconst (v := lN 0) hx hb dX7_isPair_2 (by decide) ?_
  refine lv_ldc2 (v := lN 2) hx hb hown qq_766 dX7_isPair_3 ?_
  refine x_Si (y := yX7_in) (As := [.long ((q).toInt64), .long (lN 0), .long (lN 2)]) (wc := []) (wr := []) hC hP hD hS (c_in_n l Z ((q).toInt64) (lN 0) (lN 2) (in_n hq (by decide) (by decide))) (gS wq_769 wq_767 wq_768 wq_45) rfl ks_X7_in ⟨rfl, rfl⟩ rfl hl.1 rfl ⟨Nat.le_of_ble_eq_true rfl, Nat.le_of_ble_eq_true rfl⟩ ([] : List Nat) ([] : List Nat) rfl rfl (by decide) (by decide) (by decide) rfl dX7_isPair_6 (fun r6 w1 H locs hw hP hD hS => ?_)
  obtain ⟨rfl, rfl⟩ := hw
  have hP : va_P Z.1 vwCl [] H := hP
  have hD : va_D A [] := hD
  refine ln_if_eq (tgt := 26) hx hb dX7_isPair_9 (by decide) (by omega) (fun h9 => ?_) (fun h9 => False.elim (by omega))
  refine ln_const 0 hx hb dX7_isPair_26 (by decide) ?_
  exact x_zret hC hr rfl hk hP hD hS dX7_isPair_27 ⟨rfl, rfl⟩

set_option maxHeartbeats 4000000 in
set_option maxRecDepth 100000 in
theorem c_isPair_n2 (l : Launch) (Z : xZ) (q : Nat) (u : Int32) (hq : inQ (nI q) 0 2 = true) (hu : inQ u 0 1 = false) : xMi l Z yX7_isPair vX7_isPair ({ frames := 1, cells := 0, slots := 0, locals := 25 } : Room) [.int (nI q), .int u] [] (fun r w => r = nI 0 ∧ w = []) := by
  refine x_i (by decide) rfl (Nat.le_of_ble_eq_true rfl) ?_
  intro p e s m args below meth c ls A hC hr hk hl hP hD hS
  have hx := hC.1.1
  have hb := hC.1.2.1
  have hml := hC.1.2.2.1
  have hown : s.vm.findClass RX7 = some m.cls := hC.1.2.2.2.1
  have hts := hC.1.2.2.2.2
  have hK := hC.2.1
  have qq_766 := hts (Cond.constantLong RX7 51 (2)) (List.mem_cons_of_mem _ wq_766)
  have hl : lv_has ls 2 [(0, .int (nI q)), (1, .int u)] := hl
  have hP : va_P Z.1 vwCl [] s.heap := hP
  have hD : va_D A [] := hD
  refine lv_iload_n hx hb dX7_isPair_0 rfl (lv_at hl 0 rfl) ?_
  refine lv_i2l (v := (nI q).toInt64) hx hb dX7_isPair_1 rfl ?_
  refine lv_lconst (v := lN 0) hx hb dX7_isPair_2 (by decide) ?_
  refine lv_ldc2 (v := lN 2) hx hb hown qq_766 dX7_isPair_3 ?_
  refine x_Si (y := yX7_in) (As := [.long ((nI q).toInt64), .long (lN 0), .long (lN 2)]) (wc := []) (wr := []) hC hP hD hS (c_in_y l Z ((nI q).toInt64) (lN 0) (lN 2) (in_y hq (by decide) (by decide))) (gS wq_769 wq_767 wq_768 wq_45) rfl ks_X7_in ⟨rfl, rfl⟩ rfl hl.1 rfl ⟨Nat.le_of_ble_eq_true rfl, Nat.le_of_ble_eq_true rfl⟩ ([] : List Nat) ([] : List Nat) rfl rfl (by decide) (by decide) (by decide) rfl dX7_isPair_6 (fun r6 w1 H locs hw hP hD hS => ?_)
  obtain ⟨rfl, rfl⟩ := hw
  have hP : va_P Z.1 vwCl [] H := hP
  have hD : va_D A [] := hD
  refine ln_if_eq (tgt := 26) hx hb dX7_isPair_9 (by decide) (by omega) (fun h9 => False.elim (by omega)) (fun h9 => ?_)
  refine lv_iload_n hx hb dX7_isPair_12 rfl (lv_at hl 1 rfl) ?_
  refine lv_i2l (v := (u).toInt64) hx hb dX7_isPair_13 rfl ?_
  refine lv_lconst (v := lN 0) hx hb dX7_isPair_14 (by decide) ?_
  refine lv_lconst (v := lN 1) hx hb dX7_isPair_15 (by decide) ?_
  refine x_Si (y := yX7_in) (As := [.long ((u).toInt64), .long (lN 0), .long (lN 1)]) (wc := []) (wr := []) hC hP hD hS (c_in_n l Z ((u).toInt64) (lN 0) (lN 1) (in_n hu (by decide) (by decide))) (gS wq_769 wq_767 wq_768 wq_45) rfl ks_X7_in ⟨rfl, rfl⟩ rfl hl.1 rfl ⟨Nat.le_of_ble_eq_true rfl, Nat.le_of_ble_eq_true rfl⟩ ([] : List Nat) ([] : List Nat) rfl rfl (by decide) (by decide) (by decide) rfl dX7_isPair_16 (fun r16 w1 H locs hw hP hD hS => ?_)
  obtain ⟨rfl, rfl⟩ := hw
  have hP : va_P Z.1 vwCl [] H := hP
  have hD : va_D A [] := hD
  refine ln_if_eq (tgt := 26) hx hb dX7_isPair_19 (by decide) (by omega) (fun h19 => ?_) (fun h19 => False.elim (by omega))
  refine ln_const 0 hx hb dX7_isPair_26 (by decide) ?_
  exact x_zret hC hr rfl hk hP hD hS dX7_isPair_27 ⟨rfl, rfl⟩

set_option maxHeartbeats 4000000 in
set_option maxRecDepth 100000 in
theorem c_X7_line (l : Launch) (Z : xZ) (mx : Nat) (S : xS) (hS0 : SV S) (wx : va_W) (hw0 : MW mx S wx Z) (x1 x2 x3 x4 : Int32) : xMi l Z yX7_line vX7_line ({ frames := 1, cells := 0, slots := 0, locals := 25 } : Room) [.ref mx, .int x1, .int x2, .int x3, .int x4] wx (XQ mx Z (f_line S x1 x2 x3 x4)) := by
  obtain ⟨⟨v, now⟩, ⟨nl, op, wk, on, iz⟩, R, ⟨pq, pu, pf, pg⟩, L, B, t⟩ := S
  obtain ⟨hCV, hRV, hPV, hWV, hBV⟩ := hS0
  obtain ⟨c0, c1, c2, c3, c4, c5, c6, c7, c8, c9, c10, c11, th, bg, sl, fb, md, tp, tl, tr, wy, gs, gw, sv, gb, mk, wr, hM7, hRL, hBQ, rfl⟩ := hw0
  have hRL1 := hRL.1
  obtain ⟨hc1, hc2, hc3, hc4⟩ := id hCV
  obtain ⟨hp1, hp2, hp3, hp4⟩ := id hPV
  obtain ⟨hw1, hw2⟩ := id hWV
  obtain ⟨hb1, hb2, hb3, hb4, hb5⟩ := id hBV
  have hbm : bmany (B, t) = 121 * B.length - t % 121 := rfl
  dsimp only at hRV hc1 hc2 hc3 hc4 hp1 hp2 hp3 hp4 hw1 hw2 hb1 hb2 hb3 hb4 hb5
  refine x_i (by decide) rfl (Nat.le_of_ble_eq_true rfl) ?_
  intro p e s m args below meth c ls A hC hr hk hl hP hD hS
  have hx := hC.1.1
  have hb := hC.1.2.1
  have hml := hC.1.2.2.1
  have hown : s.vm.findClass RX7 = some m.cls := hC.1.2.2.2.1
  have hts := hC.1.2.2.2.2
  have hK := hC.2.1
  have qq_674 := hts (Cond.fieldLink RX7 47 "TagTowerModel" "thrown" "I") (List.mem_cons_of_mem _ wq_674)
  have iX7 : ∀ w ∈ wsX70, w ∈ vX7_line := fun w h => List.mem_cons_of_mem _ (wi_X7 w h)
  have qq_766 := hts (Cond.constantLong RX7 51 (2)) (List.mem_cons_of_mem _ wq_766)
  have qq_770 := hts (Cond.constantLong RX7 57 (3)) (List.mem_cons_of_mem _ wq_770)
  have qq_771 := hts (Cond.constantLong RX7 59 (24)) (List.mem_cons_of_mem _ wq_771)
  have qq_676 := hts (Cond.fieldLink RX7 61 "TagTowerModel" "lines" "I") (List.mem_cons_of_mem _ wq_676)
  have qq_677 := hts (Cond.fieldLink RX7 13 "TagTowerModel" "op" "[I") (List.mem_cons_of_mem _ wq_677)
  have qq_678 := hts (Cond.fieldLink RX7 16 "TagTowerModel" "which" "[I") (List.mem_cons_of_mem _ wq_678)
  have qq_679 := hts (Cond.fieldLink RX7 19 "TagTowerModel" "then" "[I") (List.mem_cons_of_mem _ wq_679)
  have qq_680 := hts (Cond.fieldLink RX7 22 "TagTowerModel" "other" "[I") (List.mem_cons_of_mem _ wq_680)
  have hl : lv_has ls 5 [(0, .ref mx), (1, .int x1), (2, .int x2), (3, .int x3), (4, .int x4)] := hl
  have hP : va_P Z.1 vwCl [(mx, .inr (7, [.int (nI th), .ref c0, .int (nI nl), .ref c1, .ref c2, .ref c3, .ref c4, .int (nI now), .ref c5, .ref c6, .ref c7, .int (nI pq), .int (nI pu), .int (nI pf), .int (nI pg), .int (nI bg), .int (nI L.length), .ref c8, .int (nI sl), .ref c9, .int (nI fb), .int (nI (bmany (B, t))), .ref c10, .int (nI t), .int (nI md), .ref c11, .int (nI tp), .int (nI tl), .int (nI tr)])), (c0, xI Z 4 v), (c1, xI Z 24 op), (c2, xI Z 24 wk), (c3, xI Z 24 on), (c4, xI Z 24 iz), (c5, xJ Z 6 wr), (c6, xI Z 6 wy), (c7, xI Z 6 gs), (c8, xI Z 700 gw), (c9, xI Z 700 sv), (c10, xI Z 80001 gb), (c11, xI Z 6 mk)] s.heap := hP
  have hD : va_D A [(mx, .inr (7, [.int (nI th), .ref c0, .int (nI nl), .ref c1, .ref c2, .ref c3, .ref c4, .int (nI now), .ref c5, .ref c6, .ref c7, .int (nI pq), .int (nI pu), .int (nI pf), .int (nI pg), .int (nI bg), .int (nI L.length), .ref c8, .int (nI sl), .ref c9, .int (nI fb), .int (nI (bmany (B, t))), .ref c10, .int (nI t), .int (nI md), .ref c11, .int (nI tp), .int (nI tl), .int (nI tr)])), (c0, xI Z 4 v), (c1, xI Z 24 op), (c2, xI Z 24 wk), (c3, xI Z 24 on), (c4, xI Z 24 iz), (c5, xJ Z 6 wr), (c6, xI Z 6 wy), (c7, xI Z 6 gs), (c8, xI Z 700 gw), (c9, xI Z 700 sv), (c10, xI Z 80001 gb), (c11, xI Z 6 mk)] := hD
  refine lv_aload_n hx hb dX7_line_0 rfl (lv_at hl 0 rfl) ?_
  refine ln_const 0 hx hb dX7_line_1 (by decide) ?_
  refine va_put (D := Z.1) (ci := 7) (v := .int (nI 0)) (ty := tyX7 0) (C := RX7) (T := TX7) (N := 29) hx hb hts iX7 tyX7 tyX7_ok nmX7 hown hK hP hD hS 0 rfl rfl 0 (Nat.le_of_ble_eq_true rfl) qq_674 (fun _ h9 => h9) rfl (tyX7_ok 0 (Nat.le_of_ble_eq_true rfl)) rfl rfl (Nat.le_of_ble_eq_true rfl) dX7_line_2 (fun H locs hP hD hS => ?_)
  have hP : va_P Z.1 vwCl [(mx, .inr (7, [.int (nI 0), .ref c0, .int (nI nl), .ref c1, .ref c2, .ref c3, .ref c4, .int (nI now), .ref c5, .ref c6, .ref c7, .int (nI pq), .int (nI pu), .int (nI pf), .int (nI pg), .int (nI bg), .int (nI L.length), .ref c8, .int (nI sl), .ref c9, .int (nI fb), .int (nI (bmany (B, t))), .ref c10, .int (nI t), .int (nI md), .ref c11, .int (nI tp), .int (nI tl), .int (nI tr)])), (c0, xI Z 4 v), (c1, xI Z 24 op), (c2, xI Z 24 wk), (c3, xI Z 24 on), (c4, xI Z 24 iz), (c5, xJ Z 6 wr), (c6, xI Z 6 wy), (c7, xI Z 6 gs), (c8, xI Z 700 gw), (c9, xI Z 700 sv), (c10, xI Z 80001 gb), (c11, xI Z 6 mk)] H := hP
  have hD : va_D A [(mx, .inr (7, [.int (nI 0), .ref c0, .int (nI nl), .ref c1, .ref c2, .ref c3, .ref c4, .int (nI now), .ref c5, .ref c6, .ref c7, .int (nI pq), .int (nI pu), .int (nI pf), .int (nI pg), .int (nI bg), .int (nI L.length), .ref c8, .int (nI sl), .ref c9, .int (nI fb), .int (nI (bmany (B, t))), .ref c10, .int (nI t), .int (nI md), .ref c11, .int (nI tp), .int (nI tl), .int (nI tr)])), (c0, xI Z 4 v), (c1, xI Z 24 op), (c2, xI Z 24 wk), (c3, xI Z 24 on), (c4, xI Z 24 iz), (c5, xJ Z 6 wr), (c6, xI Z 6 wy), (c7, xI Z 6 gs), (c8, xI Z 700 gw), (c9, xI Z 700 sv), (c10, xI Z 80001 gb), (c11, xI Z 6 mk)] := hD
  cases hq_x1 : inQ x1 0 2
  · refine lv_iload_n hx hb dX7_line_5 rfl (lv_at hl 1 rfl) ?_
    refine lv_i2l (v := (x1).toInt64) hx hb dX7_line_6 rfl ?_
    refine lv_lconst (v := lN 0) hx hb dX7_line_7 (by decide) ?_
    refine lv_ldc2 (v := lN 2) hx hb hown qq_766 dX7_line_8 ?_
    refine x_Si (y := yX7_in) (As := [.long ((x1).toInt64), .long (lN 0), .long (lN 2)]) (wc := []) (wr := [(mx, .inr (7, [.int (nI 0), .ref c0, .int (nI nl), .ref c1, .ref c2, .ref c3, .ref c4, .int (nI now), .ref c5, .ref c6, .ref c7, .int (nI pq), .int (nI pu), .int (nI pf), .int (nI pg), .int (nI bg), .int (nI L.length), .ref c8, .int (nI sl), .ref c9, .int (nI fb), .int (nI (bmany (B, t))), .ref c10, .int (nI t), .int (nI md), .ref c11, .int (nI tp), .int (nI tl), .int (nI tr)])), (c0, xI Z 4 v), (c1, xI Z 24 op), (c2, xI Z 24 wk), (c3, xI Z 24 on), (c4, xI Z 24 iz), (c5, xJ Z 6 wr), (c6, xI Z 6 wy), (c7, xI Z 6 gs), (c8, xI Z 700 gw), (c9, xI Z 700 sv), (c10, xI Z 80001 gb), (c11, xI Z 6 mk)]) hC hP hD hS (c_in_n l Z ((x1).toInt64) (lN 0) (lN 2) (in_n hq_x1 (by decide) (by decide))) (gS wq_769 wq_767 wq_768 wq_45) rfl ks_X7_in ⟨rfl, rfl⟩ rfl hl.1 rfl ⟨Nat.le_of_ble_eq_true rfl, Nat.le_of_ble_eq_true rfl⟩ ([] : List Nat) [0, 1, 2, 3, 4, 5, 6, 7, 8, 9, 10, 11, 12] rfl rfl (by decide) (by decide) (by decide) rfl dX7_line_11 (fun r11 w1 H locs hw hP hD hS => ?_)
    obtain ⟨rfl, rfl⟩ := hw
    have hP : va_P Z.1 vwCl [(mx, .inr (7, [.int (nI 0), .ref c0, .int (nI nl), .ref c1, .ref c2, .ref c3, .ref c4, .int (nI now), .ref c5, .ref c6, .ref c7, .int (nI pq), .int (nI pu), .int (nI pf), .int (nI pg), .int (nI bg), .int (nI L.length), .ref c8, .int (nI sl), .ref c9, .int (nI fb), .int (nI (bmany (B, t))), .ref c10, .int (nI t), .int (nI md), .ref c11, .int (nI tp), .int (nI tl), .int (nI tr)])), (c0, xI Z 4 v), (c1, xI Z 24 op), (c2, xI Z 24 wk), (c3, xI Z 24 on), (c4, xI Z 24 iz), (c5, xJ Z 6 wr), (c6, xI Z 6 wy), (c7, xI Z 6 gs), (c8, xI Z 700 gw), (c9, xI Z 700 sv), (c10, xI Z 80001 gb), (c11, xI Z 6 mk)] H := hP
    have hD : va_D A [(mx, .inr (7, [.int (nI 0), .ref c0, .int (nI nl), .ref c1, .ref c2, .ref c3, .ref c4, .int (nI now), .ref c5, .ref c6, .ref c7, .int (nI pq), .int (nI pu), .int (nI pf), .int (nI pg), .int (nI bg), .int (nI L.length), .ref c8, .int (nI sl), .ref c9, .int (nI fb), .int (nI (bmany (B, t))), .ref c10, .int (nI t), .int (nI md), .ref c11, .int (nI tp), .int (nI tl), .int (nI tr)])), (c0, xI Z 4 v), (c1, xI Z 24 op), (c2, xI Z 24 wk), (c3, xI Z 24 on), (c4, xI Z 24 iz), (c5, xJ Z 6 wr), (c6, xI Z 6 wy), (c7, xI Z 6 gs), (c8, xI Z 700 gw), (c9, xI Z 700 sv), (c10, xI Z 80001 gb), (c11, xI Z 6 mk)] := hD
    refine ln_if_eq (tgt := 54) hx hb dX7_line_14 (by decide) (by omega) (fun h14 => ?_) (fun h14 => False.elim (by omega))
    refine lv_iconst (v := (-1)) hx hb dX7_line_54 (by decide) ?_
    exact x_iret hC hr hk hP hD hS dX7_line_55 (show XQ mx Z (f_line ((v, now), (nl, op, wk, on, iz), R, (pq, pu, pf, pg), L, (B, t)) x1 x2 x3 x4) _ _ from by
        rw [show f_line ((v, now), (nl, op, wk, on, iz), R, (pq, pu, pf, pg), L, (B, t)) x1 x2 x3 x4 = (-1, ((v, now), (nl, op, wk, on, iz), R, (pq, pu, pf, pg), L, (B, t))) from (by simp only [f_line, hq_x1, Bool.and_true, Bool.true_and, Bool.and_false, Bool.false_and, Bool.and_self, if_true, Bool.false_eq_true, if_false, reduceIte])]
        exact ⟨rfl, ⟨hCV, hRV, hPV, hWV, hBV⟩, c0, c1, c2, c3, c4, c5, c6, c7, c8, c9, c10, c11, 0, bg, sl, fb, md, tp, tl, tr, wy, gs, gw, sv, gb, mk, wr, hM7, hRL, hBQ, rfl⟩)
  · obtain ⟨j1, j1a, j1b, rfl⟩ := inQ_of hq_x1 (by decide)
    refine lv_iload_n hx hb dX7_line_5 rfl (lv_at hl 1 rfl) ?_
    refine lv_i2l (v := (nI j1).toInt64) hx hb dX7_line_6 rfl ?_
    refine lv_lconst (v := lN 0) hx hb dX7_line_7 (by decide) ?_
    refine lv_ldc2 (v := lN 2) hx hb hown qq_766 dX7_line_8 ?_
    refine x_Si (y := yX7_in) (As := [.long ((nI j1).toInt64), .long (lN 0), .long (lN 2)]) (wc := []) (wr := [(mx, .inr (7, [.int (nI 0), .ref c0, .int (nI nl), .ref c1, .ref c2, .ref c3, .ref c4, .int (nI now), .ref c5, .ref c6, .ref c7, .int (nI pq), .int (nI pu), .int (nI pf), .int (nI pg), .int (nI bg), .int (nI L.length), .ref c8, .int (nI sl), .ref c9, .int (nI fb), .int (nI (bmany (B, t))), .ref c10, .int (nI t), .int (nI md), .ref c11, .int (nI tp), .int (nI tl), .int (nI tr)])), (c0, xI Z 4 v), (c1, xI Z 24 op), (c2, xI Z 24 wk), (c3, xI Z 24 on), (c4, xI Z 24 iz), (c5, xJ Z 6 wr), (c6, xI Z 6 wy), (c7, xI Z 6 gs), (c8, xI Z 700 gw), (c9, xI Z 700 sv), (c10, xI Z 80001 gb), (c11, xI Z 6 mk)]) hC hP hD hS (c_in_y l Z ((nI j1).toInt64) (lN 0) (lN 2) (in_y hq_x1 (by decide) (by decide))) (gS wq_769 wq_767 wq_768 wq_45) rfl ks_X7_in ⟨rfl, rfl⟩ rfl hl.1 rfl ⟨Nat.le_of_ble_eq_true rfl, Nat.le_of_ble_eq_true rfl⟩ ([] : List Nat) [0, 1, 2, 3, 4, 5, 6, 7, 8, 9, 10, 11, 12] rfl rfl (by decide) (by decide) (by decide) rfl dX7_line_11 (fun r11 w1 H locs hw hP hD hS => ?_)
    obtain ⟨rfl, rfl⟩ := hw
    have hP : va_P Z.1 vwCl [(mx, .inr (7, [.int (nI 0), .ref c0, .int (nI nl), .ref c1, .ref c2, .ref c3, .ref c4, .int (nI now), .ref c5, .ref c6, .ref c7, .int (nI pq), .int (nI pu), .int (nI pf), .int (nI pg), .int (nI bg), .int (nI L.length), .ref c8, .int (nI sl), .ref c9, .int (nI fb), .int (nI (bmany (B, t))), .ref c10, .int (nI t), .int (nI md), .ref c11, .int (nI tp), .int (nI tl), .int (nI tr)])), (c0, xI Z 4 v), (c1, xI Z 24 op), (c2, xI Z 24 wk), (c3, xI Z 24 on), (c4, xI Z 24 iz), (c5, xJ Z 6 wr), (c6, xI Z 6 wy), (c7, xI Z 6 gs), (c8, xI Z 700 gw), (c9, xI Z 700 sv), (c10, xI Z 80001 gb), (c11, xI Z 6 mk)] H := hP
    have hD : va_D A [(mx, .inr (7, [.int (nI 0), .ref c0, .int (nI nl), .ref c1, .ref c2, .ref c3, .ref c4, .int (nI now), .ref c5, .ref c6, .ref c7, .int (nI pq), .int (nI pu), .int (nI pf), .int (nI pg), .int (nI bg), .int (nI L.length), .ref c8, .int (nI sl), .ref c9, .int (nI fb), .int (nI (bmany (B, t))), .ref c10, .int (nI t), .int (nI md), .ref c11, .int (nI tp), .int (nI tl), .int (nI tr)])), (c0, xI Z 4 v), (c1, xI Z 24 op), (c2, xI Z 24 wk), (c3, xI Z 24 on), (c4, xI Z 24 iz), (c5, xJ Z 6 wr), (c6, xI Z 6 wy), (c7, xI Z 6 gs), (c8, xI Z 700 gw), (c9, xI Z 700 sv), (c10, xI Z 80001 gb), (c11, xI Z 6 mk)] := hD
    refine ln_if_eq (tgt := 54) hx hb dX7_line_14 (by decide) (by omega) (fun h14 => False.elim (by omega)) (fun h14 => ?_)
    cases hq_x2 : inQ x2 0 3
    · refine lv_iload_n hx hb dX7_line_17 rfl (lv_at hl 2 rfl) ?_
      refine lv_i2l (v := (x2).toInt64) hx hb dX7_line_18 rfl ?_
      refine lv_lconst (v := lN 0) hx hb dX7_line_19 (by decide) ?_
      refine lv_ldc2 (v := lN 3) hx hb hown qq_770 dX7_line_20 ?_
      refine x_Si (y := yX7_in) (As := [.long ((x2).toInt64), .long (lN 0), .long (lN 3)]) (wc := []) (wr := [(mx, .inr (7, [.int (nI 0), .ref c0, .int (nI nl), .ref c1, .ref c2, .ref c3, .ref c4, .int (nI now), .ref c5, .ref c6, .ref c7, .int (nI pq), .int (nI pu), .int (nI pf), .int (nI pg), .int (nI bg), .int (nI L.length), .ref c8, .int (nI sl), .ref c9, .int (nI fb), .int (nI (bmany (B, t))), .ref c10, .int (nI t), .int (nI md), .ref c11, .int (nI tp), .int (nI tl), .int (nI tr)])), (c0, xI Z 4 v), (c1, xI Z 24 op), (c2, xI Z 24 wk), (c3, xI Z 24 on), (c4, xI Z 24 iz), (c5, xJ Z 6 wr), (c6, xI Z 6 wy), (c7, xI Z 6 gs), (c8, xI Z 700 gw), (c9, xI Z 700 sv), (c10, xI Z 80001 gb), (c11, xI Z 6 mk)]) hC hP hD hS (c_in_n l Z ((x2).toInt64) (lN 0) (lN 3) (in_n hq_x2 (by decide) (by decide))) (gS wq_769 wq_767 wq_768 wq_45) rfl ks_X7_in ⟨rfl, rfl⟩ rfl hl.1 rfl ⟨Nat.le_of_ble_eq_true rfl, Nat.le_of_ble_eq_true rfl⟩ ([] : List Nat) [0, 1, 2, 3, 4, 5, 6, 7, 8, 9, 10, 11, 12] rfl rfl (by decide) (by decide) (by decide) rfl dX7_line_23 (fun r23 w1 H locs hw hP hD hS => ?_)
      obtain ⟨rfl, rfl⟩ := hw
      have hP : va_P Z.1 vwCl [(mx, .inr (7, [.int (nI 0), .ref c0, .int (nI nl), .ref c1, .ref c2, .ref c3, .ref c4, .int (nI now), .ref c5, .ref c6, .ref c7, .int (nI pq), .int (nI pu), .int (nI pf), .int (nI pg), .int (nI bg), .int (nI L.length), .ref c8, .int (nI sl), .ref c9, .int (nI fb), .int (nI (bmany (B, t))), .ref c10, .int (nI t), .int (nI md), .ref c11, .int (nI tp), .int (nI tl), .int (nI tr)])), (c0, xI Z 4 v), (c1, xI Z 24 op), (c2, xI Z 24 wk), (c3, xI Z 24 on), (c4, xI Z 24 iz), (c5, xJ Z 6 wr), (c6, xI Z 6 wy), (c7, xI Z 6 gs), (c8, xI Z 700 gw), (c9, xI Z 700 sv), (c10, xI Z 80001 gb), (c11, xI Z 6 mk)] H := hP
      have hD : va_D A [(mx, .inr (7, [.int (nI 0), .ref c0, .int (nI nl), .ref c1, .ref c2, .ref c3, .ref c4, .int (nI now), .ref c5, .ref c6, .ref c7, .int (nI pq), .int (nI pu), .int (nI pf), .int (nI pg), .int (nI bg), .int (nI L.length), .ref c8, .int (nI sl), .ref c9, .int (nI fb), .int (nI (bmany (B, t))), .ref c10, .int (nI t), .int (nI md), .ref c11, .int (nI tp), .int (nI tl), .int (nI tr)])), (c0, xI Z 4 v), (c1, xI Z 24 op), (c2, xI Z 24 wk), (c3, xI Z 24 on), (c4, xI Z 24 iz), (c5, xJ Z 6 wr), (c6, xI Z 6 wy), (c7, xI Z 6 gs), (c8, xI Z 700 gw), (c9, xI Z 700 sv), (c10, xI Z 80001 gb), (c11, xI Z 6 mk)] := hD
      refine ln_if_eq (tgt := 54) hx hb dX7_line_26 (by decide) (by omega) (fun h26 => ?_) (fun h26 => False.elim (by omega))
      refine lv_iconst (v := (-1)) hx hb dX7_line_54 (by decide) ?_
      exact x_iret hC hr hk hP hD hS dX7_line_55 (show XQ mx Z (f_line ((v, now), (nl, op, wk, on, iz), R, (pq, pu, pf, pg), L, (B, t)) (nI j1) x2 x3 x4) _ _ from by
          rw [show f_line ((v, now), (nl, op, wk, on, iz), R, (pq, pu, pf, pg), L, (B, t)) (nI j1) x2 x3 x4 = (-1, ((v, now), (nl, op, wk, on, iz), R, (pq, pu, pf, pg), L, (B, t))) from (by simp only [f_line, hq_x1, hq_x2, Bool.and_true, Bool.true_and, Bool.and_false, Bool.false_and, Bool.and_self, if_true, Bool.false_eq_true, if_false, reduceIte])]
          exact ⟨rfl, ⟨hCV, hRV, hPV, hWV, hBV⟩, c0, c1, c2, c3, c4, c5, c6, c7, c8, c9, c10, c11, 0, bg, sl, fb, md, tp, tl, tr, wy, gs, gw, sv, gb, mk, wr, hM7, hRL, hBQ, rfl⟩)
    · obtain ⟨j2, j2a, j2b, rfl⟩ := inQ_of hq_x2 (by decide)
      refine lv_iload_n hx hb dX7_line_17 rfl (lv_at hl 2 rfl) ?_
      refine lv_i2l (v := (nI j2).toInt64) hx hb dX7_line_18 rfl ?_
      refine lv_lconst (v := lN 0) hx hb dX7_line_19 (by decide) ?_
      refine lv_ldc2 (v := lN 3) hx hb hown qq_770 dX7_line_20 ?_
      refine x_Si (y := yX7_in) (As := [.long ((nI j2).toInt64), .long (lN 0), .long (lN 3)]) (wc := []) (wr := [(mx, .inr (7, [.int (nI 0), .ref c0, .int (nI nl), .ref c1, .ref c2, .ref c3, .ref c4, .int (nI now), .ref c5, .ref c6, .ref c7, .int (nI pq), .int (nI pu), .int (nI pf), .int (nI pg), .int (nI bg), .int (nI L.length), .ref c8, .int (nI sl), .ref c9, .int (nI fb), .int (nI (bmany (B, t))), .ref c10, .int (nI t), .int (nI md), .ref c11, .int (nI tp), .int (nI tl), .int (nI tr)])), (c0, xI Z 4 v), (c1, xI Z 24 op), (c2, xI Z 24 wk), (c3, xI Z 24 on), (c4, xI Z 24 iz), (c5, xJ Z 6 wr), (c6, xI Z 6 wy), (c7, xI Z 6 gs), (c8, xI Z 700 gw), (c9, xI Z 700 sv), (c10, xI Z 80001 gb), (c11, xI Z 6 mk)]) hC hP hD hS (c_in_y l Z ((nI j2).toInt64) (lN 0) (lN 3) (in_y hq_x2 (by decide) (by decide))) (gS wq_769 wq_767 wq_768 wq_45) rfl ks_X7_in ⟨rfl, rfl⟩ rfl hl.1 rfl ⟨Nat.le_of_ble_eq_true rfl, Nat.le_of_ble_eq_true rfl⟩ ([] : List Nat) [0, 1, 2, 3, 4, 5, 6, 7, 8, 9, 10, 11, 12] rfl rfl (by decide) (by decide) (by decide) rfl dX7_line_23 (fun r23 w1 H locs hw hP hD hS => ?_)
      obtain ⟨rfl, rfl⟩ := hw
      have hP : va_P Z.1 vwCl [(mx, .inr (7, [.int (nI 0), .ref c0, .int (nI nl), .ref c1, .ref c2, .ref c3, .ref c4, .int (nI now), .ref c5, .ref c6, .ref c7, .int (nI pq), .int (nI pu), .int (nI pf), .int (nI pg), .int (nI bg), .int (nI L.length), .ref c8, .int (nI sl), .ref c9, .int (nI fb), .int (nI (bmany (B, t))), .ref c10, .int (nI t), .int (nI md), .ref c11, .int (nI tp), .int (nI tl), .int (nI tr)])), (c0, xI Z 4 v), (c1, xI Z 24 op), (c2, xI Z 24 wk), (c3, xI Z 24 on), (c4, xI Z 24 iz), (c5, xJ Z 6 wr), (c6, xI Z 6 wy), (c7, xI Z 6 gs), (c8, xI Z 700 gw), (c9, xI Z 700 sv), (c10, xI Z 80001 gb), (c11, xI Z 6 mk)] H := hP
      have hD : va_D A [(mx, .inr (7, [.int (nI 0), .ref c0, .int (nI nl), .ref c1, .ref c2, .ref c3, .ref c4, .int (nI now), .ref c5, .ref c6, .ref c7, .int (nI pq), .int (nI pu), .int (nI pf), .int (nI pg), .int (nI bg), .int (nI L.length), .ref c8, .int (nI sl), .ref c9, .int (nI fb), .int (nI (bmany (B, t))), .ref c10, .int (nI t), .int (nI md), .ref c11, .int (nI tp), .int (nI tl), .int (nI tr)])), (c0, xI Z 4 v), (c1, xI Z 24 op), (c2, xI Z 24 wk), (c3, xI Z 24 on), (c4, xI Z 24 iz), (c5, xJ Z 6 wr), (c6, xI Z 6 wy), (c7, xI Z 6 gs), (c8, xI Z 700 gw), (c9, xI Z 700 sv), (c10, xI Z 80001 gb), (c11, xI Z 6 mk)] := hD
      refine ln_if_eq (tgt := 54) hx hb dX7_line_26 (by decide) (by omega) (fun h26 => False.elim (by omega)) (fun h26 => ?_)
      cases hq_x3 : inQ x3 0 24
      · refine lv_iload_n hx hb dX7_line_29 rfl (lv_at hl 3 rfl) ?_
        refine lv_i2l (v := (x3).toInt64) hx hb dX7_line_30 rfl ?_
        refine lv_lconst (v := lN 0) hx hb dX7_line_31 (by decide) ?_
        refine lv_ldc2 (v := lN 24) hx hb hown qq_771 dX7_line_32 ?_
        refine x_Si (y := yX7_in) (As := [.long ((x3).toInt64), .long (lN 0), .long (lN 24)]) (wc := []) (wr := [(mx, .inr (7, [.int (nI 0), .ref c0, .int (nI nl), .ref c1, .ref c2, .ref c3, .ref c4, .int (nI now), .ref c5, .ref c6, .ref c7, .int (nI pq), .int (nI pu), .int (nI pf), .int (nI pg), .int (nI bg), .int (nI L.length), .ref c8, .int (nI sl), .ref c9, .int (nI fb), .int (nI (bmany (B, t))), .ref c10, .int (nI t), .int (nI md), .ref c11, .int (nI tp), .int (nI tl), .int (nI tr)])), (c0, xI Z 4 v), (c1, xI Z 24 op), (c2, xI Z 24 wk), (c3, xI Z 24 on), (c4, xI Z 24 iz), (c5, xJ Z 6 wr), (c6, xI Z 6 wy), (c7, xI Z 6 gs), (c8, xI Z 700 gw), (c9, xI Z 700 sv), (c10, xI Z 80001 gb), (c11, xI Z 6 mk)]) hC hP hD hS (c_in_n l Z ((x3).toInt64) (lN 0) (lN 24) (in_n hq_x3 (by decide) (by decide))) (gS wq_769 wq_767 wq_768 wq_45) rfl ks_X7_in ⟨rfl, rfl⟩ rfl hl.1 rfl ⟨Nat.le_of_ble_eq_true rfl, Nat.le_of_ble_eq_true rfl⟩ ([] : List Nat) [0, 1, 2, 3, 4, 5, 6, 7, 8, 9, 10, 11, 12] rfl rfl (by decide) (by decide) (by decide) rfl dX7_line_35 (fun r35 w1 H locs hw hP hD hS => ?_)
        obtain ⟨rfl, rfl⟩ := hw
        have hP : va_P Z.1 vwCl [(mx, .inr (7, [.int (nI 0), .ref c0, .int (nI nl), .ref c1, .ref c2, .ref c3, .ref c4, .int (nI now), .ref c5, .ref c6, .ref c7, .int (nI pq), .int (nI pu), .int (nI pf), .int (nI pg), .int (nI bg), .int (nI L.length), .ref c8, .int (nI sl), .ref c9, .int (nI fb), .int (nI (bmany (B, t))), .ref c10, .int (nI t), .int (nI md), .ref c11, .int (nI tp), .int (nI tl), .int (nI tr)])), (c0, xI Z 4 v), (c1, xI Z 24 op), (c2, xI Z 24 wk), (c3, xI Z 24 on), (c4, xI Z 24 iz), (c5, xJ Z 6 wr), (c6, xI Z 6 wy), (c7, xI Z 6 gs), (c8, xI Z 700 gw), (c9, xI Z 700 sv), (c10, xI Z 80001 gb), (c11, xI Z 6 mk)] H := hP
        have hD : va_D A [(mx, .inr (7, [.int (nI 0), .ref c0, .int (nI nl), .ref c1, .ref c2, .ref c3, .ref c4, .int (nI now), .ref c5, .ref c6, .ref c7, .int (nI pq), .int (nI pu), .int (nI pf), .int (nI pg), .int (nI bg), .int (nI L.length), .ref c8, .int (nI sl), .ref c9, .int (nI fb), .int (nI (bmany (B, t))), .ref c10, .int (nI t), .int (nI md), .ref c11, .int (nI tp), .int (nI tl), .int (nI tr)])), (c0, xI Z 4 v), (c1, xI Z 24 op), (c2, xI Z 24 wk), (c3, xI Z 24 on), (c4, xI Z 24 iz), (c5, xJ Z 6 wr), (c6, xI Z 6 wy), (c7, xI Z 6 gs), (c8, xI Z 700 gw), (c9, xI Z 700 sv), (c10, xI Z 80001 gb), (c11, xI Z 6 mk)] := hD
        refine ln_if_eq (tgt := 54) hx hb dX7_line_38 (by decide) (by omega) (fun h38 => ?_) (fun h38 => False.elim (by omega))
        refine lv_iconst (v := (-1)) hx hb dX7_line_54 (by decide) ?_
        exact x_iret hC hr hk hP hD hS dX7_line_55 (show XQ mx Z (f_line ((v, now), (nl, op, wk, on, iz), R, (pq, pu, pf, pg), L, (B, t)) (nI j1) (nI j2) x3 x4) _ _ from by
            rw [show f_line ((v, now), (nl, op, wk, on, iz), R, (pq, pu, pf, pg), L, (B, t)) (nI j1) (nI j2) x3 x4 = (-1, ((v, now), (nl, op, wk, on, iz), R, (pq, pu, pf, pg), L, (B, t))) from (by simp only [f_line, hq_x1, hq_x2, hq_x3, Bool.and_true, Bool.true_and, Bool.and_false, Bool.false_and, Bool.and_self, if_true, Bool.false_eq_true, if_false, reduceIte])]
            exact ⟨rfl, ⟨hCV, hRV, hPV, hWV, hBV⟩, c0, c1, c2, c3, c4, c5, c6, c7, c8, c9, c10, c11, 0, bg, sl, fb, md, tp, tl, tr, wy, gs, gw, sv, gb, mk, wr, hM7, hRL, hBQ, rfl⟩)
      · obtain ⟨j3, j3a, j3b, rfl⟩ := inQ_of hq_x3 (by decide)
        refine lv_iload_n hx hb dX7_line_29 rfl (lv_at hl 3 rfl) ?_
        refine lv_i2l (v := (nI j3).toInt64) hx hb dX7_line_30 rfl ?_
        refine lv_lconst (v := lN 0) hx hb dX7_line_31 (by decide) ?_
        refine lv_ldc2 (v := lN 24) hx hb hown qq_771 dX7_line_32 ?_
        refine x_Si (y := yX7_in) (As := [.long ((nI j3).toInt64), .long (lN 0), .long (lN 24)]) (wc := []) (wr := [(mx, .inr (7, [.int (nI 0), .ref c0, .int (nI nl), .ref c1, .ref c2, .ref c3, .ref c4, .int (nI now), .ref c5, .ref c6, .ref c7, .int (nI pq), .int (nI pu), .int (nI pf), .int (nI pg), .int (nI bg), .int (nI L.length), .ref c8, .int (nI sl), .ref c9, .int (nI fb), .int (nI (bmany (B, t))), .ref c10, .int (nI t), .int (nI md), .ref c11, .int (nI tp), .int (nI tl), .int (nI tr)])), (c0, xI Z 4 v), (c1, xI Z 24 op), (c2, xI Z 24 wk), (c3, xI Z 24 on), (c4, xI Z 24 iz), (c5, xJ Z 6 wr), (c6, xI Z 6 wy), (c7, xI Z 6 gs), (c8, xI Z 700 gw), (c9, xI Z 700 sv), (c10, xI Z 80001 gb), (c11, xI Z 6 mk)]) hC hP hD hS (c_in_y l Z ((nI j3).toInt64) (lN 0) (lN 24) (in_y hq_x3 (by decide) (by decide))) (gS wq_769 wq_767 wq_768 wq_45) rfl ks_X7_in ⟨rfl, rfl⟩ rfl hl.1 rfl ⟨Nat.le_of_ble_eq_true rfl, Nat.le_of_ble_eq_true rfl⟩ ([] : List Nat) [0, 1, 2, 3, 4, 5, 6, 7, 8, 9, 10, 11, 12] rfl rfl (by decide) (by decide) (by decide) rfl dX7_line_35 (fun r35 w1 H locs hw hP hD hS => ?_)
        obtain ⟨rfl, rfl⟩ := hw
        have hP : va_P Z.1 vwCl [(mx, .inr (7, [.int (nI 0), .ref c0, .int (nI nl), .ref c1, .ref c2, .ref c3, .ref c4, .int (nI now), .ref c5, .ref c6, .ref c7, .int (nI pq), .int (nI pu), .int (nI pf), .int (nI pg), .int (nI bg), .int (nI L.length), .ref c8, .int (nI sl), .ref c9, .int (nI fb), .int (nI (bmany (B, t))), .ref c10, .int (nI t), .int (nI md), .ref c11, .int (nI tp), .int (nI tl), .int (nI tr)])), (c0, xI Z 4 v), (c1, xI Z 24 op), (c2, xI Z 24 wk), (c3, xI Z 24 on), (c4, xI Z 24 iz), (c5, xJ Z 6 wr), (c6, xI Z 6 wy), (c7, xI Z 6 gs), (c8, xI Z 700 gw), (c9, xI Z 700 sv), (c10, xI Z 80001 gb), (c11, xI Z 6 mk)] H := hP
        have hD : va_D A [(mx, .inr (7, [.int (nI 0), .ref c0, .int (nI nl), .ref c1, .ref c2, .ref c3, .ref c4, .int (nI now), .ref c5, .ref c6, .ref c7, .int (nI pq), .int (nI pu), .int (nI pf), .int (nI pg), .int (nI bg), .int (nI L.length), .ref c8, .int (nI sl), .ref c9, .int (nI fb), .int (nI (bmany (B, t))), .ref c10, .int (nI t), .int (nI md), .ref c11, .int (nI tp), .int (nI tl), .int (nI tr)])), (c0, xI Z 4 v), (c1, xI Z 24 op), (c2, xI Z 24 wk), (c3, xI Z 24 on), (c4, xI Z 24 iz), (c5, xJ Z 6 wr), (c6, xI Z 6 wy), (c7, xI Z 6 gs), (c8, xI Z 700 gw), (c9, xI Z 700 sv), (c10, xI Z 80001 gb), (c11, xI Z 6 mk)] := hD
        refine ln_if_eq (tgt := 54) hx hb dX7_line_38 (by decide) (by omega) (fun h38 => False.elim (by omega)) (fun h38 => ?_)
        cases hq_x4 : inQ x4 0 24
        · refine lv_iload hx hb dX7_line_41 (lv_at hl 4 rfl) ?_
          refine lv_i2l (v := (x4).toInt64) hx hb dX7_line_43 rfl ?_
          refine lv_lconst (v := lN 0) hx hb dX7_line_44 (by decide) ?_
          refine lv_ldc2 (v := lN 24) hx hb hown qq_771 dX7_line_45 ?_
          refine x_Si (y := yX7_in) (As := [.long ((x4).toInt64), .long (lN 0), .long (lN 24)]) (wc := []) (wr := [(mx, .inr (7, [.int (nI 0), .ref c0, .int (nI nl), .ref c1, .ref c2, .ref c3, .ref c4, .int (nI now), .ref c5, .ref c6, .ref c7, .int (nI pq), .int (nI pu), .int (nI pf), .int (nI pg), .int (nI bg), .int (nI L.length), .ref c8, .int (nI sl), .ref c9, .int (nI fb), .int (nI (bmany (B, t))), .ref c10, .int (nI t), .int (nI md), .ref c11, .int (nI tp), .int (nI tl), .int (nI tr)])), (c0, xI Z 4 v), (c1, xI Z 24 op), (c2, xI Z 24 wk), (c3, xI Z 24 on), (c4, xI Z 24 iz), (c5, xJ Z 6 wr), (c6, xI Z 6 wy), (c7, xI Z 6 gs), (c8, xI Z 700 gw), (c9, xI Z 700 sv), (c10, xI Z 80001 gb), (c11, xI Z 6 mk)]) hC hP hD hS (c_in_n l Z ((x4).toInt64) (lN 0) (lN 24) (in_n hq_x4 (by decide) (by decide))) (gS wq_769 wq_767 wq_768 wq_45) rfl ks_X7_in ⟨rfl, rfl⟩ rfl hl.1 rfl ⟨Nat.le_of_ble_eq_true rfl, Nat.le_of_ble_eq_true rfl⟩ ([] : List Nat) [0, 1, 2, 3, 4, 5, 6, 7, 8, 9, 10, 11, 12] rfl rfl (by decide) (by decide) (by decide) rfl dX7_line_48 (fun r48 w1 H locs hw hP hD hS => ?_)
          obtain ⟨rfl, rfl⟩ := hw
          have hP : va_P Z.1 vwCl [(mx, .inr (7, [.int (nI 0), .ref c0, .int (nI nl), .ref c1, .ref c2, .ref c3, .ref c4, .int (nI now), .ref c5, .ref c6, .ref c7, .int (nI pq), .int (nI pu), .int (nI pf), .int (nI pg), .int (nI bg), .int (nI L.length), .ref c8, .int (nI sl), .ref c9, .int (nI fb), .int (nI (bmany (B, t))), .ref c10, .int (nI t), .int (nI md), .ref c11, .int (nI tp), .int (nI tl), .int (nI tr)])), (c0, xI Z 4 v), (c1, xI Z 24 op), (c2, xI Z 24 wk), (c3, xI Z 24 on), (c4, xI Z 24 iz), (c5, xJ Z 6 wr), (c6, xI Z 6 wy), (c7, xI Z 6 gs), (c8, xI Z 700 gw), (c9, xI Z 700 sv), (c10, xI Z 80001 gb), (c11, xI Z 6 mk)] H := hP
          have hD : va_D A [(mx, .inr (7, [.int (nI 0), .ref c0, .int (nI nl), .ref c1, .ref c2, .ref c3, .ref c4, .int (nI now), .ref c5, .ref c6, .ref c7, .int (nI pq), .int (nI pu), .int (nI pf), .int (nI pg), .int (nI bg), .int (nI L.length), .ref c8, .int (nI sl), .ref c9, .int (nI fb), .int (nI (bmany (B, t))), .ref c10, .int (nI t), .int (nI md), .ref c11, .int (nI tp), .int (nI tl), .int (nI tr)])), (c0, xI Z 4 v), (c1, xI Z 24 op), (c2, xI Z 24 wk), (c3, xI Z 24 on), (c4, xI Z 24 iz), (c5, xJ Z 6 wr), (c6, xI Z 6 wy), (c7, xI Z 6 gs), (c8, xI Z 700 gw), (c9, xI Z 700 sv), (c10, xI Z 80001 gb), (c11, xI Z 6 mk)] := hD
          refine ln_if_ne (tgt := 56) hx hb dX7_line_51 (by decide) (by omega) (fun h51 => False.elim (by omega)) (fun h51 => ?_)
          refine lv_iconst (v := (-1)) hx hb dX7_line_54 (by decide) ?_
          exact x_iret hC hr hk hP hD hS dX7_line_55 (show XQ mx Z (f_line ((v, now), (nl, op, wk, on, iz), R, (pq, pu, pf, pg), L, (B, t)) (nI j1) (nI j2) (nI j3) x4) _ _ from by
              rw [show f_line ((v, now), (nl, op, wk, on, iz), R, (pq, pu, pf, pg), L, (B, t)) (nI j1) (nI j2) (nI j3) x4 = (-1, ((v, now), (nl, op, wk, on, iz), R, (pq, pu, pf, pg), L, (B, t))) from (by simp only [f_line, hq_x1, hq_x2, hq_x3, hq_x4, Bool.and_true, Bool.true_and, Bool.and_false, Bool.false_and, Bool.and_self, if_true, Bool.false_eq_true, if_false, reduceIte])]
              exact ⟨rfl, ⟨hCV, hRV, hPV, hWV, hBV⟩, c0, c1, c2, c3, c4, c5, c6, c7, c8, c9, c10, c11, 0, bg, sl, fb, md, tp, tl, tr, wy, gs, gw, sv, gb, mk, wr, hM7, hRL, hBQ, rfl⟩)
        · obtain ⟨j4, j4a, j4b, rfl⟩ := inQ_of hq_x4 (by decide)
          refine lv_iload hx hb dX7_line_41 (lv_at hl 4 rfl) ?_
          refine lv_i2l (v := (nI j4).toInt64) hx hb dX7_line_43 rfl ?_
          refine lv_lconst (v := lN 0) hx hb dX7_line_44 (by decide) ?_
          refine lv_ldc2 (v := lN 24) hx hb hown qq_771 dX7_line_45 ?_
          refine x_Si (y := yX7_in) (As := [.long ((nI j4).toInt64), .long (lN 0), .long (lN 24)]) (wc := []) (wr := [(mx, .inr (7, [.int (nI 0), .ref c0, .int (nI nl), .ref c1, .ref c2, .ref c3, .ref c4, .int (nI now), .ref c5, .ref c6, .ref c7, .int (nI pq), .int (nI pu), .int (nI pf), .int (nI pg), .int (nI bg), .int (nI L.length), .ref c8, .int (nI sl), .ref c9, .int (nI fb), .int (nI (bmany (B, t))), .ref c10, .int (nI t), .int (nI md), .ref c11, .int (nI tp), .int (nI tl), .int (nI tr)])), (c0, xI Z 4 v), (c1, xI Z 24 op), (c2, xI Z 24 wk), (c3, xI Z 24 on), (c4, xI Z 24 iz), (c5, xJ Z 6 wr), (c6, xI Z 6 wy), (c7, xI Z 6 gs), (c8, xI Z 700 gw), (c9, xI Z 700 sv), (c10, xI Z 80001 gb), (c11, xI Z 6 mk)]) hC hP hD hS (c_in_y l Z ((nI j4).toInt64) (lN 0) (lN 24) (in_y hq_x4 (by decide) (by decide))) (gS wq_769 wq_767 wq_768 wq_45) rfl ks_X7_in ⟨rfl, rfl⟩ rfl hl.1 rfl ⟨Nat.le_of_ble_eq_true rfl, Nat.le_of_ble_eq_true rfl⟩ ([] : List Nat) [0, 1, 2, 3, 4, 5, 6, 7, 8, 9, 10, 11, 12] rfl rfl (by decide) (by decide) (by decide) rfl dX7_line_48 (fun r48 w1 H locs hw hP hD hS => ?_)
          obtain ⟨rfl, rfl⟩ := hw
          have hP : va_P Z.1 vwCl [(mx, .inr (7, [.int (nI 0), .ref c0, .int (nI nl), .ref c1, .ref c2, .ref c3, .ref c4, .int (nI now), .ref c5, .ref c6, .ref c7, .int (nI pq), .int (nI pu), .int (nI pf), .int (nI pg), .int (nI bg), .int (nI L.length), .ref c8, .int (nI sl), .ref c9, .int (nI fb), .int (nI (bmany (B, t))), .ref c10, .int (nI t), .int (nI md), .ref c11, .int (nI tp), .int (nI tl), .int (nI tr)])), (c0, xI Z 4 v), (c1, xI Z 24 op), (c2, xI Z 24 wk), (c3, xI Z 24 on), (c4, xI Z 24 iz), (c5, xJ Z 6 wr), (c6, xI Z 6 wy), (c7, xI Z 6 gs), (c8, xI Z 700 gw), (c9, xI Z 700 sv), (c10, xI Z 80001 gb), (c11, xI Z 6 mk)] H := hP
          have hD : va_D A [(mx, .inr (7, [.int (nI 0), .ref c0, .int (nI nl), .ref c1, .ref c2, .ref c3, .ref c4, .int (nI now), .ref c5, .ref c6, .ref c7, .int (nI pq), .int (nI pu), .int (nI pf), .int (nI pg), .int (nI bg), .int (nI L.length), .ref c8, .int (nI sl), .ref c9, .int (nI fb), .int (nI (bmany (B, t))), .ref c10, .int (nI t), .int (nI md), .ref c11, .int (nI tp), .int (nI tl), .int (nI tr)])), (c0, xI Z 4 v), (c1, xI Z 24 op), (c2, xI Z 24 wk), (c3, xI Z 24 on), (c4, xI Z 24 iz), (c5, xJ Z 6 wr), (c6, xI Z 6 wy), (c7, xI Z 6 gs), (c8, xI Z 700 gw), (c9, xI Z 700 sv), (c10, xI Z 80001 gb), (c11, xI Z 6 mk)] := hD
          refine ln_if_ne (tgt := 56) hx hb dX7_line_51 (by decide) (by omega) (fun h51 => ?_) (fun h51 => False.elim (by omega))
          refine lv_aload_n hx hb dX7_line_56 rfl (lv_at hl 0 rfl) ?_
          refine va_get (D := Z.1) (ci := 7) (v := .int (nI nl)) (C := RX7) (T := TX7) (N := 29) hx hb hts iX7 hown hK hP 0 rfl rfl 2 (Nat.le_of_ble_eq_true rfl) qq_676 (fun _ h9 => h9) rfl dX7_line_57 ?_
          refine ln_bipush 24 hx hb dX7_line_60 (by decide) ?_
          refine ln_icmp_ne (tgt := 68) hx hb dX7_line_62 (by decide) (by omega) (by omega) (fun h62 => ?_) (fun h62 => ?_)
          · refine lv_aload_n hx hb dX7_line_68 rfl (lv_at hl 0 rfl) ?_
            refine va_get (D := Z.1) (ci := 7) (v := .ref c1) (C := RX7) (T := TX7) (N := 29) hx hb hts iX7 hown hK hP 0 rfl rfl 3 (Nat.le_of_ble_eq_true rfl) qq_677 (fun _ h9 => h9) rfl dX7_line_69 ?_
            refine lv_aload_n hx hb dX7_line_72 rfl (lv_at hl 0 rfl) ?_
            refine va_get (D := Z.1) (ci := 7) (v := .int (nI nl)) (C := RX7) (T := TX7) (N := 29) hx hb hts iX7 hown hK hP 0 rfl rfl 2 (Nat.le_of_ble_eq_true rfl) qq_676 (fun _ h9 => h9) rfl dX7_line_73 ?_
            refine lv_iload_n hx hb dX7_line_76 rfl (lv_at hl 1 rfl) ?_
            refine ln_iast hx hb hK hP hD hS 2 rfl (by omega) (by omega) dX7_line_77 (fun H locs hP hD hS => ?_)
            have hP : va_P Z.1 vwCl [(mx, .inr (7, [.int (nI 0), .ref c0, .int (nI nl), .ref c1, .ref c2, .ref c3, .ref c4, .int (nI now), .ref c5, .ref c6, .ref c7, .int (nI pq), .int (nI pu), .int (nI pf), .int (nI pg), .int (nI bg), .int (nI L.length), .ref c8, .int (nI sl), .ref c9, .int (nI fb), .int (nI (bmany (B, t))), .ref c10, .int (nI t), .int (nI md), .ref c11, .int (nI tp), .int (nI tl), .int (nI tr)])), (c0, xI Z 4 v), (c1, xI Z 24 (va_up op nl j1)), (c2, xI Z 24 wk), (c3, xI Z 24 on), (c4, xI Z 24 iz), (c5, xJ Z 6 wr), (c6, xI Z 6 wy), (c7, xI Z 6 gs), (c8, xI Z 700 gw), (c9, xI Z 700 sv), (c10, xI Z 80001 gb), (c11, xI Z 6 mk)] H := hP
            have hD : va_D A [(mx, .inr (7, [.int (nI 0), .ref c0, .int (nI nl), .ref c1, .ref c2, .ref c3, .ref c4, .int (nI now), .ref c5, .ref c6, .ref c7, .int (nI pq), .int (nI pu), .int (nI pf), .int (nI pg), .int (nI bg), .int (nI L.length), .ref c8, .int (nI sl), .ref c9, .int (nI fb), .int (nI (bmany (B, t))), .ref c10, .int (nI t), .int (nI md), .ref c11, .int (nI tp), .int (nI tl), .int (nI tr)])), (c0, xI Z 4 v), (c1, xI Z 24 (va_up op nl j1)), (c2, xI Z 24 wk), (c3, xI Z 24 on), (c4, xI Z 24 iz), (c5, xJ Z 6 wr), (c6, xI Z 6 wy), (c7, xI Z 6 gs), (c8, xI Z 700 gw), (c9, xI Z 700 sv), (c10, xI Z 80001 gb), (c11, xI Z 6 mk)] := hD
            refine lv_aload_n hx hb dX7_line_78 rfl (lv_at hl 0 rfl) ?_
            refine va_get (D := Z.1) (ci := 7) (v := .ref c2) (C := RX7) (T := TX7) (N := 29) hx hb hts iX7 hown hK hP 0 rfl rfl 4 (Nat.le_of_ble_eq_true rfl) qq_678 (fun _ h9 => h9) rfl dX7_line_79 ?_
            refine lv_aload_n hx hb dX7_line_82 rfl (lv_at hl 0 rfl) ?_
            refine va_get (D := Z.1) (ci := 7) (v := .int (nI nl)) (C := RX7) (T := TX7) (N := 29) hx hb hts iX7 hown hK hP 0 rfl rfl 2 (Nat.le_of_ble_eq_true rfl) qq_676 (fun _ h9 => h9) rfl dX7_line_83 ?_
            refine lv_iload_n hx hb dX7_line_86 rfl (lv_at hl 2 rfl) ?_
            refine ln_iast hx hb hK hP hD hS 3 rfl (by omega) (by omega) dX7_line_87 (fun H locs hP hD hS => ?_)
            have hP : va_P Z.1 vwCl [(mx, .inr (7, [.int (nI 0), .ref c0, .int (nI nl), .ref c1, .ref c2, .ref c3, .ref c4, .int (nI now), .ref c5, .ref c6, .ref c7, .int (nI pq), .int (nI pu), .int (nI pf), .int (nI pg), .int (nI bg), .int (nI L.length), .ref c8, .int (nI sl), .ref c9, .int (nI fb), .int (nI (bmany (B, t))), .ref c10, .int (nI t), .int (nI md), .ref c11, .int (nI tp), .int (nI tl), .int (nI tr)])), (c0, xI Z 4 v), (c1, xI Z 24 (va_up op nl j1)), (c2, xI Z 24 (va_up wk nl j2)), (c3, xI Z 24 on), (c4, xI Z 24 iz), (c5, xJ Z 6 wr), (c6, xI Z 6 wy), (c7, xI Z 6 gs), (c8, xI Z 700 gw), (c9, xI Z 700 sv), (c10, xI Z 80001 gb), (c11, xI Z 6 mk)] H := hP
            have hD : va_D A [(mx, .inr (7, [.int (nI 0), .ref c0, .int (nI nl), .ref c1, .ref c2, .ref c3, .ref c4, .int (nI now), .ref c5, .ref c6, .ref c7, .int (nI pq), .int (nI pu), .int (nI pf), .int (nI pg), .int (nI bg), .int (nI L.length), .ref c8, .int (nI sl), .ref c9, .int (nI fb), .int (nI (bmany (B, t))), .ref c10, .int (nI t), .int (nI md), .ref c11, .int (nI tp), .int (nI tl), .int (nI tr)])), (c0, xI Z 4 v), (c1, xI Z 24 (va_up op nl j1)), (c2, xI Z 24 (va_up wk nl j2)), (c3, xI Z 24 on), (c4, xI Z 24 iz), (c5, xJ Z 6 wr), (c6, xI Z 6 wy), (c7, xI Z 6 gs), (c8, xI Z 700 gw), (c9, xI Z 700 sv), (c10, xI Z 80001 gb), (c11, xI Z 6 mk)] := hD
            refine lv_aload_n hx hb dX7_line_88 rfl (lv_at hl 0 rfl) ?_
            refine va_get (D := Z.1) (ci := 7) (v := .ref c3) (C := RX7) (T := TX7) (N := 29) hx hb hts iX7 hown hK hP 0 rfl rfl 5 (Nat.le_of_ble_eq_true rfl) qq_679 (fun _ h9 => h9) rfl dX7_line_89 ?_
            refine lv_aload_n hx hb dX7_line_92 rfl (lv_at hl 0 rfl) ?_
            refine va_get (D := Z.1) (ci := 7) (v := .int (nI nl)) (C := RX7) (T := TX7) (N := 29) hx hb hts iX7 hown hK hP 0 rfl rfl 2 (Nat.le_of_ble_eq_true rfl) qq_676 (fun _ h9 => h9) rfl dX7_line_93 ?_
            refine lv_iload_n hx hb dX7_line_96 rfl (lv_at hl 3 rfl) ?_
            refine ln_iast hx hb hK hP hD hS 4 rfl (by omega) (by omega) dX7_line_97 (fun H locs hP hD hS => ?_)
            have hP : va_P Z.1 vwCl [(mx, .inr (7, [.int (nI 0), .ref c0, .int (nI nl), .ref c1, .ref c2, .ref c3, .ref c4, .int (nI now), .ref c5, .ref c6, .ref c7, .int (nI pq), .int (nI pu), .int (nI pf), .int (nI pg), .int (nI bg), .int (nI L.length), .ref c8, .int (nI sl), .ref c9, .int (nI fb), .int (nI (bmany (B, t))), .ref c10, .int (nI t), .int (nI md), .ref c11, .int (nI tp), .int (nI tl), .int (nI tr)])), (c0, xI Z 4 v), (c1, xI Z 24 (va_up op nl j1)), (c2, xI Z 24 (va_up wk nl j2)), (c3, xI Z 24 (va_up on nl j3)), (c4, xI Z 24 iz), (c5, xJ Z 6 wr), (c6, xI Z 6 wy), (c7, xI Z 6 gs), (c8, xI Z 700 gw), (c9, xI Z 700 sv), (c10, xI Z 80001 gb), (c11, xI Z 6 mk)] H := hP
            have hD : va_D A [(mx, .inr (7, [.int (nI 0), .ref c0, .int (nI nl), .ref c1, .ref c2, .ref c3, .ref c4, .int (nI now), .ref c5, .ref c6, .ref c7, .int (nI pq), .int (nI pu), .int (nI pf), .int (nI pg), .int (nI bg), .int (nI L.length), .ref c8, .int (nI sl), .ref c9, .int (nI fb), .int (nI (bmany (B, t))), .ref c10, .int (nI t), .int (nI md), .ref c11, .int (nI tp), .int (nI tl), .int (nI tr)])), (c0, xI Z 4 v), (c1, xI Z 24 (va_up op nl j1)), (c2, xI Z 24 (va_up wk nl j2)), (c3, xI Z 24 (va_up on nl j3)), (c4, xI Z 24 iz), (c5, xJ Z 6 wr), (c6, xI Z 6 wy), (c7, xI Z 6 gs), (c8, xI Z 700 gw), (c9, xI Z 700 sv), (c10, xI Z 80001 gb), (c11, xI Z 6 mk)] := hD
            refine lv_aload_n hx hb dX7_line_98 rfl (lv_at hl 0 rfl) ?_
            refine va_get (D := Z.1) (ci := 7) (v := .ref c4) (C := RX7) (T := TX7) (N := 29) hx hb hts iX7 hown hK hP 0 rfl rfl 6 (Nat.le_of_ble_eq_true rfl) qq_680 (fun _ h9 => h9) rfl dX7_line_99 ?_
            refine lv_aload_n hx hb dX7_line_102 rfl (lv_at hl 0 rfl) ?_
            refine va_get (D := Z.1) (ci := 7) (v := .int (nI nl)) (C := RX7) (T := TX7) (N := 29) hx hb hts iX7 hown hK hP 0 rfl rfl 2 (Nat.le_of_ble_eq_true rfl) qq_676 (fun _ h9 => h9) rfl dX7_line_103 ?_
            refine lv_iload hx hb dX7_line_106 (lv_at hl 4 rfl) ?_
            refine ln_iast hx hb hK hP hD hS 5 rfl (by omega) (by omega) dX7_line_108 (fun H locs hP hD hS => ?_)
            have hP : va_P Z.1 vwCl [(mx, .inr (7, [.int (nI 0), .ref c0, .int (nI nl), .ref c1, .ref c2, .ref c3, .ref c4, .int (nI now), .ref c5, .ref c6, .ref c7, .int (nI pq), .int (nI pu), .int (nI pf), .int (nI pg), .int (nI bg), .int (nI L.length), .ref c8, .int (nI sl), .ref c9, .int (nI fb), .int (nI (bmany (B, t))), .ref c10, .int (nI t), .int (nI md), .ref c11, .int (nI tp), .int (nI tl), .int (nI tr)])), (c0, xI Z 4 v), (c1, xI Z 24 (va_up op nl j1)), (c2, xI Z 24 (va_up wk nl j2)), (c3, xI Z 24 (va_up on nl j3)), (c4, xI Z 24 (va_up iz nl j4)), (c5, xJ Z 6 wr), (c6, xI Z 6 wy), (c7, xI Z 6 gs), (c8, xI Z 700 gw), (c9, xI Z 700 sv), (c10, xI Z 80001 gb), (c11, xI Z 6 mk)] H := hP
            have hD : va_D A [(mx, .inr (7, [.int (nI 0), .ref c0, .int (nI nl), .ref c1, .ref c2, .ref c3, .ref c4, .int (nI now), .ref c5, .ref c6, .ref c7, .int (nI pq), .int (nI pu), .int (nI pf), .int (nI pg), .int (nI bg), .int (nI L.length), .ref c8, .int (nI sl), .ref c9, .int (nI fb), .int (nI (bmany (B, t))), .ref c10, .int (nI t), .int (nI md), .ref c11, .int (nI tp), .int (nI tl), .int (nI tr)])), (c0, xI Z 4 v), (c1, xI Z 24 (va_up op nl j1)), (c2, xI Z 24 (va_up wk nl j2)), (c3, xI Z 24 (va_up on nl j3)), (c4, xI Z 24 (va_up iz nl j4)), (c5, xJ Z 6 wr), (c6, xI Z 6 wy), (c7, xI Z 6 gs), (c8, xI Z 700 gw), (c9, xI Z 700 sv), (c10, xI Z 80001 gb), (c11, xI Z 6 mk)] := hD
            refine lv_aload_n hx hb dX7_line_109 rfl (lv_at hl 0 rfl) ?_
            refine lv_dup hx hb dX7_line_110 rfl ?_
            refine va_get (D := Z.1) (ci := 7) (v := .int (nI nl)) (C := RX7) (T := TX7) (N := 29) hx hb hts iX7 hown hK hP 0 rfl rfl 2 (Nat.le_of_ble_eq_true rfl) qq_676 (fun _ h9 => h9) rfl dX7_line_111 ?_
            refine ln_const 1 hx hb dX7_line_114 (by decide) ?_
            refine ln_iadd (nl + 1) hx hb dX7_line_115 (by first | rfl | omega) ?_
            refine va_put (D := Z.1) (ci := 7) (v := .int (nI (nl + 1))) (ty := tyX7 2) (C := RX7) (T := TX7) (N := 29) hx hb hts iX7 tyX7 tyX7_ok nmX7 hown hK hP hD hS 0 rfl rfl 2 (Nat.le_of_ble_eq_true rfl) qq_676 (fun _ h9 => h9) rfl (tyX7_ok 2 (Nat.le_of_ble_eq_true rfl)) rfl rfl (Nat.le_of_ble_eq_true rfl) dX7_line_116 (fun H locs hP hD hS => ?_)
            have hP : va_P Z.1 vwCl [(mx, .inr (7, [.int (nI 0), .ref c0, .int (nI (nl + 1)), .ref c1, .ref c2, .ref c3, .ref c4, .int (nI now), .ref c5, .ref c6, .ref c7, .int (nI pq), .int (nI pu), .int (nI pf), .int (nI pg), .int (nI bg), .int (nI L.length), .ref c8, .int (nI sl), .ref c9, .int (nI fb), .int (nI (bmany (B, t))), .ref c10, .int (nI t), .int (nI md), .ref c11, .int (nI tp), .int (nI tl), .int (nI tr)])), (c0, xI Z 4 v), (c1, xI Z 24 (va_up op nl j1)), (c2, xI Z 24 (va_up wk nl j2)), (c3, xI Z 24 (va_up on nl j3)), (c4, xI Z 24 (va_up iz nl j4)), (c5, xJ Z 6 wr), (c6, xI Z 6 wy), (c7, xI Z 6 gs), (c8, xI Z 700 gw), (c9, xI Z 700 sv), (c10, xI Z 80001 gb), (c11, xI Z 6 mk)] H := hP
            have hD : va_D A [(mx, .inr (7, [.int (nI 0), .ref c0, .int (nI (nl + 1)), .ref c1, .ref c2, .ref c3, .ref c4, .int (nI now), .ref c5, .ref c6, .ref c7, .int (nI pq), .int (nI pu), .int (nI pf), .int (nI pg), .int (nI bg), .int (nI L.length), .ref c8, .int (nI sl), .ref c9, .int (nI fb), .int (nI (bmany (B, t))), .ref c10, .int (nI t), .int (nI md), .ref c11, .int (nI tp), .int (nI tl), .int (nI tr)])), (c0, xI Z 4 v), (c1, xI Z 24 (va_up op nl j1)), (c2, xI Z 24 (va_up wk nl j2)), (c3, xI Z 24 (va_up on nl j3)), (c4, xI Z 24 (va_up iz nl j4)), (c5, xJ Z 6 wr), (c6, xI Z 6 wy), (c7, xI Z 6 gs), (c8, xI Z 700 gw), (c9, xI Z 700 sv), (c10, xI Z 80001 gb), (c11, xI Z 6 mk)] := hD
            refine lv_aload_n hx hb dX7_line_119 rfl (lv_at hl 0 rfl) ?_
            refine va_get (D := Z.1) (ci := 7) (v := .int (nI (nl + 1))) (C := RX7) (T := TX7) (N := 29) hx hb hts iX7 hown hK hP 0 rfl rfl 2 (Nat.le_of_ble_eq_true rfl) qq_676 (fun _ h9 => h9) rfl dX7_line_120 ?_
            have hn24 : nl < 24 := by omega
            exact x_iret hC hr hk hP hD hS dX7_line_123 (show XQ mx Z (f_line ((v, now), (nl, op, wk, on, iz), R, (pq, pu, pf, pg), L, (B, t)) (nI j1) (nI j2) (nI j3) (nI j4)) _ _ from by
                rw [show f_line ((v, now), (nl, op, wk, on, iz), R, (pq, pu, pf, pg), L, (B, t)) (nI j1) (nI j2) (nI j3) (nI j4) = (nI (nl + 1), ((v, now), (nl + 1, va_up op nl j1, va_up wk nl j2, va_up on nl j3, va_up iz nl j4), R, (pq, pu, pf, pg), L, (B, t))) from (by simp only [f_line, hq_x1, hq_x2, hq_x3, hq_x4, Bool.and_true, Bool.true_and, Bool.and_false, Bool.false_and, Bool.and_self, if_true, Bool.false_eq_true, if_false, reduceIte, nI_clamp (show j1 < 2147483648 by omega), nI_clamp (show j2 < 2147483648 by omega), nI_clamp (show j3 < 2147483648 by omega), nI_clamp (show j4 < 2147483648 by omega), if_pos hn24])]
                exact ⟨rfl, ⟨(hCV.more hn24 j1b j2b j3b j4b), hRV, hPV, hWV, hBV⟩, c0, c1, c2, c3, c4, c5, c6, c7, c8, c9, c10, c11, 0, bg, sl, fb, md, tp, tl, tr, wy, gs, gw, sv, gb, mk, wr, hM7, hRL, hBQ, rfl⟩)
          · refine lv_bipush (v := (-3)) hx hb dX7_line_65 (by decide) ?_
            have hn24 : ¬ nl < 24 := by omega
            exact x_iret hC hr hk hP hD hS dX7_line_67 (show XQ mx Z (f_line ((v, now), (nl, op, wk, on, iz), R, (pq, pu, pf, pg), L, (B, t)) (nI j1) (nI j2) (nI j3) (nI j4)) _ _ from by
                rw [show f_line ((v, now), (nl, op, wk, on, iz), R, (pq, pu, pf, pg), L, (B, t)) (nI j1) (nI j2) (nI j3) (nI j4) = (-3, ((v, now), (nl, op, wk, on, iz), R, (pq, pu, pf, pg), L, (B, t))) from (by simp only [f_line, hq_x1, hq_x2, hq_x3, hq_x4, Bool.and_true, Bool.true_and, Bool.and_false, Bool.false_and, Bool.and_self, if_true, Bool.false_eq_true, if_false, reduceIte, if_neg hn24])]
                exact ⟨rfl, ⟨hCV, hRV, hPV, hWV, hBV⟩, c0, c1, c2, c3, c4, c5, c6, c7, c8, c9, c10, c11, 0, bg, sl, fb, md, tp, tl, tr, wy, gs, gw, sv, gb, mk, wr, hM7, hRL, hBQ, rfl⟩)

set_option maxHeartbeats 4000000 in
set_option maxRecDepth 100000 in
theorem c_X7_wipe (l : Launch) (Z : xZ) (mx : Nat) (S : xS) (hS0 : SV S) (wx : va_W) (hw0 : MW mx S wx Z) : xMi l Z yX7_wipe vX7_wipe ({ frames := 0, cells := 0, slots := 0, locals := 0 } : Room) [.ref mx] wx (XQ mx Z (f_wipe S)) := by
  obtain ⟨⟨v, now⟩, ⟨nl, op, wk, on, iz⟩, R, ⟨pq, pu, pf, pg⟩, L, B, t⟩ := S
  obtain ⟨hCV, hRV, hPV, hWV, hBV⟩ := hS0
  obtain ⟨c0, c1, c2, c3, c4, c5, c6, c7, c8, c9, c10, c11, th, bg, sl, fb, md, tp, tl, tr, wy, gs, gw, sv, gb, mk, wr, hM7, hRL, hBQ, rfl⟩ := hw0
  have hRL1 := hRL.1
  obtain ⟨hc1, hc2, hc3, hc4⟩ := id hCV
  obtain ⟨hp1, hp2, hp3, hp4⟩ := id hPV
  obtain ⟨hw1, hw2⟩ := id hWV
  obtain ⟨hb1, hb2, hb3, hb4, hb5⟩ := id hBV
  have hbm : bmany (B, t) = 121 * B.length - t % 121 := rfl
  dsimp only at hRV hc1 hc2 hc3 hc4 hp1 hp2 hp3 hp4 hw1 hw2 hb1 hb2 hb3 hb4 hb5
  refine x_i (by decide) rfl (Nat.le_of_ble_eq_true rfl) ?_
  intro p e s m args below meth c ls A hC hr hk hl hP hD hS
  have hx := hC.1.1
  have hb := hC.1.2.1
  have hml := hC.1.2.2.1
  have hown : s.vm.findClass RX7 = some m.cls := hC.1.2.2.2.1
  have hts := hC.1.2.2.2.2
  have hK := hC.2.1
  have qq_674 := hts (Cond.fieldLink RX7 47 "TagTowerModel" "thrown" "I") (List.mem_cons_of_mem _ wq_674)
  have iX7 : ∀ w ∈ wsX70, w ∈ vX7_wipe := fun w h => List.mem_cons_of_mem _ (wi_X7 w h)
  have qq_676 := hts (Cond.fieldLink RX7 61 "TagTowerModel" "lines" "I") (List.mem_cons_of_mem _ wq_676)
  have qq_681 := hts (Cond.fieldLink RX7 64 "TagTowerModel" "line" "I") (List.mem_cons_of_mem _ wq_681)
  have hl : lv_has ls 2 [(0, .ref mx)] := hl
  have hP : va_P Z.1 vwCl [(mx, .inr (7, [.int (nI th), .ref c0, .int (nI nl), .ref c1, .ref c2, .ref c3, .ref c4, .int (nI now), .ref c5, .ref c6, .ref c7, .int (nI pq), .int (nI pu), .int (nI pf), .int (nI pg), .int (nI bg), .int (nI L.length), .ref c8, .int (nI sl), .ref c9, .int (nI fb), .int (nI (bmany (B, t))), .ref c10, .int (nI t), .int (nI md), .ref c11, .int (nI tp), .int (nI tl), .int (nI tr)])), (c0, xI Z 4 v), (c1, xI Z 24 op), (c2, xI Z 24 wk), (c3, xI Z 24 on), (c4, xI Z 24 iz), (c5, xJ Z 6 wr), (c6, xI Z 6 wy), (c7, xI Z 6 gs), (c8, xI Z 700 gw), (c9, xI Z 700 sv), (c10, xI Z 80001 gb), (c11, xI Z 6 mk)] s.heap := hP
  have hD : va_D A [(mx, .inr (7, [.int (nI th), .ref c0, .int (nI nl), .ref c1, .ref c2, .ref c3, .ref c4, .int (nI now), .ref c5, .ref c6, .ref c7, .int (nI pq), .int (nI pu), .int (nI pf), .int (nI pg), .int (nI bg), .int (nI L.length), .ref c8, .int (nI sl), .ref c9, .int (nI fb), .int (nI (bmany (B, t))), .ref c10, .int (nI t), .int (nI md), .ref c11, .int (nI tp), .int (nI tl), .int (nI tr)])), (c0, xI Z 4 v), (c1, xI Z 24 op), (c2, xI Z 24 wk), (c3, xI Z 24 on), (c4, xI Z 24 iz), (c5, xJ Z 6 wr), (c6, xI Z 6 wy), (c7, xI Z 6 gs), (c8, xI Z 700 gw), (c9, xI Z 700 sv), (c10, xI Z 80001 gb), (c11, xI Z 6 mk)] := hD
  refine lv_aload_n hx hb dX7_wipe_0 rfl (lv_at hl 0 rfl) ?_
  refine ln_const 0 hx hb dX7_wipe_1 (by decide) ?_
  refine va_put (D := Z.1) (ci := 7) (v := .int (nI 0)) (ty := tyX7 0) (C := RX7) (T := TX7) (N := 29) hx hb hts iX7 tyX7 tyX7_ok nmX7 hown hK hP hD hS 0 rfl rfl 0 (Nat.le_of_ble_eq_true rfl) qq_674 (fun _ h9 => h9) rfl (tyX7_ok 0 (Nat.le_of_ble_eq_true rfl)) rfl rfl (Nat.le_of_ble_eq_true rfl) dX7_wipe_2 (fun H locs hP hD hS => ?_)
  have hP : va_P Z.1 vwCl [(mx, .inr (7, [.int (nI 0), .ref c0, .int (nI nl), .ref c1, .ref c2, .ref c3, .ref c4, .int (nI now), .ref c5, .ref c6, .ref c7, .int (nI pq), .int (nI pu), .int (nI pf), .int (nI pg), .int (nI bg), .int (nI L.length), .ref c8, .int (nI sl), .ref c9, .int (nI fb), .int (nI (bmany (B, t))), .ref c10, .int (nI t), .int (nI md), .ref c11, .int (nI tp), .int (nI tl), .int (nI tr)])), (c0, xI Z 4 v), (c1, xI Z 24 op), (c2, xI Z 24 wk), (c3, xI Z 24 on), (c4, xI Z 24 iz), (c5, xJ Z 6 wr), (c6, xI Z 6 wy), (c7, xI Z 6 gs), (c8, xI Z 700 gw), (c9, xI Z 700 sv), (c10, xI Z 80001 gb), (c11, xI Z 6 mk)] H := hP
  have hD : va_D A [(mx, .inr (7, [.int (nI 0), .ref c0, .int (nI nl), .ref c1, .ref c2, .ref c3, .ref c4, .int (nI now), .ref c5, .ref c6, .ref c7, .int (nI pq), .int (nI pu), .int (nI pf), .int (nI pg), .int (nI bg), .int (nI L.length), .ref c8, .int (nI sl), .ref c9, .int (nI fb), .int (nI (bmany (B, t))), .ref c10, .int (nI t), .int (nI md), .ref c11, .int (nI tp), .int (nI tl), .int (nI tr)])), (c0, xI Z 4 v), (c1, xI Z 24 op), (c2, xI Z 24 wk), (c3, xI Z 24 on), (c4, xI Z 24 iz), (c5, xJ Z 6 wr), (c6, xI Z 6 wy), (c7, xI Z 6 gs), (c8, xI Z 700 gw), (c9, xI Z 700 sv), (c10, xI Z 80001 gb), (c11, xI Z 6 mk)] := hD
  refine lv_aload_n hx hb dX7_wipe_5 rfl (lv_at hl 0 rfl) ?_
  refine va_get (D := Z.1) (ci := 7) (v := .int (nI nl)) (C := RX7) (T := TX7) (N := 29) hx hb hts iX7 hown hK hP 0 rfl rfl 2 (Nat.le_of_ble_eq_true rfl) qq_676 (fun _ h9 => h9) rfl dX7_wipe_6 ?_
  refine lv_istore_n (lv' := [(1, .int (nI nl)), (0, .ref mx)]) hx hb dX7_wipe_9 rfl hl (by decide) rfl (fun ls hl => ?_)
  refine lv_aload_n hx hb dX7_wipe_10 rfl (lv_at hl 1 rfl) ?_
  refine ln_const 0 hx hb dX7_wipe_11 (by decide) ?_
  refine va_put (D := Z.1) (ci := 7) (v := .int (nI 0)) (ty := tyX7 2) (C := RX7) (T := TX7) (N := 29) hx hb hts iX7 tyX7 tyX7_ok nmX7 hown hK hP hD hS 0 rfl rfl 2 (Nat.le_of_ble_eq_true rfl) qq_676 (fun _ h9 => h9) rfl (tyX7_ok 2 (Nat.le_of_ble_eq_true rfl)) rfl rfl (Nat.le_of_ble_eq_true rfl) dX7_wipe_12 (fun H locs hP hD hS => ?_)
  have hP : va_P Z.1 vwCl [(mx, .inr (7, [.int (nI 0), .ref c0, .int (nI 0), .ref c1, .ref c2, .ref c3, .ref c4, .int (nI now), .ref c5, .ref c6, .ref c7, .int (nI pq), .int (nI pu), .int (nI pf), .int (nI pg), .int (nI bg), .int (nI L.length), .ref c8, .int (nI sl), .ref c9, .int (nI fb), .int (nI (bmany (B, t))), .ref c10, .int (nI t), .int (nI md), .ref c11, .int (nI tp), .int (nI tl), .int (nI tr)])), (c0, xI Z 4 v), (c1, xI Z 24 op), (c2, xI Z 24 wk), (c3, xI Z 24 on), (c4, xI Z 24 iz), (c5, xJ Z 6 wr), (c6, xI Z 6 wy), (c7, xI Z 6 gs), (c8, xI Z 700 gw), (c9, xI Z 700 sv), (c10, xI Z 80001 gb), (c11, xI Z 6 mk)] H := hP
  have hD : va_D A [(mx, .inr (7, [.int (nI 0), .ref c0, .int (nI 0), .ref c1, .ref c2, .ref c3, .ref c4, .int (nI now), .ref c5, .ref c6, .ref c7, .int (nI pq), .int (nI pu), .int (nI pf), .int (nI pg), .int (nI bg), .int (nI L.length), .ref c8, .int (nI sl), .ref c9, .int (nI fb), .int (nI (bmany (B, t))), .ref c10, .int (nI t), .int (nI md), .ref c11, .int (nI tp), .int (nI tl), .int (nI tr)])), (c0, xI Z 4 v), (c1, xI Z 24 op), (c2, xI Z 24 wk), (c3, xI Z 24 on), (c4, xI Z 24 iz), (c5, xJ Z 6 wr), (c6, xI Z 6 wy), (c7, xI Z 6 gs), (c8, xI Z 700 gw), (c9, xI Z 700 sv), (c10, xI Z 80001 gb), (c11, xI Z 6 mk)] := hD
  refine lv_aload_n hx hb dX7_wipe_15 rfl (lv_at hl 1 rfl) ?_
  refine ln_const 0 hx hb dX7_wipe_16 (by decide) ?_
  refine va_put (D := Z.1) (ci := 7) (v := .int (nI 0)) (ty := tyX7 7) (C := RX7) (T := TX7) (N := 29) hx hb hts iX7 tyX7 tyX7_ok nmX7 hown hK hP hD hS 0 rfl rfl 7 (Nat.le_of_ble_eq_true rfl) qq_681 (fun _ h9 => h9) rfl (tyX7_ok 7 (Nat.le_of_ble_eq_true rfl)) rfl rfl (Nat.le_of_ble_eq_true rfl) dX7_wipe_17 (fun H locs hP hD hS => ?_)
  have hP : va_P Z.1 vwCl [(mx, .inr (7, [.int (nI 0), .ref c0, .int (nI 0), .ref c1, .ref c2, .ref c3, .ref c4, .int (nI 0), .ref c5, .ref c6, .ref c7, .int (nI pq), .int (nI pu), .int (nI pf), .int (nI pg), .int (nI bg), .int (nI L.length), .ref c8, .int (nI sl), .ref c9, .int (nI fb), .int (nI (bmany (B, t))), .ref c10, .int (nI t), .int (nI md), .ref c11, .int (nI tp), .int (nI tl), .int (nI tr)])), (c0, xI Z 4 v), (c1, xI Z 24 op), (c2, xI Z 24 wk), (c3, xI Z 24 on), (c4, xI Z 24 iz), (c5, xJ Z 6 wr), (c6, xI Z 6 wy), (c7, xI Z 6 gs), (c8, xI Z 700 gw), (c9, xI Z 700 sv), (c10, xI Z 80001 gb), (c11, xI Z 6 mk)] H := hP
  have hD : va_D A [(mx, .inr (7, [.int (nI 0), .ref c0, .int (nI 0), .ref c1, .ref c2, .ref c3, .ref c4, .int (nI 0), .ref c5, .ref c6, .ref c7, .int (nI pq), .int (nI pu), .int (nI pf), .int (nI pg), .int (nI bg), .int (nI L.length), .ref c8, .int (nI sl), .ref c9, .int (nI fb), .int (nI (bmany (B, t))), .ref c10, .int (nI t), .int (nI md), .ref c11, .int (nI tp), .int (nI tl), .int (nI tr)])), (c0, xI Z 4 v), (c1, xI Z 24 op), (c2, xI Z 24 wk), (c3, xI Z 24 on), (c4, xI Z 24 iz), (c5, xJ Z 6 wr), (c6, xI Z 6 wy), (c7, xI Z 6 gs), (c8, xI Z 700 gw), (c9, xI Z 700 sv), (c10, xI Z 80001 gb), (c11, xI Z 6 mk)] := hD
  refine lv_iload_n hx hb dX7_wipe_20 rfl (lv_at hl 0 rfl) ?_
  exact x_iret hC hr hk hP hD hS dX7_wipe_21 (show XQ mx Z (f_wipe ((v, now), (nl, op, wk, on, iz), R, (pq, pu, pf, pg), L, (B, t))) _ _ from by
      rw [show f_wipe ((v, now), (nl, op, wk, on, iz), R, (pq, pu, pf, pg), L, (B, t)) = (nI nl, ((v, 0), (0, op, wk, on, iz), R, (pq, pu, pf, pg), L, (B, t))) from rfl]
      exact ⟨rfl, ⟨hCV.wipe, hRV, hPV, hWV, hBV⟩, c0, c1, c2, c3, c4, c5, c6, c7, c8, c9, c10, c11, 0, bg, sl, fb, md, tp, tl, tr, wy, gs, gw, sv, gb, mk, wr, hM7, hRL, hBQ, rfl⟩)

set_option maxHeartbeats 4000000 in
set_option maxRecDepth 100000 in
theorem c_X7_set (l : Launch) (Z : xZ) (mx : Nat) (S : xS) (hS0 : SV S) (wx : va_W) (hw0 : MW mx S wx Z) (x1 x2 : Int32) : xMi l Z yX7_set vX7_set ({ frames := 1, cells := 0, slots := 0, locals := 25 } : Room) [.ref mx, .int x1, .int x2] wx (XQ mx Z (f_set S x1 x2)) := by
  obtain ⟨⟨v, now⟩, ⟨nl, op, wk, on, iz⟩, R, ⟨pq, pu, pf, pg⟩, L, B, t⟩ := S
  obtain ⟨hCV, hRV, hPV, hWV, hBV⟩ := hS0
  obtain ⟨c0, c1, c2, c3, c4, c5, c6, c7, c8, c9, c10, c11, th, bg, sl, fb, md, tp, tl, tr, wy, gs, gw, sv, gb, mk, wr, hM7, hRL, hBQ, rfl⟩ := hw0
  have hRL1 := hRL.1
  obtain ⟨hc1, hc2, hc3, hc4⟩ := id hCV
  obtain ⟨hp1, hp2, hp3, hp4⟩ := id hPV
  obtain ⟨hw1, hw2⟩ := id hWV
  obtain ⟨hb1, hb2, hb3, hb4, hb5⟩ := id hBV
  have hbm : bmany (B, t) = 121 * B.length - t % 121 := rfl
  dsimp only at hRV hc1 hc2 hc3 hc4 hp1 hp2 hp3 hp4 hw1 hw2 hb1 hb2 hb3 hb4 hb5
  refine x_i (by decide) rfl (Nat.le_of_ble_eq_true rfl) ?_
  intro p e s m args below meth c ls A hC hr hk hl hP hD hS
  have hx := hC.1.1
  have hb := hC.1.2.1
  have hml := hC.1.2.2.1
  have hown : s.vm.findClass RX7 = some m.cls := hC.1.2.2.2.1
  have hts := hC.1.2.2.2.2
  have hK := hC.2.1
  have qq_674 := hts (Cond.fieldLink RX7 47 "TagTowerModel" "thrown" "I") (List.mem_cons_of_mem _ wq_674)
  have iX7 : ∀ w ∈ wsX70, w ∈ vX7_set := fun w h => List.mem_cons_of_mem _ (wi_X7 w h)
  have qq_770 := hts (Cond.constantLong RX7 57 (3)) (List.mem_cons_of_mem _ wq_770)
  have qq_780 := hts (Cond.constantLong RX7 67 (1000)) (List.mem_cons_of_mem _ wq_780)
  have qq_675 := hts (Cond.fieldLink RX7 7 "TagTowerModel" "counter" "[I") (List.mem_cons_of_mem _ wq_675)
  have hl : lv_has ls 4 [(0, .ref mx), (1, .int x1), (2, .int x2)] := hl
  have hP : va_P Z.1 vwCl [(mx, .inr (7, [.int (nI th), .ref c0, .int (nI nl), .ref c1, .ref c2, .ref c3, .ref c4, .int (nI now), .ref c5, .ref c6, .ref c7, .int (nI pq), .int (nI pu), .int (nI pf), .int (nI pg), .int (nI bg), .int (nI L.length), .ref c8, .int (nI sl), .ref c9, .int (nI fb), .int (nI (bmany (B, t))), .ref c10, .int (nI t), .int (nI md), .ref c11, .int (nI tp), .int (nI tl), .int (nI tr)])), (c0, xI Z 4 v), (c1, xI Z 24 op), (c2, xI Z 24 wk), (c3, xI Z 24 on), (c4, xI Z 24 iz), (c5, xJ Z 6 wr), (c6, xI Z 6 wy), (c7, xI Z 6 gs), (c8, xI Z 700 gw), (c9, xI Z 700 sv), (c10, xI Z 80001 gb), (c11, xI Z 6 mk)] s.heap := hP
  have hD : va_D A [(mx, .inr (7, [.int (nI th), .ref c0, .int (nI nl), .ref c1, .ref c2, .ref c3, .ref c4, .int (nI now), .ref c5, .ref c6, .ref c7, .int (nI pq), .int (nI pu), .int (nI pf), .int (nI pg), .int (nI bg), .int (nI L.length), .ref c8, .int (nI sl), .ref c9, .int (nI fb), .int (nI (bmany (B, t))), .ref c10, .int (nI t), .int (nI md), .ref c11, .int (nI tp), .int (nI tl), .int (nI tr)])), (c0, xI Z 4 v), (c1, xI Z 24 op), (c2, xI Z 24 wk), (c3, xI Z 24 on), (c4, xI Z 24 iz), (c5, xJ Z 6 wr), (c6, xI Z 6 wy), (c7, xI Z 6 gs), (c8, xI Z 700 gw), (c9, xI Z 700 sv), (c10, xI Z 80001 gb), (c11, xI Z 6 mk)] := hD
  refine lv_aload_n hx hb dX7_set_0 rfl (lv_at hl 0 rfl) ?_
  refine ln_const 0 hx hb dX7_set_1 (by decide) ?_
  refine va_put (D := Z.1) (ci := 7) (v := .int (nI 0)) (ty := tyX7 0) (C := RX7) (T := TX7) (N := 29) hx hb hts iX7 tyX7 tyX7_ok nmX7 hown hK hP hD hS 0 rfl rfl 0 (Nat.le_of_ble_eq_true rfl) qq_674 (fun _ h9 => h9) rfl (tyX7_ok 0 (Nat.le_of_ble_eq_true rfl)) rfl rfl (Nat.le_of_ble_eq_true rfl) dX7_set_2 (fun H locs hP hD hS => ?_)
  have hP : va_P Z.1 vwCl [(mx, .inr (7, [.int (nI 0), .ref c0, .int (nI nl), .ref c1, .ref c2, .ref c3, .ref c4, .int (nI now), .ref c5, .ref c6, .ref c7, .int (nI pq), .int (nI pu), .int (nI pf), .int (nI pg), .int (nI bg), .int (nI L.length), .ref c8, .int (nI sl), .ref c9, .int (nI fb), .int (nI (bmany (B, t))), .ref c10, .int (nI t), .int (nI md), .ref c11, .int (nI tp), .int (nI tl), .int (nI tr)])), (c0, xI Z 4 v), (c1, xI Z 24 op), (c2, xI Z 24 wk), (c3, xI Z 24 on), (c4, xI Z 24 iz), (c5, xJ Z 6 wr), (c6, xI Z 6 wy), (c7, xI Z 6 gs), (c8, xI Z 700 gw), (c9, xI Z 700 sv), (c10, xI Z 80001 gb), (c11, xI Z 6 mk)] H := hP
  have hD : va_D A [(mx, .inr (7, [.int (nI 0), .ref c0, .int (nI nl), .ref c1, .ref c2, .ref c3, .ref c4, .int (nI now), .ref c5, .ref c6, .ref c7, .int (nI pq), .int (nI pu), .int (nI pf), .int (nI pg), .int (nI bg), .int (nI L.length), .ref c8, .int (nI sl), .ref c9, .int (nI fb), .int (nI (bmany (B, t))), .ref c10, .int (nI t), .int (nI md), .ref c11, .int (nI tp), .int (nI tl), .int (nI tr)])), (c0, xI Z 4 v), (c1, xI Z 24 op), (c2, xI Z 24 wk), (c3, xI Z 24 on), (c4, xI Z 24 iz), (c5, xJ Z 6 wr), (c6, xI Z 6 wy), (c7, xI Z 6 gs), (c8, xI Z 700 gw), (c9, xI Z 700 sv), (c10, xI Z 80001 gb), (c11, xI Z 6 mk)] := hD
  cases hq_x1 : inQ x1 0 3
  · refine lv_iload_n hx hb dX7_set_5 rfl (lv_at hl 1 rfl) ?_
    refine lv_i2l (v := (x1).toInt64) hx hb dX7_set_6 rfl ?_
    refine lv_lconst (v := lN 0) hx hb dX7_set_7 (by decide) ?_
    refine lv_ldc2 (v := lN 3) hx hb hown qq_770 dX7_set_8 ?_
    refine x_Si (y := yX7_in) (As := [.long ((x1).toInt64), .long (lN 0), .long (lN 3)]) (wc := []) (wr := [(mx, .inr (7, [.int (nI 0), .ref c0, .int (nI nl), .ref c1, .ref c2, .ref c3, .ref c4, .int (nI now), .ref c5, .ref c6, .ref c7, .int (nI pq), .int (nI pu), .int (nI pf), .int (nI pg), .int (nI bg), .int (nI L.length), .ref c8, .int (nI sl), .ref c9, .int (nI fb), .int (nI (bmany (B, t))), .ref c10, .int (nI t), .int (nI md), .ref c11, .int (nI tp), .int (nI tl), .int (nI tr)])), (c0, xI Z 4 v), (c1, xI Z 24 op), (c2, xI Z 24 wk), (c3, xI Z 24 on), (c4, xI Z 24 iz), (c5, xJ Z 6 wr), (c6, xI Z 6 wy), (c7, xI Z 6 gs), (c8, xI Z 700 gw), (c9, xI Z 700 sv), (c10, xI Z 80001 gb), (c11, xI Z 6 mk)]) hC hP hD hS (c_in_n l Z ((x1).toInt64) (lN 0) (lN 3) (in_n hq_x1 (by decide) (by decide))) (gS wq_769 wq_767 wq_768 wq_45) rfl ks_X7_in ⟨rfl, rfl⟩ rfl hl.1 rfl ⟨Nat.le_of_ble_eq_true rfl, Nat.le_of_ble_eq_true rfl⟩ ([] : List Nat) [0, 1, 2, 3, 4, 5, 6, 7, 8, 9, 10, 11, 12] rfl rfl (by decide) (by decide) (by decide) rfl dX7_set_11 (fun r11 w1 H locs hw hP hD hS => ?_)
    obtain ⟨rfl, rfl⟩ := hw
    have hP : va_P Z.1 vwCl [(mx, .inr (7, [.int (nI 0), .ref c0, .int (nI nl), .ref c1, .ref c2, .ref c3, .ref c4, .int (nI now), .ref c5, .ref c6, .ref c7, .int (nI pq), .int (nI pu), .int (nI pf), .int (nI pg), .int (nI bg), .int (nI L.length), .ref c8, .int (nI sl), .ref c9, .int (nI fb), .int (nI (bmany (B, t))), .ref c10, .int (nI t), .int (nI md), .ref c11, .int (nI tp), .int (nI tl), .int (nI tr)])), (c0, xI Z 4 v), (c1, xI Z 24 op), (c2, xI Z 24 wk), (c3, xI Z 24 on), (c4, xI Z 24 iz), (c5, xJ Z 6 wr), (c6, xI Z 6 wy), (c7, xI Z 6 gs), (c8, xI Z 700 gw), (c9, xI Z 700 sv), (c10, xI Z 80001 gb), (c11, xI Z 6 mk)] H := hP
    have hD : va_D A [(mx, .inr (7, [.int (nI 0), .ref c0, .int (nI nl), .ref c1, .ref c2, .ref c3, .ref c4, .int (nI now), .ref c5, .ref c6, .ref c7, .int (nI pq), .int (nI pu), .int (nI pf), .int (nI pg), .int (nI bg), .int (nI L.length), .ref c8, .int (nI sl), .ref c9, .int (nI fb), .int (nI (bmany (B, t))), .ref c10, .int (nI t), .int (nI md), .ref c11, .int (nI tp), .int (nI tl), .int (nI tr)])), (c0, xI Z 4 v), (c1, xI Z 24 op), (c2, xI Z 24 wk), (c3, xI Z 24 on), (c4, xI Z 24 iz), (c5, xJ Z 6 wr), (c6, xI Z 6 wy), (c7, xI Z 6 gs), (c8, xI Z 700 gw), (c9, xI Z 700 sv), (c10, xI Z 80001 gb), (c11, xI Z 6 mk)] := hD
    refine ln_if_eq (tgt := 29) hx hb dX7_set_14 (by decide) (by omega) (fun h14 => ?_) (fun h14 => False.elim (by omega))
    refine lv_iconst (v := (-1)) hx hb dX7_set_29 (by decide) ?_
    exact x_iret hC hr hk hP hD hS dX7_set_30 (show XQ mx Z (f_set ((v, now), (nl, op, wk, on, iz), R, (pq, pu, pf, pg), L, (B, t)) x1 x2) _ _ from by
        rw [show f_set ((v, now), (nl, op, wk, on, iz), R, (pq, pu, pf, pg), L, (B, t)) x1 x2 = (-1, ((v, now), (nl, op, wk, on, iz), R, (pq, pu, pf, pg), L, (B, t))) from (by simp only [f_set, hq_x1, Bool.and_true, Bool.true_and, Bool.and_false, Bool.false_and, Bool.and_self, if_true, Bool.false_eq_true, if_false, reduceIte])]
        exact ⟨rfl, ⟨hCV, hRV, hPV, hWV, hBV⟩, c0, c1, c2, c3, c4, c5, c6, c7, c8, c9, c10, c11, 0, bg, sl, fb, md, tp, tl, tr, wy, gs, gw, sv, gb, mk, wr, hM7, hRL, hBQ, rfl⟩)
  · obtain ⟨j1, j1a, j1b, rfl⟩ := inQ_of hq_x1 (by decide)
    refine lv_iload_n hx hb dX7_set_5 rfl (lv_at hl 1 rfl) ?_
    refine lv_i2l (v := (nI j1).toInt64) hx hb dX7_set_6 rfl ?_
    refine lv_lconst (v := lN 0) hx hb dX7_set_7 (by decide) ?_
    refine lv_ldc2 (v := lN 3) hx hb hown qq_770 dX7_set_8 ?_
    refine x_Si (y := yX7_in) (As := [.long ((nI j1).toInt64), .long (lN 0), .long (lN 3)]) (wc := []) (wr := [(mx, .inr (7, [.int (nI 0), .ref c0, .int (nI nl), .ref c1, .ref c2, .ref c3, .ref c4, .int (nI now), .ref c5, .ref c6, .ref c7, .int (nI pq), .int (nI pu), .int (nI pf), .int (nI pg), .int (nI bg), .int (nI L.length), .ref c8, .int (nI sl), .ref c9, .int (nI fb), .int (nI (bmany (B, t))), .ref c10, .int (nI t), .int (nI md), .ref c11, .int (nI tp), .int (nI tl), .int (nI tr)])), (c0, xI Z 4 v), (c1, xI Z 24 op), (c2, xI Z 24 wk), (c3, xI Z 24 on), (c4, xI Z 24 iz), (c5, xJ Z 6 wr), (c6, xI Z 6 wy), (c7, xI Z 6 gs), (c8, xI Z 700 gw), (c9, xI Z 700 sv), (c10, xI Z 80001 gb), (c11, xI Z 6 mk)]) hC hP hD hS (c_in_y l Z ((nI j1).toInt64) (lN 0) (lN 3) (in_y hq_x1 (by decide) (by decide))) (gS wq_769 wq_767 wq_768 wq_45) rfl ks_X7_in ⟨rfl, rfl⟩ rfl hl.1 rfl ⟨Nat.le_of_ble_eq_true rfl, Nat.le_of_ble_eq_true rfl⟩ ([] : List Nat) [0, 1, 2, 3, 4, 5, 6, 7, 8, 9, 10, 11, 12] rfl rfl (by decide) (by decide) (by decide) rfl dX7_set_11 (fun r11 w1 H locs hw hP hD hS => ?_)
    obtain ⟨rfl, rfl⟩ := hw
    have hP : va_P Z.1 vwCl [(mx, .inr (7, [.int (nI 0), .ref c0, .int (nI nl), .ref c1, .ref c2, .ref c3, .ref c4, .int (nI now), .ref c5, .ref c6, .ref c7, .int (nI pq), .int (nI pu), .int (nI pf), .int (nI pg), .int (nI bg), .int (nI L.length), .ref c8, .int (nI sl), .ref c9, .int (nI fb), .int (nI (bmany (B, t))), .ref c10, .int (nI t), .int (nI md), .ref c11, .int (nI tp), .int (nI tl), .int (nI tr)])), (c0, xI Z 4 v), (c1, xI Z 24 op), (c2, xI Z 24 wk), (c3, xI Z 24 on), (c4, xI Z 24 iz), (c5, xJ Z 6 wr), (c6, xI Z 6 wy), (c7, xI Z 6 gs), (c8, xI Z 700 gw), (c9, xI Z 700 sv), (c10, xI Z 80001 gb), (c11, xI Z 6 mk)] H := hP
    have hD : va_D A [(mx, .inr (7, [.int (nI 0), .ref c0, .int (nI nl), .ref c1, .ref c2, .ref c3, .ref c4, .int (nI now), .ref c5, .ref c6, .ref c7, .int (nI pq), .int (nI pu), .int (nI pf), .int (nI pg), .int (nI bg), .int (nI L.length), .ref c8, .int (nI sl), .ref c9, .int (nI fb), .int (nI (bmany (B, t))), .ref c10, .int (nI t), .int (nI md), .ref c11, .int (nI tp), .int (nI tl), .int (nI tr)])), (c0, xI Z 4 v), (c1, xI Z 24 op), (c2, xI Z 24 wk), (c3, xI Z 24 on), (c4, xI Z 24 iz), (c5, xJ Z 6 wr), (c6, xI Z 6 wy), (c7, xI Z 6 gs), (c8, xI Z 700 gw), (c9, xI Z 700 sv), (c10, xI Z 80001 gb), (c11, xI Z 6 mk)] := hD
    refine ln_if_eq (tgt := 29) hx hb dX7_set_14 (by decide) (by omega) (fun h14 => False.elim (by omega)) (fun h14 => ?_)
    cases hq_x2 : inQ x2 0 1000
    · refine lv_iload_n hx hb dX7_set_17 rfl (lv_at hl 2 rfl) ?_
      refine lv_i2l (v := (x2).toInt64) hx hb dX7_set_18 rfl ?_
      refine lv_lconst (v := lN 0) hx hb dX7_set_19 (by decide) ?_
      refine lv_ldc2 (v := lN 1000) hx hb hown qq_780 dX7_set_20 ?_
      refine x_Si (y := yX7_in) (As := [.long ((x2).toInt64), .long (lN 0), .long (lN 1000)]) (wc := []) (wr := [(mx, .inr (7, [.int (nI 0), .ref c0, .int (nI nl), .ref c1, .ref c2, .ref c3, .ref c4, .int (nI now), .ref c5, .ref c6, .ref c7, .int (nI pq), .int (nI pu), .int (nI pf), .int (nI pg), .int (nI bg), .int (nI L.length), .ref c8, .int (nI sl), .ref c9, .int (nI fb), .int (nI (bmany (B, t))), .ref c10, .int (nI t), .int (nI md), .ref c11, .int (nI tp), .int (nI tl), .int (nI tr)])), (c0, xI Z 4 v), (c1, xI Z 24 op), (c2, xI Z 24 wk), (c3, xI Z 24 on), (c4, xI Z 24 iz), (c5, xJ Z 6 wr), (c6, xI Z 6 wy), (c7, xI Z 6 gs), (c8, xI Z 700 gw), (c9, xI Z 700 sv), (c10, xI Z 80001 gb), (c11, xI Z 6 mk)]) hC hP hD hS (c_in_n l Z ((x2).toInt64) (lN 0) (lN 1000) (in_n hq_x2 (by decide) (by decide))) (gS wq_769 wq_767 wq_768 wq_45) rfl ks_X7_in ⟨rfl, rfl⟩ rfl hl.1 rfl ⟨Nat.le_of_ble_eq_true rfl, Nat.le_of_ble_eq_true rfl⟩ ([] : List Nat) [0, 1, 2, 3, 4, 5, 6, 7, 8, 9, 10, 11, 12] rfl rfl (by decide) (by decide) (by decide) rfl dX7_set_23 (fun r23 w1 H locs hw hP hD hS => ?_)
      obtain ⟨rfl, rfl⟩ := hw
      have hP : va_P Z.1 vwCl [(mx, .inr (7, [.int (nI 0), .ref c0, .int (nI nl), .ref c1, .ref c2, .ref c3, .ref c4, .int (nI now), .ref c5, .ref c6, .ref c7, .int (nI pq), .int (nI pu), .int (nI pf), .int (nI pg), .int (nI bg), .int (nI L.length), .ref c8, .int (nI sl), .ref c9, .int (nI fb), .int (nI (bmany (B, t))), .ref c10, .int (nI t), .int (nI md), .ref c11, .int (nI tp), .int (nI tl), .int (nI tr)])), (c0, xI Z 4 v), (c1, xI Z 24 op), (c2, xI Z 24 wk), (c3, xI Z 24 on), (c4, xI Z 24 iz), (c5, xJ Z 6 wr), (c6, xI Z 6 wy), (c7, xI Z 6 gs), (c8, xI Z 700 gw), (c9, xI Z 700 sv), (c10, xI Z 80001 gb), (c11, xI Z 6 mk)] H := hP
      have hD : va_D A [(mx, .inr (7, [.int (nI 0), .ref c0, .int (nI nl), .ref c1, .ref c2, .ref c3, .ref c4, .int (nI now), .ref c5, .ref c6, .ref c7, .int (nI pq), .int (nI pu), .int (nI pf), .int (nI pg), .int (nI bg), .int (nI L.length), .ref c8, .int (nI sl), .ref c9, .int (nI fb), .int (nI (bmany (B, t))), .ref c10, .int (nI t), .int (nI md), .ref c11, .int (nI tp), .int (nI tl), .int (nI tr)])), (c0, xI Z 4 v), (c1, xI Z 24 op), (c2, xI Z 24 wk), (c3, xI Z 24 on), (c4, xI Z 24 iz), (c5, xJ Z 6 wr), (c6, xI Z 6 wy), (c7, xI Z 6 gs), (c8, xI Z 700 gw), (c9, xI Z 700 sv), (c10, xI Z 80001 gb), (c11, xI Z 6 mk)] := hD
      refine ln_if_ne (tgt := 31) hx hb dX7_set_26 (by decide) (by omega) (fun h26 => False.elim (by omega)) (fun h26 => ?_)
      refine lv_iconst (v := (-1)) hx hb dX7_set_29 (by decide) ?_
      exact x_iret hC hr hk hP hD hS dX7_set_30 (show XQ mx Z (f_set ((v, now), (nl, op, wk, on, iz), R, (pq, pu, pf, pg), L, (B, t)) (nI j1) x2) _ _ from by
          rw [show f_set ((v, now), (nl, op, wk, on, iz), R, (pq, pu, pf, pg), L, (B, t)) (nI j1) x2 = (-1, ((v, now), (nl, op, wk, on, iz), R, (pq, pu, pf, pg), L, (B, t))) from (by simp only [f_set, hq_x1, hq_x2, Bool.and_true, Bool.true_and, Bool.and_false, Bool.false_and, Bool.and_self, if_true, Bool.false_eq_true, if_false, reduceIte])]
          exact ⟨rfl, ⟨hCV, hRV, hPV, hWV, hBV⟩, c0, c1, c2, c3, c4, c5, c6, c7, c8, c9, c10, c11, 0, bg, sl, fb, md, tp, tl, tr, wy, gs, gw, sv, gb, mk, wr, hM7, hRL, hBQ, rfl⟩)
    · obtain ⟨j2, j2a, j2b, rfl⟩ := inQ_of hq_x2 (by decide)
      refine lv_iload_n hx hb dX7_set_17 rfl (lv_at hl 2 rfl) ?_
      refine lv_i2l (v := (nI j2).toInt64) hx hb dX7_set_18 rfl ?_
      refine lv_lconst (v := lN 0) hx hb dX7_set_19 (by decide) ?_
      refine lv_ldc2 (v := lN 1000) hx hb hown qq_780 dX7_set_20 ?_
      refine x_Si (y := yX7_in) (As := [.long ((nI j2).toInt64), .long (lN 0), .long (lN 1000)]) (wc := []) (wr := [(mx, .inr (7, [.int (nI 0), .ref c0, .int (nI nl), .ref c1, .ref c2, .ref c3, .ref c4, .int (nI now), .ref c5, .ref c6, .ref c7, .int (nI pq), .int (nI pu), .int (nI pf), .int (nI pg), .int (nI bg), .int (nI L.length), .ref c8, .int (nI sl), .ref c9, .int (nI fb), .int (nI (bmany (B, t))), .ref c10, .int (nI t), .int (nI md), .ref c11, .int (nI tp), .int (nI tl), .int (nI tr)])), (c0, xI Z 4 v), (c1, xI Z 24 op), (c2, xI Z 24 wk), (c3, xI Z 24 on), (c4, xI Z 24 iz), (c5, xJ Z 6 wr), (c6, xI Z 6 wy), (c7, xI Z 6 gs), (c8, xI Z 700 gw), (c9, xI Z 700 sv), (c10, xI Z 80001 gb), (c11, xI Z 6 mk)]) hC hP hD hS (c_in_y l Z ((nI j2).toInt64) (lN 0) (lN 1000) (in_y hq_x2 (by decide) (by decide))) (gS wq_769 wq_767 wq_768 wq_45) rfl ks_X7_in ⟨rfl, rfl⟩ rfl hl.1 rfl ⟨Nat.le_of_ble_eq_true rfl, Nat.le_of_ble_eq_true rfl⟩ ([] : List Nat) [0, 1, 2, 3, 4, 5, 6, 7, 8, 9, 10, 11, 12] rfl rfl (by decide) (by decide) (by decide) rfl dX7_set_23 (fun r23 w1 H locs hw hP hD hS => ?_)
      obtain ⟨rfl, rfl⟩ := hw
      have hP : va_P Z.1 vwCl [(mx, .inr (7, [.int (nI 0), .ref c0, .int (nI nl), .ref c1, .ref c2, .ref c3, .ref c4, .int (nI now), .ref c5, .ref c6, .ref c7, .int (nI pq), .int (nI pu), .int (nI pf), .int (nI pg), .int (nI bg), .int (nI L.length), .ref c8, .int (nI sl), .ref c9, .int (nI fb), .int (nI (bmany (B, t))), .ref c10, .int (nI t), .int (nI md), .ref c11, .int (nI tp), .int (nI tl), .int (nI tr)])), (c0, xI Z 4 v), (c1, xI Z 24 op), (c2, xI Z 24 wk), (c3, xI Z 24 on), (c4, xI Z 24 iz), (c5, xJ Z 6 wr), (c6, xI Z 6 wy), (c7, xI Z 6 gs), (c8, xI Z 700 gw), (c9, xI Z 700 sv), (c10, xI Z 80001 gb), (c11, xI Z 6 mk)] H := hP
      have hD : va_D A [(mx, .inr (7, [.int (nI 0), .ref c0, .int (nI nl), .ref c1, .ref c2, .ref c3, .ref c4, .int (nI now), .ref c5, .ref c6, .ref c7, .int (nI pq), .int (nI pu), .int (nI pf), .int (nI pg), .int (nI bg), .int (nI L.length), .ref c8, .int (nI sl), .ref c9, .int (nI fb), .int (nI (bmany (B, t))), .ref c10, .int (nI t), .int (nI md), .ref c11, .int (nI tp), .int (nI tl), .int (nI tr)])), (c0, xI Z 4 v), (c1, xI Z 24 op), (c2, xI Z 24 wk), (c3, xI Z 24 on), (c4, xI Z 24 iz), (c5, xJ Z 6 wr), (c6, xI Z 6 wy), (c7, xI Z 6 gs), (c8, xI Z 700 gw), (c9, xI Z 700 sv), (c10, xI Z 80001 gb), (c11, xI Z 6 mk)] := hD
      refine ln_if_ne (tgt := 31) hx hb dX7_set_26 (by decide) (by omega) (fun h26 => ?_) (fun h26 => False.elim (by omega))
      refine lv_aload_n hx hb dX7_set_31 rfl (lv_at hl 0 rfl) ?_
      refine va_get (D := Z.1) (ci := 7) (v := .ref c0) (C := RX7) (T := TX7) (N := 29) hx hb hts iX7 hown hK hP 0 rfl rfl 1 (Nat.le_of_ble_eq_true rfl) qq_675 (fun _ h9 => h9) rfl dX7_set_32 ?_
      refine lv_iload_n hx hb dX7_set_35 rfl (lv_at hl 1 rfl) ?_
      refine ln_iald hx hb hK hP 1 rfl (by omega) (by omega) dX7_set_36 ?_
      refine lv_istore_n (lv' := [(3, .int (nI (v j1))), (0, .ref mx), (1, .int (nI j1)), (2, .int (nI j2))]) hx hb dX7_set_37 rfl hl (by decide) rfl (fun ls hl => ?_)
      refine lv_aload_n hx hb dX7_set_38 rfl (lv_at hl 1 rfl) ?_
      refine va_get (D := Z.1) (ci := 7) (v := .ref c0) (C := RX7) (T := TX7) (N := 29) hx hb hts iX7 hown hK hP 0 rfl rfl 1 (Nat.le_of_ble_eq_true rfl) qq_675 (fun _ h9 => h9) rfl dX7_set_39 ?_
      refine lv_iload_n hx hb dX7_set_42 rfl (lv_at hl 2 rfl) ?_
      refine lv_iload_n hx hb dX7_set_43 rfl (lv_at hl 3 rfl) ?_
      refine ln_iast hx hb hK hP hD hS 1 rfl (by omega) (by omega) dX7_set_44 (fun H locs hP hD hS => ?_)
      have hP : va_P Z.1 vwCl [(mx, .inr (7, [.int (nI 0), .ref c0, .int (nI nl), .ref c1, .ref c2, .ref c3, .ref c4, .int (nI now), .ref c5, .ref c6, .ref c7, .int (nI pq), .int (nI pu), .int (nI pf), .int (nI pg), .int (nI bg), .int (nI L.length), .ref c8, .int (nI sl), .ref c9, .int (nI fb), .int (nI (bmany (B, t))), .ref c10, .int (nI t), .int (nI md), .ref c11, .int (nI tp), .int (nI tl), .int (nI tr)])), (c0, xI Z 4 (va_up v j1 j2)), (c1, xI Z 24 op), (c2, xI Z 24 wk), (c3, xI Z 24 on), (c4, xI Z 24 iz), (c5, xJ Z 6 wr), (c6, xI Z 6 wy), (c7, xI Z 6 gs), (c8, xI Z 700 gw), (c9, xI Z 700 sv), (c10, xI Z 80001 gb), (c11, xI Z 6 mk)] H := hP
      have hD : va_D A [(mx, .inr (7, [.int (nI 0), .ref c0, .int (nI nl), .ref c1, .ref c2, .ref c3, .ref c4, .int (nI now), .ref c5, .ref c6, .ref c7, .int (nI pq), .int (nI pu), .int (nI pf), .int (nI pg), .int (nI bg), .int (nI L.length), .ref c8, .int (nI sl), .ref c9, .int (nI fb), .int (nI (bmany (B, t))), .ref c10, .int (nI t), .int (nI md), .ref c11, .int (nI tp), .int (nI tl), .int (nI tr)])), (c0, xI Z 4 (va_up v j1 j2)), (c1, xI Z 24 op), (c2, xI Z 24 wk), (c3, xI Z 24 on), (c4, xI Z 24 iz), (c5, xJ Z 6 wr), (c6, xI Z 6 wy), (c7, xI Z 6 gs), (c8, xI Z 700 gw), (c9, xI Z 700 sv), (c10, xI Z 80001 gb), (c11, xI Z 6 mk)] := hD
      refine lv_iload_n hx hb dX7_set_45 rfl (lv_at hl 0 rfl) ?_
      exact x_iret hC hr hk hP hD hS dX7_set_46 (show XQ mx Z (f_set ((v, now), (nl, op, wk, on, iz), R, (pq, pu, pf, pg), L, (B, t)) (nI j1) (nI j2)) _ _ from by
          rw [show f_set ((v, now), (nl, op, wk, on, iz), R, (pq, pu, pf, pg), L, (B, t)) (nI j1) (nI j2) = (nI (v j1), ((va_up v j1 j2, now), (nl, op, wk, on, iz), R, (pq, pu, pf, pg), L, (B, t))) from (by simp only [f_set, hq_x1, hq_x2, Bool.and_true, Bool.true_and, Bool.and_false, Bool.false_and, Bool.and_self, if_true, Bool.false_eq_true, if_false, reduceIte, nI_clamp (show j1 < 2147483648 by omega), nI_clamp (show j2 < 2147483648 by omega)])]
          exact ⟨rfl, ⟨(hCV.put j2b), hRV, hPV, hWV, hBV⟩, c0, c1, c2, c3, c4, c5, c6, c7, c8, c9, c10, c11, 0, bg, sl, fb, md, tp, tl, tr, wy, gs, gw, sv, gb, mk, wr, hM7, hRL, hBQ, rfl⟩)

set_option maxHeartbeats 4000000 in
set_option maxRecDepth 100000 in
theorem c_X7_counter (l : Launch) (Z : xZ) (mx : Nat) (S : xS) (hS0 : SV S) (wx : va_W) (hw0 : MW mx S wx Z) (x1 : Int32) : xMi l Z yX7_counter vX7_counter ({ frames := 1, cells := 0, slots := 0, locals := 25 } : Room) [.ref mx, .int x1] wx (XQ mx Z (f_counter S x1)) := by
  obtain ⟨⟨v, now⟩, ⟨nl, op, wk, on, iz⟩, R, ⟨pq, pu, pf, pg⟩, L, B, t⟩ := S
  obtain ⟨hCV, hRV, hPV, hWV, hBV⟩ := hS0
  obtain ⟨c0, c1, c2, c3, c4, c5, c6, c7, c8, c9, c10, c11, th, bg, sl, fb, md, tp, tl, tr, wy, gs, gw, sv, gb, mk, wr, hM7, hRL, hBQ, rfl⟩ := hw0
  have hRL1 := hRL.1
  obtain ⟨hc1, hc2, hc3, hc4⟩ := id hCV
  obtain ⟨hp1, hp2, hp3, hp4⟩ := id hPV
  obtain ⟨hw1, hw2⟩ := id hWV
  obtain ⟨hb1, hb2, hb3, hb4, hb5⟩ := id hBV
  have hbm : bmany (B, t) = 121 * B.length - t % 121 := rfl
  dsimp only at hRV hc1 hc2 hc3 hc4 hp1 hp2 hp3 hp4 hw1 hw2 hb1 hb2 hb3 hb4 hb5
  refine x_i (by decide) rfl (Nat.le_of_ble_eq_true rfl) ?_
  intro p e s m args below meth c ls A hC hr hk hl hP hD hS
  have hx := hC.1.1
  have hb := hC.1.2.1
  have hml := hC.1.2.2.1
  have hown : s.vm.findClass RX7 = some m.cls := hC.1.2.2.2.1
  have hts := hC.1.2.2.2.2
  have hK := hC.2.1
  have qq_674 := hts (Cond.fieldLink RX7 47 "TagTowerModel" "thrown" "I") (List.mem_cons_of_mem _ wq_674)
  have iX7 : ∀ w ∈ wsX70, w ∈ vX7_counter := fun w h => List.mem_cons_of_mem _ (wi_X7 w h)
  have qq_770 := hts (Cond.constantLong RX7 57 (3)) (List.mem_cons_of_mem _ wq_770)
  have qq_675 := hts (Cond.fieldLink RX7 7 "TagTowerModel" "counter" "[I") (List.mem_cons_of_mem _ wq_675)
  have hl : lv_has ls 2 [(0, .ref mx), (1, .int x1)] := hl
  have hP : va_P Z.1 vwCl [(mx, .inr (7, [.int (nI th), .ref c0, .int (nI nl), .ref c1, .ref c2, .ref c3, .ref c4, .int (nI now), .ref c5, .ref c6, .ref c7, .int (nI pq), .int (nI pu), .int (nI pf), .int (nI pg), .int (nI bg), .int (nI L.length), .ref c8, .int (nI sl), .ref c9, .int (nI fb), .int (nI (bmany (B, t))), .ref c10, .int (nI t), .int (nI md), .ref c11, .int (nI tp), .int (nI tl), .int (nI tr)])), (c0, xI Z 4 v), (c1, xI Z 24 op), (c2, xI Z 24 wk), (c3, xI Z 24 on), (c4, xI Z 24 iz), (c5, xJ Z 6 wr), (c6, xI Z 6 wy), (c7, xI Z 6 gs), (c8, xI Z 700 gw), (c9, xI Z 700 sv), (c10, xI Z 80001 gb), (c11, xI Z 6 mk)] s.heap := hP
  have hD : va_D A [(mx, .inr (7, [.int (nI th), .ref c0, .int (nI nl), .ref c1, .ref c2, .ref c3, .ref c4, .int (nI now), .ref c5, .ref c6, .ref c7, .int (nI pq), .int (nI pu), .int (nI pf), .int (nI pg), .int (nI bg), .int (nI L.length), .ref c8, .int (nI sl), .ref c9, .int (nI fb), .int (nI (bmany (B, t))), .ref c10, .int (nI t), .int (nI md), .ref c11, .int (nI tp), .int (nI tl), .int (nI tr)])), (c0, xI Z 4 v), (c1, xI Z 24 op), (c2, xI Z 24 wk), (c3, xI Z 24 on), (c4, xI Z 24 iz), (c5, xJ Z 6 wr), (c6, xI Z 6 wy), (c7, xI Z 6 gs), (c8, xI Z 700 gw), (c9, xI Z 700 sv), (c10, xI Z 80001 gb), (c11, xI Z 6 mk)] := hD
  refine lv_aload_n hx hb dX7_counter_0 rfl (lv_at hl 0 rfl) ?_
  refine ln_const 0 hx hb dX7_counter_1 (by decide) ?_
  refine va_put (D := Z.1) (ci := 7) (v := .int (nI 0)) (ty := tyX7 0) (C := RX7) (T := TX7) (N := 29) hx hb hts iX7 tyX7 tyX7_ok nmX7 hown hK hP hD hS 0 rfl rfl 0 (Nat.le_of_ble_eq_true rfl) qq_674 (fun _ h9 => h9) rfl (tyX7_ok 0 (Nat.le_of_ble_eq_true rfl)) rfl rfl (Nat.le_of_ble_eq_true rfl) dX7_counter_2 (fun H locs hP hD hS => ?_)
  have hP : va_P Z.1 vwCl [(mx, .inr (7, [.int (nI 0), .ref c0, .int (nI nl), .ref c1, .ref c2, .ref c3, .ref c4, .int (nI now), .ref c5, .ref c6, .ref c7, .int (nI pq), .int (nI pu), .int (nI pf), .int (nI pg), .int (nI bg), .int (nI L.length), .ref c8, .int (nI sl), .ref c9, .int (nI fb), .int (nI (bmany (B, t))), .ref c10, .int (nI t), .int (nI md), .ref c11, .int (nI tp), .int (nI tl), .int (nI tr)])), (c0, xI Z 4 v), (c1, xI Z 24 op), (c2, xI Z 24 wk), (c3, xI Z 24 on), (c4, xI Z 24 iz), (c5, xJ Z 6 wr), (c6, xI Z 6 wy), (c7, xI Z 6 gs), (c8, xI Z 700 gw), (c9, xI Z 700 sv), (c10, xI Z 80001 gb), (c11, xI Z 6 mk)] H := hP
  have hD : va_D A [(mx, .inr (7, [.int (nI 0), .ref c0, .int (nI nl), .ref c1, .ref c2, .ref c3, .ref c4, .int (nI now), .ref c5, .ref c6, .ref c7, .int (nI pq), .int (nI pu), .int (nI pf), .int (nI pg), .int (nI bg), .int (nI L.length), .ref c8, .int (nI sl), .ref c9, .int (nI fb), .int (nI (bmany (B, t))), .ref c10, .int (nI t), .int (nI md), .ref c11, .int (nI tp), .int (nI tl), .int (nI tr)])), (c0, xI Z 4 v), (c1, xI Z 24 op), (c2, xI Z 24 wk), (c3, xI Z 24 on), (c4, xI Z 24 iz), (c5, xJ Z 6 wr), (c6, xI Z 6 wy), (c7, xI Z 6 gs), (c8, xI Z 700 gw), (c9, xI Z 700 sv), (c10, xI Z 80001 gb), (c11, xI Z 6 mk)] := hD
  cases hq_x1 : inQ x1 0 3
  · refine lv_iload_n hx hb dX7_counter_5 rfl (lv_at hl 1 rfl) ?_
    refine lv_i2l (v := (x1).toInt64) hx hb dX7_counter_6 rfl ?_
    refine lv_lconst (v := lN 0) hx hb dX7_counter_7 (by decide) ?_
    refine lv_ldc2 (v := lN 3) hx hb hown qq_770 dX7_counter_8 ?_
    refine x_Si (y := yX7_in) (As := [.long ((x1).toInt64), .long (lN 0), .long (lN 3)]) (wc := []) (wr := [(mx, .inr (7, [.int (nI 0), .ref c0, .int (nI nl), .ref c1, .ref c2, .ref c3, .ref c4, .int (nI now), .ref c5, .ref c6, .ref c7, .int (nI pq), .int (nI pu), .int (nI pf), .int (nI pg), .int (nI bg), .int (nI L.length), .ref c8, .int (nI sl), .ref c9, .int (nI fb), .int (nI (bmany (B, t))), .ref c10, .int (nI t), .int (nI md), .ref c11, .int (nI tp), .int (nI tl), .int (nI tr)])), (c0, xI Z 4 v), (c1, xI Z 24 op), (c2, xI Z 24 wk), (c3, xI Z 24 on), (c4, xI Z 24 iz), (c5, xJ Z 6 wr), (c6, xI Z 6 wy), (c7, xI Z 6 gs), (c8, xI Z 700 gw), (c9, xI Z 700 sv), (c10, xI Z 80001 gb), (c11, xI Z 6 mk)]) hC hP hD hS (c_in_n l Z ((x1).toInt64) (lN 0) (lN 3) (in_n hq_x1 (by decide) (by decide))) (gS wq_769 wq_767 wq_768 wq_45) rfl ks_X7_in ⟨rfl, rfl⟩ rfl hl.1 rfl ⟨Nat.le_of_ble_eq_true rfl, Nat.le_of_ble_eq_true rfl⟩ ([] : List Nat) [0, 1, 2, 3, 4, 5, 6, 7, 8, 9, 10, 11, 12] rfl rfl (by decide) (by decide) (by decide) rfl dX7_counter_11 (fun r11 w1 H locs hw hP hD hS => ?_)
    obtain ⟨rfl, rfl⟩ := hw
    have hP : va_P Z.1 vwCl [(mx, .inr (7, [.int (nI 0), .ref c0, .int (nI nl), .ref c1, .ref c2, .ref c3, .ref c4, .int (nI now), .ref c5, .ref c6, .ref c7, .int (nI pq), .int (nI pu), .int (nI pf), .int (nI pg), .int (nI bg), .int (nI L.length), .ref c8, .int (nI sl), .ref c9, .int (nI fb), .int (nI (bmany (B, t))), .ref c10, .int (nI t), .int (nI md), .ref c11, .int (nI tp), .int (nI tl), .int (nI tr)])), (c0, xI Z 4 v), (c1, xI Z 24 op), (c2, xI Z 24 wk), (c3, xI Z 24 on), (c4, xI Z 24 iz), (c5, xJ Z 6 wr), (c6, xI Z 6 wy), (c7, xI Z 6 gs), (c8, xI Z 700 gw), (c9, xI Z 700 sv), (c10, xI Z 80001 gb), (c11, xI Z 6 mk)] H := hP
    have hD : va_D A [(mx, .inr (7, [.int (nI 0), .ref c0, .int (nI nl), .ref c1, .ref c2, .ref c3, .ref c4, .int (nI now), .ref c5, .ref c6, .ref c7, .int (nI pq), .int (nI pu), .int (nI pf), .int (nI pg), .int (nI bg), .int (nI L.length), .ref c8, .int (nI sl), .ref c9, .int (nI fb), .int (nI (bmany (B, t))), .ref c10, .int (nI t), .int (nI md), .ref c11, .int (nI tp), .int (nI tl), .int (nI tr)])), (c0, xI Z 4 v), (c1, xI Z 24 op), (c2, xI Z 24 wk), (c3, xI Z 24 on), (c4, xI Z 24 iz), (c5, xJ Z 6 wr), (c6, xI Z 6 wy), (c7, xI Z 6 gs), (c8, xI Z 700 gw), (c9, xI Z 700 sv), (c10, xI Z 80001 gb), (c11, xI Z 6 mk)] := hD
    refine ln_if_eq (tgt := 26) hx hb dX7_counter_14 (by decide) (by omega) (fun h14 => ?_) (fun h14 => False.elim (by omega))
    refine lv_iconst (v := (-1)) hx hb dX7_counter_26 (by decide) ?_
    exact x_iret hC hr hk hP hD hS dX7_counter_27 (show XQ mx Z (f_counter ((v, now), (nl, op, wk, on, iz), R, (pq, pu, pf, pg), L, (B, t)) x1) _ _ from by
        rw [show f_counter ((v, now), (nl, op, wk, on, iz), R, (pq, pu, pf, pg), L, (B, t)) x1 = (-1, ((v, now), (nl, op, wk, on, iz), R, (pq, pu, pf, pg), L, (B, t))) from (by simp only [f_counter, hq_x1, Bool.and_true, Bool.true_and, Bool.and_false, Bool.false_and, Bool.and_self, if_true, Bool.false_eq_true, if_false, reduceIte])]
        exact ⟨rfl, ⟨hCV, hRV, hPV, hWV, hBV⟩, c0, c1, c2, c3, c4, c5, c6, c7, c8, c9, c10, c11, 0, bg, sl, fb, md, tp, tl, tr, wy, gs, gw, sv, gb, mk, wr, hM7, hRL, hBQ, rfl⟩)
  · obtain ⟨j1, j1a, j1b, rfl⟩ := inQ_of hq_x1 (by decide)
    refine lv_iload_n hx hb dX7_counter_5 rfl (lv_at hl 1 rfl) ?_
    refine lv_i2l (v := (nI j1).toInt64) hx hb dX7_counter_6 rfl ?_
    refine lv_lconst (v := lN 0) hx hb dX7_counter_7 (by decide) ?_
    refine lv_ldc2 (v := lN 3) hx hb hown qq_770 dX7_counter_8 ?_
    refine x_Si (y := yX7_in) (As := [.long ((nI j1).toInt64), .long (lN 0), .long (lN 3)]) (wc := []) (wr := [(mx, .inr (7, [.int (nI 0), .ref c0, .int (nI nl), .ref c1, .ref c2, .ref c3, .ref c4, .int (nI now), .ref c5, .ref c6, .ref c7, .int (nI pq), .int (nI pu), .int (nI pf), .int (nI pg), .int (nI bg), .int (nI L.length), .ref c8, .int (nI sl), .ref c9, .int (nI fb), .int (nI (bmany (B, t))), .ref c10, .int (nI t), .int (nI md), .ref c11, .int (nI tp), .int (nI tl), .int (nI tr)])), (c0, xI Z 4 v), (c1, xI Z 24 op), (c2, xI Z 24 wk), (c3, xI Z 24 on), (c4, xI Z 24 iz), (c5, xJ Z 6 wr), (c6, xI Z 6 wy), (c7, xI Z 6 gs), (c8, xI Z 700 gw), (c9, xI Z 700 sv), (c10, xI Z 80001 gb), (c11, xI Z 6 mk)]) hC hP hD hS (c_in_y l Z ((nI j1).toInt64) (lN 0) (lN 3) (in_y hq_x1 (by decide) (by decide))) (gS wq_769 wq_767 wq_768 wq_45) rfl ks_X7_in ⟨rfl, rfl⟩ rfl hl.1 rfl ⟨Nat.le_of_ble_eq_true rfl, Nat.le_of_ble_eq_true rfl⟩ ([] : List Nat) [0, 1, 2, 3, 4, 5, 6, 7, 8, 9, 10, 11, 12] rfl rfl (by decide) (by decide) (by decide) rfl dX7_counter_11 (fun r11 w1 H locs hw hP hD hS => ?_)
    obtain ⟨rfl, rfl⟩ := hw
    have hP : va_P Z.1 vwCl [(mx, .inr (7, [.int (nI 0), .ref c0, .int (nI nl), .ref c1, .ref c2, .ref c3, .ref c4, .int (nI now), .ref c5, .ref c6, .ref c7, .int (nI pq), .int (nI pu), .int (nI pf), .int (nI pg), .int (nI bg), .int (nI L.length), .ref c8, .int (nI sl), .ref c9, .int (nI fb), .int (nI (bmany (B, t))), .ref c10, .int (nI t), .int (nI md), .ref c11, .int (nI tp), .int (nI tl), .int (nI tr)])), (c0, xI Z 4 v), (c1, xI Z 24 op), (c2, xI Z 24 wk), (c3, xI Z 24 on), (c4, xI Z 24 iz), (c5, xJ Z 6 wr), (c6, xI Z 6 wy), (c7, xI Z 6 gs), (c8, xI Z 700 gw), (c9, xI Z 700 sv), (c10, xI Z 80001 gb), (c11, xI Z 6 mk)] H := hP
    have hD : va_D A [(mx, .inr (7, [.int (nI 0), .ref c0, .int (nI nl), .ref c1, .ref c2, .ref c3, .ref c4, .int (nI now), .ref c5, .ref c6, .ref c7, .int (nI pq), .int (nI pu), .int (nI pf), .int (nI pg), .int (nI bg), .int (nI L.length), .ref c8, .int (nI sl), .ref c9, .int (nI fb), .int (nI (bmany (B, t))), .ref c10, .int (nI t), .int (nI md), .ref c11, .int (nI tp), .int (nI tl), .int (nI tr)])), (c0, xI Z 4 v), (c1, xI Z 24 op), (c2, xI Z 24 wk), (c3, xI Z 24 on), (c4, xI Z 24 iz), (c5, xJ Z 6 wr), (c6, xI Z 6 wy), (c7, xI Z 6 gs), (c8, xI Z 700 gw), (c9, xI Z 700 sv), (c10, xI Z 80001 gb), (c11, xI Z 6 mk)] := hD
    refine ln_if_eq (tgt := 26) hx hb dX7_counter_14 (by decide) (by omega) (fun h14 => False.elim (by omega)) (fun h14 => ?_)
    refine lv_aload_n hx hb dX7_counter_17 rfl (lv_at hl 0 rfl) ?_
    refine va_get (D := Z.1) (ci := 7) (v := .ref c0) (C := RX7) (T := TX7) (N := 29) hx hb hts iX7 hown hK hP 0 rfl rfl 1 (Nat.le_of_ble_eq_true rfl) qq_675 (fun _ h9 => h9) rfl dX7_counter_18 ?_
    refine lv_iload_n hx hb dX7_counter_21 rfl (lv_at hl 1 rfl) ?_
    refine ln_iald hx hb hK hP 1 rfl (by omega) (by omega) dX7_counter_22 ?_
    refine lv_goto (tgt := 27) hx hb dX7_counter_23 (by decide) ?_
    exact x_iret hC hr hk hP hD hS dX7_counter_27 (show XQ mx Z (f_counter ((v, now), (nl, op, wk, on, iz), R, (pq, pu, pf, pg), L, (B, t)) (nI j1)) _ _ from by
        rw [show f_counter ((v, now), (nl, op, wk, on, iz), R, (pq, pu, pf, pg), L, (B, t)) (nI j1) = (nI (v j1), ((v, now), (nl, op, wk, on, iz), R, (pq, pu, pf, pg), L, (B, t))) from (by simp only [f_counter, hq_x1, Bool.and_true, Bool.true_and, Bool.and_false, Bool.false_and, Bool.and_self, if_true, Bool.false_eq_true, if_false, reduceIte, nI_clamp (show j1 < 2147483648 by omega)])]
        exact ⟨rfl, ⟨hCV, hRV, hPV, hWV, hBV⟩, c0, c1, c2, c3, c4, c5, c6, c7, c8, c9, c10, c11, 0, bg, sl, fb, md, tp, tl, tr, wy, gs, gw, sv, gb, mk, wr, hM7, hRL, hBQ, rfl⟩)

set_option maxHeartbeats 4000000 in
set_option maxRecDepth 100000 in
theorem c_X7_at (l : Launch) (Z : xZ) (mx : Nat) (S : xS) (hS0 : SV S) (wx : va_W) (hw0 : MW mx S wx Z) : xMi l Z yX7_at vX7_at ({ frames := 0, cells := 0, slots := 0, locals := 0 } : Room) [.ref mx] wx (XQ mx Z (f_at S)) := by
  obtain ⟨⟨v, now⟩, ⟨nl, op, wk, on, iz⟩, R, ⟨pq, pu, pf, pg⟩, L, B, t⟩ := S
  obtain ⟨hCV, hRV, hPV, hWV, hBV⟩ := hS0
  obtain ⟨c0, c1, c2, c3, c4, c5, c6, c7, c8, c9, c10, c11, th, bg, sl, fb, md, tp, tl, tr, wy, gs, gw, sv, gb, mk, wr, hM7, hRL, hBQ, rfl⟩ := hw0
  have hRL1 := hRL.1
  obtain ⟨hc1, hc2, hc3, hc4⟩ := id hCV
  obtain ⟨hp1, hp2, hp3, hp4⟩ := id hPV
  obtain ⟨hw1, hw2⟩ := id hWV
  obtain ⟨hb1, hb2, hb3, hb4, hb5⟩ := id hBV
  have hbm : bmany (B, t) = 121 * B.length - t % 121 := rfl
  dsimp only at hRV hc1 hc2 hc3 hc4 hp1 hp2 hp3 hp4 hw1 hw2 hb1 hb2 hb3 hb4 hb5
  refine x_i (by decide) rfl (Nat.le_of_ble_eq_true rfl) ?_
  intro p e s m args below meth c ls A hC hr hk hl hP hD hS
  have hx := hC.1.1
  have hb := hC.1.2.1
  have hml := hC.1.2.2.1
  have hown : s.vm.findClass RX7 = some m.cls := hC.1.2.2.2.1
  have hts := hC.1.2.2.2.2
  have hK := hC.2.1
  have qq_674 := hts (Cond.fieldLink RX7 47 "TagTowerModel" "thrown" "I") (List.mem_cons_of_mem _ wq_674)
  have iX7 : ∀ w ∈ wsX70, w ∈ vX7_at := fun w h => List.mem_cons_of_mem _ (wi_X7 w h)
  have qq_681 := hts (Cond.fieldLink RX7 64 "TagTowerModel" "line" "I") (List.mem_cons_of_mem _ wq_681)
  have hl : lv_has ls 1 [(0, .ref mx)] := hl
  have hP : va_P Z.1 vwCl [(mx, .inr (7, [.int (nI th), .ref c0, .int (nI nl), .ref c1, .ref c2, .ref c3, .ref c4, .int (nI now), .ref c5, .ref c6, .ref c7, .int (nI pq), .int (nI pu), .int (nI pf), .int (nI pg), .int (nI bg), .int (nI L.length), .ref c8, .int (nI sl), .ref c9, .int (nI fb), .int (nI (bmany (B, t))), .ref c10, .int (nI t), .int (nI md), .ref c11, .int (nI tp), .int (nI tl), .int (nI tr)])), (c0, xI Z 4 v), (c1, xI Z 24 op), (c2, xI Z 24 wk), (c3, xI Z 24 on), (c4, xI Z 24 iz), (c5, xJ Z 6 wr), (c6, xI Z 6 wy), (c7, xI Z 6 gs), (c8, xI Z 700 gw), (c9, xI Z 700 sv), (c10, xI Z 80001 gb), (c11, xI Z 6 mk)] s.heap := hP
  have hD : va_D A [(mx, .inr (7, [.int (nI th), .ref c0, .int (nI nl), .ref c1, .ref c2, .ref c3, .ref c4, .int (nI now), .ref c5, .ref c6, .ref c7, .int (nI pq), .int (nI pu), .int (nI pf), .int (nI pg), .int (nI bg), .int (nI L.length), .ref c8, .int (nI sl), .ref c9, .int (nI fb), .int (nI (bmany (B, t))), .ref c10, .int (nI t), .int (nI md), .ref c11, .int (nI tp), .int (nI tl), .int (nI tr)])), (c0, xI Z 4 v), (c1, xI Z 24 op), (c2, xI Z 24 wk), (c3, xI Z 24 on), (c4, xI Z 24 iz), (c5, xJ Z 6 wr), (c6, xI Z 6 wy), (c7, xI Z 6 gs), (c8, xI Z 700 gw), (c9, xI Z 700 sv), (c10, xI Z 80001 gb), (c11, xI Z 6 mk)] := hD
  refine lv_aload_n hx hb dX7_at_0 rfl (lv_at hl 0 rfl) ?_
  refine ln_const 0 hx hb dX7_at_1 (by decide) ?_
  refine va_put (D := Z.1) (ci := 7) (v := .int (nI 0)) (ty := tyX7 0) (C := RX7) (T := TX7) (N := 29) hx hb hts iX7 tyX7 tyX7_ok nmX7 hown hK hP hD hS 0 rfl rfl 0 (Nat.le_of_ble_eq_true rfl) qq_674 (fun _ h9 => h9) rfl (tyX7_ok 0 (Nat.le_of_ble_eq_true rfl)) rfl rfl (Nat.le_of_ble_eq_true rfl) dX7_at_2 (fun H locs hP hD hS => ?_)
  have hP : va_P Z.1 vwCl [(mx, .inr (7, [.int (nI 0), .ref c0, .int (nI nl), .ref c1, .ref c2, .ref c3, .ref c4, .int (nI now), .ref c5, .ref c6, .ref c7, .int (nI pq), .int (nI pu), .int (nI pf), .int (nI pg), .int (nI bg), .int (nI L.length), .ref c8, .int (nI sl), .ref c9, .int (nI fb), .int (nI (bmany (B, t))), .ref c10, .int (nI t), .int (nI md), .ref c11, .int (nI tp), .int (nI tl), .int (nI tr)])), (c0, xI Z 4 v), (c1, xI Z 24 op), (c2, xI Z 24 wk), (c3, xI Z 24 on), (c4, xI Z 24 iz), (c5, xJ Z 6 wr), (c6, xI Z 6 wy), (c7, xI Z 6 gs), (c8, xI Z 700 gw), (c9, xI Z 700 sv), (c10, xI Z 80001 gb), (c11, xI Z 6 mk)] H := hP
  have hD : va_D A [(mx, .inr (7, [.int (nI 0), .ref c0, .int (nI nl), .ref c1, .ref c2, .ref c3, .ref c4, .int (nI now), .ref c5, .ref c6, .ref c7, .int (nI pq), .int (nI pu), .int (nI pf), .int (nI pg), .int (nI bg), .int (nI L.length), .ref c8, .int (nI sl), .ref c9, .int (nI fb), .int (nI (bmany (B, t))), .ref c10, .int (nI t), .int (nI md), .ref c11, .int (nI tp), .int (nI tl), .int (nI tr)])), (c0, xI Z 4 v), (c1, xI Z 24 op), (c2, xI Z 24 wk), (c3, xI Z 24 on), (c4, xI Z 24 iz), (c5, xJ Z 6 wr), (c6, xI Z 6 wy), (c7, xI Z 6 gs), (c8, xI Z 700 gw), (c9, xI Z 700 sv), (c10, xI Z 80001 gb), (c11, xI Z 6 mk)] := hD
  refine lv_aload_n hx hb dX7_at_5 rfl (lv_at hl 0 rfl) ?_
  refine va_get (D := Z.1) (ci := 7) (v := .int (nI now)) (C := RX7) (T := TX7) (N := 29) hx hb hts iX7 hown hK hP 0 rfl rfl 7 (Nat.le_of_ble_eq_true rfl) qq_681 (fun _ h9 => h9) rfl dX7_at_6 ?_
  exact x_iret hC hr hk hP hD hS dX7_at_9 (show XQ mx Z (f_at ((v, now), (nl, op, wk, on, iz), R, (pq, pu, pf, pg), L, (B, t))) _ _ from by
      rw [show f_at ((v, now), (nl, op, wk, on, iz), R, (pq, pu, pf, pg), L, (B, t)) = (nI now, ((v, now), (nl, op, wk, on, iz), R, (pq, pu, pf, pg), L, (B, t))) from rfl]
      exact ⟨rfl, ⟨hCV, hRV, hPV, hWV, hBV⟩, c0, c1, c2, c3, c4, c5, c6, c7, c8, c9, c10, c11, 0, bg, sl, fb, md, tp, tl, tr, wy, gs, gw, sv, gb, mk, wr, hM7, hRL, hBQ, rfl⟩)

set_option maxHeartbeats 4000000 in
set_option maxRecDepth 100000 in
theorem c_X7_go (l : Launch) (Z : xZ) (mx : Nat) (S : xS) (hS0 : SV S) (wx : va_W) (hw0 : MW mx S wx Z) (x1 : Int32) : xMi l Z yX7_go vX7_go ({ frames := 1, cells := 0, slots := 0, locals := 25 } : Room) [.ref mx, .int x1] wx (XQ mx Z (f_go S x1)) := by
  obtain ⟨⟨v, now⟩, ⟨nl, op, wk, on, iz⟩, R, ⟨pq, pu, pf, pg⟩, L, B, t⟩ := S
  obtain ⟨hCV, hRV, hPV, hWV, hBV⟩ := hS0
  obtain ⟨c0, c1, c2, c3, c4, c5, c6, c7, c8, c9, c10, c11, th, bg, sl, fb, md, tp, tl, tr, wy, gs, gw, sv, gb, mk, wr, hM7, hRL, hBQ, rfl⟩ := hw0
  have hRL1 := hRL.1
  obtain ⟨hc1, hc2, hc3, hc4⟩ := id hCV
  obtain ⟨hp1, hp2, hp3, hp4⟩ := id hPV
  obtain ⟨hw1, hw2⟩ := id hWV
  obtain ⟨hb1, hb2, hb3, hb4, hb5⟩ := id hBV
  have hbm : bmany (B, t) = 121 * B.length - t % 121 := rfl
  dsimp only at hRV hc1 hc2 hc3 hc4 hp1 hp2 hp3 hp4 hw1 hw2 hb1 hb2 hb3 hb4 hb5
  refine x_i (by decide) rfl (Nat.le_of_ble_eq_true rfl) ?_
  intro p e s m args below meth c ls A hC hr hk hl hP hD hS
  have hx := hC.1.1
  have hb := hC.1.2.1
  have hml := hC.1.2.2.1
  have hown : s.vm.findClass RX7 = some m.cls := hC.1.2.2.2.1
  have hts := hC.1.2.2.2.2
  have hK := hC.2.1
  have qq_674 := hts (Cond.fieldLink RX7 47 "TagTowerModel" "thrown" "I") (List.mem_cons_of_mem _ wq_674)
  have iX7 : ∀ w ∈ wsX70, w ∈ vX7_go := fun w h => List.mem_cons_of_mem _ (wi_X7 w h)
  have qq_771 := hts (Cond.constantLong RX7 59 (24)) (List.mem_cons_of_mem _ wq_771)
  have qq_681 := hts (Cond.fieldLink RX7 64 "TagTowerModel" "line" "I") (List.mem_cons_of_mem _ wq_681)
  have hl : lv_has ls 3 [(0, .ref mx), (1, .int x1)] := hl
  have hP : va_P Z.1 vwCl [(mx, .inr (7, [.int (nI th), .ref c0, .int (nI nl), .ref c1, .ref c2, .ref c3, .ref c4, .int (nI now), .ref c5, .ref c6, .ref c7, .int (nI pq), .int (nI pu), .int (nI pf), .int (nI pg), .int (nI bg), .int (nI L.length), .ref c8, .int (nI sl), .ref c9, .int (nI fb), .int (nI (bmany (B, t))), .ref c10, .int (nI t), .int (nI md), .ref c11, .int (nI tp), .int (nI tl), .int (nI tr)])), (c0, xI Z 4 v), (c1, xI Z 24 op), (c2, xI Z 24 wk), (c3, xI Z 24 on), (c4, xI Z 24 iz), (c5, xJ Z 6 wr), (c6, xI Z 6 wy), (c7, xI Z 6 gs), (c8, xI Z 700 gw), (c9, xI Z 700 sv), (c10, xI Z 80001 gb), (c11, xI Z 6 mk)] s.heap := hP
  have hD : va_D A [(mx, .inr (7, [.int (nI th), .ref c0, .int (nI nl), .ref c1, .ref c2, .ref c3, .ref c4, .int (nI now), .ref c5, .ref c6, .ref c7, .int (nI pq), .int (nI pu), .int (nI pf), .int (nI pg), .int (nI bg), .int (nI L.length), .ref c8, .int (nI sl), .ref c9, .int (nI fb), .int (nI (bmany (B, t))), .ref c10, .int (nI t), .int (nI md), .ref c11, .int (nI tp), .int (nI tl), .int (nI tr)])), (c0, xI Z 4 v), (c1, xI Z 24 op), (c2, xI Z 24 wk), (c3, xI Z 24 on), (c4, xI Z 24 iz), (c5, xJ Z 6 wr), (c6, xI Z 6 wy), (c7, xI Z 6 gs), (c8, xI Z 700 gw), (c9, xI Z 700 sv), (c10, xI Z 80001 gb), (c11, xI Z 6 mk)] := hD
  refine lv_aload_n hx hb dX7_go_0 rfl (lv_at hl 0 rfl) ?_
  refine ln_const 0 hx hb dX7_go_1 (by decide) ?_
  refine va_put (D := Z.1) (ci := 7) (v := .int (nI 0)) (ty := tyX7 0) (C := RX7) (T := TX7) (N := 29) hx hb hts iX7 tyX7 tyX7_ok nmX7 hown hK hP hD hS 0 rfl rfl 0 (Nat.le_of_ble_eq_true rfl) qq_674 (fun _ h9 => h9) rfl (tyX7_ok 0 (Nat.le_of_ble_eq_true rfl)) rfl rfl (Nat.le_of_ble_eq_true rfl) dX7_go_2 (fun H locs hP hD hS => ?_)
  have hP : va_P Z.1 vwCl [(mx, .inr (7, [.int (nI 0), .ref c0, .int (nI nl), .ref c1, .ref c2, .ref c3, .ref c4, .int (nI now), .ref c5, .ref c6, .ref c7, .int (nI pq), .int (nI pu), .int (nI pf), .int (nI pg), .int (nI bg), .int (nI L.length), .ref c8, .int (nI sl), .ref c9, .int (nI fb), .int (nI (bmany (B, t))), .ref c10, .int (nI t), .int (nI md), .ref c11, .int (nI tp), .int (nI tl), .int (nI tr)])), (c0, xI Z 4 v), (c1, xI Z 24 op), (c2, xI Z 24 wk), (c3, xI Z 24 on), (c4, xI Z 24 iz), (c5, xJ Z 6 wr), (c6, xI Z 6 wy), (c7, xI Z 6 gs), (c8, xI Z 700 gw), (c9, xI Z 700 sv), (c10, xI Z 80001 gb), (c11, xI Z 6 mk)] H := hP
  have hD : va_D A [(mx, .inr (7, [.int (nI 0), .ref c0, .int (nI nl), .ref c1, .ref c2, .ref c3, .ref c4, .int (nI now), .ref c5, .ref c6, .ref c7, .int (nI pq), .int (nI pu), .int (nI pf), .int (nI pg), .int (nI bg), .int (nI L.length), .ref c8, .int (nI sl), .ref c9, .int (nI fb), .int (nI (bmany (B, t))), .ref c10, .int (nI t), .int (nI md), .ref c11, .int (nI tp), .int (nI tl), .int (nI tr)])), (c0, xI Z 4 v), (c1, xI Z 24 op), (c2, xI Z 24 wk), (c3, xI Z 24 on), (c4, xI Z 24 iz), (c5, xJ Z 6 wr), (c6, xI Z 6 wy), (c7, xI Z 6 gs), (c8, xI Z 700 gw), (c9, xI Z 700 sv), (c10, xI Z 80001 gb), (c11, xI Z 6 mk)] := hD
  cases hq_x1 : inQ x1 0 24
  · refine lv_iload_n hx hb dX7_go_5 rfl (lv_at hl 1 rfl) ?_
    refine lv_i2l (v := (x1).toInt64) hx hb dX7_go_6 rfl ?_
    refine lv_lconst (v := lN 0) hx hb dX7_go_7 (by decide) ?_
    refine lv_ldc2 (v := lN 24) hx hb hown qq_771 dX7_go_8 ?_
    refine x_Si (y := yX7_in) (As := [.long ((x1).toInt64), .long (lN 0), .long (lN 24)]) (wc := []) (wr := [(mx, .inr (7, [.int (nI 0), .ref c0, .int (nI nl), .ref c1, .ref c2, .ref c3, .ref c4, .int (nI now), .ref c5, .ref c6, .ref c7, .int (nI pq), .int (nI pu), .int (nI pf), .int (nI pg), .int (nI bg), .int (nI L.length), .ref c8, .int (nI sl), .ref c9, .int (nI fb), .int (nI (bmany (B, t))), .ref c10, .int (nI t), .int (nI md), .ref c11, .int (nI tp), .int (nI tl), .int (nI tr)])), (c0, xI Z 4 v), (c1, xI Z 24 op), (c2, xI Z 24 wk), (c3, xI Z 24 on), (c4, xI Z 24 iz), (c5, xJ Z 6 wr), (c6, xI Z 6 wy), (c7, xI Z 6 gs), (c8, xI Z 700 gw), (c9, xI Z 700 sv), (c10, xI Z 80001 gb), (c11, xI Z 6 mk)]) hC hP hD hS (c_in_n l Z ((x1).toInt64) (lN 0) (lN 24) (in_n hq_x1 (by decide) (by decide))) (gS wq_769 wq_767 wq_768 wq_45) rfl ks_X7_in ⟨rfl, rfl⟩ rfl hl.1 rfl ⟨Nat.le_of_ble_eq_true rfl, Nat.le_of_ble_eq_true rfl⟩ ([] : List Nat) [0, 1, 2, 3, 4, 5, 6, 7, 8, 9, 10, 11, 12] rfl rfl (by decide) (by decide) (by decide) rfl dX7_go_11 (fun r11 w1 H locs hw hP hD hS => ?_)
    obtain ⟨rfl, rfl⟩ := hw
    have hP : va_P Z.1 vwCl [(mx, .inr (7, [.int (nI 0), .ref c0, .int (nI nl), .ref c1, .ref c2, .ref c3, .ref c4, .int (nI now), .ref c5, .ref c6, .ref c7, .int (nI pq), .int (nI pu), .int (nI pf), .int (nI pg), .int (nI bg), .int (nI L.length), .ref c8, .int (nI sl), .ref c9, .int (nI fb), .int (nI (bmany (B, t))), .ref c10, .int (nI t), .int (nI md), .ref c11, .int (nI tp), .int (nI tl), .int (nI tr)])), (c0, xI Z 4 v), (c1, xI Z 24 op), (c2, xI Z 24 wk), (c3, xI Z 24 on), (c4, xI Z 24 iz), (c5, xJ Z 6 wr), (c6, xI Z 6 wy), (c7, xI Z 6 gs), (c8, xI Z 700 gw), (c9, xI Z 700 sv), (c10, xI Z 80001 gb), (c11, xI Z 6 mk)] H := hP
    have hD : va_D A [(mx, .inr (7, [.int (nI 0), .ref c0, .int (nI nl), .ref c1, .ref c2, .ref c3, .ref c4, .int (nI now), .ref c5, .ref c6, .ref c7, .int (nI pq), .int (nI pu), .int (nI pf), .int (nI pg), .int (nI bg), .int (nI L.length), .ref c8, .int (nI sl), .ref c9, .int (nI fb), .int (nI (bmany (B, t))), .ref c10, .int (nI t), .int (nI md), .ref c11, .int (nI tp), .int (nI tl), .int (nI tr)])), (c0, xI Z 4 v), (c1, xI Z 24 op), (c2, xI Z 24 wk), (c3, xI Z 24 on), (c4, xI Z 24 iz), (c5, xJ Z 6 wr), (c6, xI Z 6 wy), (c7, xI Z 6 gs), (c8, xI Z 700 gw), (c9, xI Z 700 sv), (c10, xI Z 80001 gb), (c11, xI Z 6 mk)] := hD
    refine ln_if_ne (tgt := 19) hx hb dX7_go_14 (by decide) (by omega) (fun h14 => False.elim (by omega)) (fun h14 => ?_)
    refine lv_iconst (v := (-1)) hx hb dX7_go_17 (by decide) ?_
    exact x_iret hC hr hk hP hD hS dX7_go_18 (show XQ mx Z (f_go ((v, now), (nl, op, wk, on, iz), R, (pq, pu, pf, pg), L, (B, t)) x1) _ _ from by
        rw [show f_go ((v, now), (nl, op, wk, on, iz), R, (pq, pu, pf, pg), L, (B, t)) x1 = (-1, ((v, now), (nl, op, wk, on, iz), R, (pq, pu, pf, pg), L, (B, t))) from (by simp only [f_go, hq_x1, Bool.and_true, Bool.true_and, Bool.and_false, Bool.false_and, Bool.and_self, if_true, Bool.false_eq_true, if_false, reduceIte])]
        exact ⟨rfl, ⟨hCV, hRV, hPV, hWV, hBV⟩, c0, c1, c2, c3, c4, c5, c6, c7, c8, c9, c10, c11, 0, bg, sl, fb, md, tp, tl, tr, wy, gs, gw, sv, gb, mk, wr, hM7, hRL, hBQ, rfl⟩)
  · obtain ⟨j1, j1a, j1b, rfl⟩ := inQ_of hq_x1 (by decide)
    refine lv_iload_n hx hb dX7_go_5 rfl (lv_at hl 1 rfl) ?_
    refine lv_i2l (v := (nI j1).toInt64) hx hb dX7_go_6 rfl ?_
    refine lv_lconst (v := lN 0) hx hb dX7_go_7 (by decide) ?_
    refine lv_ldc2 (v := lN 24) hx hb hown qq_771 dX7_go_8 ?_
    refine x_Si (y := yX7_in) (As := [.long ((nI j1).toInt64), .long (lN 0), .long (lN 24)]) (wc := []) (wr := [(mx, .inr (7, [.int (nI 0), .ref c0, .int (nI nl), .ref c1, .ref c2, .ref c3, .ref c4, .int (nI now), .ref c5, .ref c6, .ref c7, .int (nI pq), .int (nI pu), .int (nI pf), .int (nI pg), .int (nI bg), .int (nI L.length), .ref c8, .int (nI sl), .ref c9, .int (nI fb), .int (nI (bmany (B, t))), .ref c10, .int (nI t), .int (nI md), .ref c11, .int (nI tp), .int (nI tl), .int (nI tr)])), (c0, xI Z 4 v), (c1, xI Z 24 op), (c2, xI Z 24 wk), (c3, xI Z 24 on), (c4, xI Z 24 iz), (c5, xJ Z 6 wr), (c6, xI Z 6 wy), (c7, xI Z 6 gs), (c8, xI Z 700 gw), (c9, xI Z 700 sv), (c10, xI Z 80001 gb), (c11, xI Z 6 mk)]) hC hP hD hS (c_in_y l Z ((nI j1).toInt64) (lN 0) (lN 24) (in_y hq_x1 (by decide) (by decide))) (gS wq_769 wq_767 wq_768 wq_45) rfl ks_X7_in ⟨rfl, rfl⟩ rfl hl.1 rfl ⟨Nat.le_of_ble_eq_true rfl, Nat.le_of_ble_eq_true rfl⟩ ([] : List Nat) [0, 1, 2, 3, 4, 5, 6, 7, 8, 9, 10, 11, 12] rfl rfl (by decide) (by decide) (by decide) rfl dX7_go_11 (fun r11 w1 H locs hw hP hD hS => ?_)
    obtain ⟨rfl, rfl⟩ := hw
    have hP : va_P Z.1 vwCl [(mx, .inr (7, [.int (nI 0), .ref c0, .int (nI nl), .ref c1, .ref c2, .ref c3, .ref c4, .int (nI now), .ref c5, .ref c6, .ref c7, .int (nI pq), .int (nI pu), .int (nI pf), .int (nI pg), .int (nI bg), .int (nI L.length), .ref c8, .int (nI sl), .ref c9, .int (nI fb), .int (nI (bmany (B, t))), .ref c10, .int (nI t), .int (nI md), .ref c11, .int (nI tp), .int (nI tl), .int (nI tr)])), (c0, xI Z 4 v), (c1, xI Z 24 op), (c2, xI Z 24 wk), (c3, xI Z 24 on), (c4, xI Z 24 iz), (c5, xJ Z 6 wr), (c6, xI Z 6 wy), (c7, xI Z 6 gs), (c8, xI Z 700 gw), (c9, xI Z 700 sv), (c10, xI Z 80001 gb), (c11, xI Z 6 mk)] H := hP
    have hD : va_D A [(mx, .inr (7, [.int (nI 0), .ref c0, .int (nI nl), .ref c1, .ref c2, .ref c3, .ref c4, .int (nI now), .ref c5, .ref c6, .ref c7, .int (nI pq), .int (nI pu), .int (nI pf), .int (nI pg), .int (nI bg), .int (nI L.length), .ref c8, .int (nI sl), .ref c9, .int (nI fb), .int (nI (bmany (B, t))), .ref c10, .int (nI t), .int (nI md), .ref c11, .int (nI tp), .int (nI tl), .int (nI tr)])), (c0, xI Z 4 v), (c1, xI Z 24 op), (c2, xI Z 24 wk), (c3, xI Z 24 on), (c4, xI Z 24 iz), (c5, xJ Z 6 wr), (c6, xI Z 6 wy), (c7, xI Z 6 gs), (c8, xI Z 700 gw), (c9, xI Z 700 sv), (c10, xI Z 80001 gb), (c11, xI Z 6 mk)] := hD
    refine ln_if_ne (tgt := 19) hx hb dX7_go_14 (by decide) (by omega) (fun h14 => ?_) (fun h14 => False.elim (by omega))
    refine lv_aload_n hx hb dX7_go_19 rfl (lv_at hl 0 rfl) ?_
    refine va_get (D := Z.1) (ci := 7) (v := .int (nI now)) (C := RX7) (T := TX7) (N := 29) hx hb hts iX7 hown hK hP 0 rfl rfl 7 (Nat.le_of_ble_eq_true rfl) qq_681 (fun _ h9 => h9) rfl dX7_go_20 ?_
    refine lv_istore_n (lv' := [(2, .int (nI now)), (0, .ref mx), (1, .int (nI j1))]) hx hb dX7_go_23 rfl hl (by decide) rfl (fun ls hl => ?_)
    refine lv_aload_n hx hb dX7_go_24 rfl (lv_at hl 1 rfl) ?_
    refine lv_iload_n hx hb dX7_go_25 rfl (lv_at hl 2 rfl) ?_
    refine va_put (D := Z.1) (ci := 7) (v := .int (nI j1)) (ty := tyX7 7) (C := RX7) (T := TX7) (N := 29) hx hb hts iX7 tyX7 tyX7_ok nmX7 hown hK hP hD hS 0 rfl rfl 7 (Nat.le_of_ble_eq_true rfl) qq_681 (fun _ h9 => h9) rfl (tyX7_ok 7 (Nat.le_of_ble_eq_true rfl)) rfl rfl (Nat.le_of_ble_eq_true rfl) dX7_go_26 (fun H locs hP hD hS => ?_)
    have hP : va_P Z.1 vwCl [(mx, .inr (7, [.int (nI 0), .ref c0, .int (nI nl), .ref c1, .ref c2, .ref c3, .ref c4, .int (nI j1), .ref c5, .ref c6, .ref c7, .int (nI pq), .int (nI pu), .int (nI pf), .int (nI pg), .int (nI bg), .int (nI L.length), .ref c8, .int (nI sl), .ref c9, .int (nI fb), .int (nI (bmany (B, t))), .ref c10, .int (nI t), .int (nI md), .ref c11, .int (nI tp), .int (nI tl), .int (nI tr)])), (c0, xI Z 4 v), (c1, xI Z 24 op), (c2, xI Z 24 wk), (c3, xI Z 24 on), (c4, xI Z 24 iz), (c5, xJ Z 6 wr), (c6, xI Z 6 wy), (c7, xI Z 6 gs), (c8, xI Z 700 gw), (c9, xI Z 700 sv), (c10, xI Z 80001 gb), (c11, xI Z 6 mk)] H := hP
    have hD : va_D A [(mx, .inr (7, [.int (nI 0), .ref c0, .int (nI nl), .ref c1, .ref c2, .ref c3, .ref c4, .int (nI j1), .ref c5, .ref c6, .ref c7, .int (nI pq), .int (nI pu), .int (nI pf), .int (nI pg), .int (nI bg), .int (nI L.length), .ref c8, .int (nI sl), .ref c9, .int (nI fb), .int (nI (bmany (B, t))), .ref c10, .int (nI t), .int (nI md), .ref c11, .int (nI tp), .int (nI tl), .int (nI tr)])), (c0, xI Z 4 v), (c1, xI Z 24 op), (c2, xI Z 24 wk), (c3, xI Z 24 on), (c4, xI Z 24 iz), (c5, xJ Z 6 wr), (c6, xI Z 6 wy), (c7, xI Z 6 gs), (c8, xI Z 700 gw), (c9, xI Z 700 sv), (c10, xI Z 80001 gb), (c11, xI Z 6 mk)] := hD
    refine lv_iload_n hx hb dX7_go_29 rfl (lv_at hl 0 rfl) ?_
    exact x_iret hC hr hk hP hD hS dX7_go_30 (show XQ mx Z (f_go ((v, now), (nl, op, wk, on, iz), R, (pq, pu, pf, pg), L, (B, t)) (nI j1)) _ _ from by
        rw [show f_go ((v, now), (nl, op, wk, on, iz), R, (pq, pu, pf, pg), L, (B, t)) (nI j1) = (nI now, ((v, j1), (nl, op, wk, on, iz), R, (pq, pu, pf, pg), L, (B, t))) from (by simp only [f_go, hq_x1, Bool.and_true, Bool.true_and, Bool.and_false, Bool.false_and, Bool.and_self, if_true, Bool.false_eq_true, if_false, reduceIte, nI_clamp (show j1 < 2147483648 by omega)])]
        exact ⟨rfl, ⟨(hCV.goto j1b), hRV, hPV, hWV, hBV⟩, c0, c1, c2, c3, c4, c5, c6, c7, c8, c9, c10, c11, 0, bg, sl, fb, md, tp, tl, tr, wy, gs, gw, sv, gb, mk, wr, hM7, hRL, hBQ, rfl⟩)

theorem kv_X7_mayDo : yX7_mayDo.cls = RX7 ∧ yX7_mayDo.cls ≠ "java/lang/invoke/MethodHandle" ∧ yX7_mayDo.cls ≠ "java/lang/invoke/VarHandle" ∧ (parseMethodDescriptor yX7_mayDo.desc).map (fun d => d.parameters.length) = some 0 := by decide +kernel
set_option maxHeartbeats 4000000 in
set_option maxRecDepth 100000 in
theorem c_X7_count (l : Launch) (Z : xZ) (mx : Nat) (S : xS) (hS0 : SV S) (wx : va_W) (hw0 : MW mx S wx Z) (x1 : Int32) : xMi l Z yX7_count vX7_count ({ frames := 1, cells := 0, slots := 0, locals := 25 } : Room) [.ref mx, .int x1] wx (XQ mx Z (f_count S x1)) := by
  obtain ⟨⟨v, now⟩, ⟨nl, op, wk, on, iz⟩, R, ⟨pq, pu, pf, pg⟩, L, B, t⟩ := S
  obtain ⟨hCV, hRV, hPV, hWV, hBV⟩ := hS0
  obtain ⟨c0, c1, c2, c3, c4, c5, c6, c7, c8, c9, c10, c11, th, bg, sl, fb, md, tp, tl, tr, wy, gs, gw, sv, gb, mk, wr, hM7, hRL, hBQ, rfl⟩ := hw0
  have hRL1 := hRL.1
  obtain ⟨hc1, hc2, hc3, hc4⟩ := id hCV
  obtain ⟨hp1, hp2, hp3, hp4⟩ := id hPV
  obtain ⟨hw1, hw2⟩ := id hWV
  obtain ⟨hb1, hb2, hb3, hb4, hb5⟩ := id hBV
  have hbm : bmany (B, t) = 121 * B.length - t % 121 := rfl
  dsimp only at hRV hc1 hc2 hc3 hc4 hp1 hp2 hp3 hp4 hw1 hw2 hb1 hb2 hb3 hb4 hb5
  refine x_i (by decide) rfl (Nat.le_of_ble_eq_true rfl) ?_
  intro p e s m args below meth c ls A hC hr hk hl hP hD hS
  have hx := hC.1.1
  have hb := hC.1.2.1
  have hml := hC.1.2.2.1
  have hown : s.vm.findClass RX7 = some m.cls := hC.1.2.2.2.1
  have hts := hC.1.2.2.2.2
  have hK := hC.2.1
  have qq_674 := hts (Cond.fieldLink RX7 47 "TagTowerModel" "thrown" "I") (List.mem_cons_of_mem _ wq_674)
  have iX7 : ∀ w ∈ wsX70, w ∈ vX7_count := fun w h => List.mem_cons_of_mem _ (wi_X7 w h)
  have qq_789 := hts (Cond.constantLong RX7 69 (5000)) (List.mem_cons_of_mem _ wq_789)
  have qq_678 := hts (Cond.fieldLink RX7 16 "TagTowerModel" "which" "[I") (List.mem_cons_of_mem _ wq_678)
  have qq_681 := hts (Cond.fieldLink RX7 64 "TagTowerModel" "line" "I") (List.mem_cons_of_mem _ wq_681)
  have qq_677 := hts (Cond.fieldLink RX7 13 "TagTowerModel" "op" "[I") (List.mem_cons_of_mem _ wq_677)
  have qq_675 := hts (Cond.fieldLink RX7 7 "TagTowerModel" "counter" "[I") (List.mem_cons_of_mem _ wq_675)
  have qq_679 := hts (Cond.fieldLink RX7 19 "TagTowerModel" "then" "[I") (List.mem_cons_of_mem _ wq_679)
  have qq_680 := hts (Cond.fieldLink RX7 22 "TagTowerModel" "other" "[I") (List.mem_cons_of_mem _ wq_680)
  have hl : lv_has ls 4 [(0, .ref mx), (1, .int x1)] := hl
  have hP : va_P Z.1 vwCl [(mx, .inr (7, [.int (nI th), .ref c0, .int (nI nl), .ref c1, .ref c2, .ref c3, .ref c4, .int (nI now), .ref c5, .ref c6, .ref c7, .int (nI pq), .int (nI pu), .int (nI pf), .int (nI pg), .int (nI bg), .int (nI L.length), .ref c8, .int (nI sl), .ref c9, .int (nI fb), .int (nI (bmany (B, t))), .ref c10, .int (nI t), .int (nI md), .ref c11, .int (nI tp), .int (nI tl), .int (nI tr)])), (c0, xI Z 4 v), (c1, xI Z 24 op), (c2, xI Z 24 wk), (c3, xI Z 24 on), (c4, xI Z 24 iz), (c5, xJ Z 6 wr), (c6, xI Z 6 wy), (c7, xI Z 6 gs), (c8, xI Z 700 gw), (c9, xI Z 700 sv), (c10, xI Z 80001 gb), (c11, xI Z 6 mk)] s.heap := hP
  have hD : va_D A [(mx, .inr (7, [.int (nI th), .ref c0, .int (nI nl), .ref c1, .ref c2, .ref c3, .ref c4, .int (nI now), .ref c5, .ref c6, .ref c7, .int (nI pq), .int (nI pu), .int (nI pf), .int (nI pg), .int (nI bg), .int (nI L.length), .ref c8, .int (nI sl), .ref c9, .int (nI fb), .int (nI (bmany (B, t))), .ref c10, .int (nI t), .int (nI md), .ref c11, .int (nI tp), .int (nI tl), .int (nI tr)])), (c0, xI Z 4 v), (c1, xI Z 24 op), (c2, xI Z 24 wk), (c3, xI Z 24 on), (c4, xI Z 24 iz), (c5, xJ Z 6 wr), (c6, xI Z 6 wy), (c7, xI Z 6 gs), (c8, xI Z 700 gw), (c9, xI Z 700 sv), (c10, xI Z 80001 gb), (c11, xI Z 6 mk)] := hD
  refine lv_aload_n hx hb dX7_count_0 rfl (lv_at hl 0 rfl) ?_
  refine ln_const 0 hx hb dX7_count_1 (by decide) ?_
  refine va_put (D := Z.1) (ci := 7) (v := .int (nI 0)) (ty := tyX7 0) (C := RX7) (T := TX7) (N := 29) hx hb hts iX7 tyX7 tyX7_ok nmX7 hown hK hP hD hS 0 rfl rfl 0 (Nat.le_of_ble_eq_true rfl) qq_674 (fun _ h9 => h9) rfl (tyX7_ok 0 (Nat.le_of_ble_eq_true rfl)) rfl rfl (Nat.le_of_ble_eq_true rfl) dX7_count_2 (fun H locs hP hD hS => ?_)
  have hP : va_P Z.1 vwCl [(mx, .inr (7, [.int (nI 0), .ref c0, .int (nI nl), .ref c1, .ref c2, .ref c3, .ref c4, .int (nI now), .ref c5, .ref c6, .ref c7, .int (nI pq), .int (nI pu), .int (nI pf), .int (nI pg), .int (nI bg), .int (nI L.length), .ref c8, .int (nI sl), .ref c9, .int (nI fb), .int (nI (bmany (B, t))), .ref c10, .int (nI t), .int (nI md), .ref c11, .int (nI tp), .int (nI tl), .int (nI tr)])), (c0, xI Z 4 v), (c1, xI Z 24 op), (c2, xI Z 24 wk), (c3, xI Z 24 on), (c4, xI Z 24 iz), (c5, xJ Z 6 wr), (c6, xI Z 6 wy), (c7, xI Z 6 gs), (c8, xI Z 700 gw), (c9, xI Z 700 sv), (c10, xI Z 80001 gb), (c11, xI Z 6 mk)] H := hP
  have hD : va_D A [(mx, .inr (7, [.int (nI 0), .ref c0, .int (nI nl), .ref c1, .ref c2, .ref c3, .ref c4, .int (nI now), .ref c5, .ref c6, .ref c7, .int (nI pq), .int (nI pu), .int (nI pf), .int (nI pg), .int (nI bg), .int (nI L.length), .ref c8, .int (nI sl), .ref c9, .int (nI fb), .int (nI (bmany (B, t))), .ref c10, .int (nI t), .int (nI md), .ref c11, .int (nI tp), .int (nI tl), .int (nI tr)])), (c0, xI Z 4 v), (c1, xI Z 24 op), (c2, xI Z 24 wk), (c3, xI Z 24 on), (c4, xI Z 24 iz), (c5, xJ Z 6 wr), (c6, xI Z 6 wy), (c7, xI Z 6 gs), (c8, xI Z 700 gw), (c9, xI Z 700 sv), (c10, xI Z 80001 gb), (c11, xI Z 6 mk)] := hD
  cases hq_x1 : inQ x1 1 5000
  · refine lv_iload_n hx hb dX7_count_5 rfl (lv_at hl 1 rfl) ?_
    refine lv_i2l (v := (x1).toInt64) hx hb dX7_count_6 rfl ?_
    refine lv_lconst (v := lN 1) hx hb dX7_count_7 (by decide) ?_
    refine lv_ldc2 (v := lN 5000) hx hb hown qq_789 dX7_count_8 ?_
    refine x_Si (y := yX7_in) (As := [.long ((x1).toInt64), .long (lN 1), .long (lN 5000)]) (wc := []) (wr := [(mx, .inr (7, [.int (nI 0), .ref c0, .int (nI nl), .ref c1, .ref c2, .ref c3, .ref c4, .int (nI now), .ref c5, .ref c6, .ref c7, .int (nI pq), .int (nI pu), .int (nI pf), .int (nI pg), .int (nI bg), .int (nI L.length), .ref c8, .int (nI sl), .ref c9, .int (nI fb), .int (nI (bmany (B, t))), .ref c10, .int (nI t), .int (nI md), .ref c11, .int (nI tp), .int (nI tl), .int (nI tr)])), (c0, xI Z 4 v), (c1, xI Z 24 op), (c2, xI Z 24 wk), (c3, xI Z 24 on), (c4, xI Z 24 iz), (c5, xJ Z 6 wr), (c6, xI Z 6 wy), (c7, xI Z 6 gs), (c8, xI Z 700 gw), (c9, xI Z 700 sv), (c10, xI Z 80001 gb), (c11, xI Z 6 mk)]) hC hP hD hS (c_in_n l Z ((x1).toInt64) (lN 1) (lN 5000) (in_n hq_x1 (by decide) (by decide))) (gS wq_769 wq_767 wq_768 wq_45) rfl ks_X7_in ⟨rfl, rfl⟩ rfl hl.1 rfl ⟨Nat.le_of_ble_eq_true rfl, Nat.le_of_ble_eq_true rfl⟩ ([] : List Nat) [0, 1, 2, 3, 4, 5, 6, 7, 8, 9, 10, 11, 12] rfl rfl (by decide) (by decide) (by decide) rfl dX7_count_11 (fun r11 w1 H locs hw hP hD hS => ?_)
    obtain ⟨rfl, rfl⟩ := hw
    have hP : va_P Z.1 vwCl [(mx, .inr (7, [.int (nI 0), .ref c0, .int (nI nl), .ref c1, .ref c2, .ref c3, .ref c4, .int (nI now), .ref c5, .ref c6, .ref c7, .int (nI pq), .int (nI pu), .int (nI pf), .int (nI pg), .int (nI bg), .int (nI L.length), .ref c8, .int (nI sl), .ref c9, .int (nI fb), .int (nI (bmany (B, t))), .ref c10, .int (nI t), .int (nI md), .ref c11, .int (nI tp), .int (nI tl), .int (nI tr)])), (c0, xI Z 4 v), (c1, xI Z 24 op), (c2, xI Z 24 wk), (c3, xI Z 24 on), (c4, xI Z 24 iz), (c5, xJ Z 6 wr), (c6, xI Z 6 wy), (c7, xI Z 6 gs), (c8, xI Z 700 gw), (c9, xI Z 700 sv), (c10, xI Z 80001 gb), (c11, xI Z 6 mk)] H := hP
    have hD : va_D A [(mx, .inr (7, [.int (nI 0), .ref c0, .int (nI nl), .ref c1, .ref c2, .ref c3, .ref c4, .int (nI now), .ref c5, .ref c6, .ref c7, .int (nI pq), .int (nI pu), .int (nI pf), .int (nI pg), .int (nI bg), .int (nI L.length), .ref c8, .int (nI sl), .ref c9, .int (nI fb), .int (nI (bmany (B, t))), .ref c10, .int (nI t), .int (nI md), .ref c11, .int (nI tp), .int (nI tl), .int (nI tr)])), (c0, xI Z 4 v), (c1, xI Z 24 op), (c2, xI Z 24 wk), (c3, xI Z 24 on), (c4, xI Z 24 iz), (c5, xJ Z 6 wr), (c6, xI Z 6 wy), (c7, xI Z 6 gs), (c8, xI Z 700 gw), (c9, xI Z 700 sv), (c10, xI Z 80001 gb), (c11, xI Z 6 mk)] := hD
    refine ln_if_ne (tgt := 19) hx hb dX7_count_14 (by decide) (by omega) (fun h14 => False.elim (by omega)) (fun h14 => ?_)
    refine lv_iconst (v := (-1)) hx hb dX7_count_17 (by decide) ?_
    exact x_iret hC hr hk hP hD hS dX7_count_18 (show XQ mx Z (f_count ((v, now), (nl, op, wk, on, iz), R, (pq, pu, pf, pg), L, (B, t)) x1) _ _ from by
        rw [show f_count ((v, now), (nl, op, wk, on, iz), R, (pq, pu, pf, pg), L, (B, t)) x1 = (-1, ((v, now), (nl, op, wk, on, iz), R, (pq, pu, pf, pg), L, (B, t))) from (by simp only [f_count, hq_x1, Bool.and_true, Bool.true_and, Bool.and_false, Bool.false_and, Bool.and_self, if_true, Bool.false_eq_true, if_false, reduceIte])]
        exact ⟨rfl, ⟨hCV, hRV, hPV, hWV, hBV⟩, c0, c1, c2, c3, c4, c5, c6, c7, c8, c9, c10, c11, 0, bg, sl, fb, md, tp, tl, tr, wy, gs, gw, sv, gb, mk, wr, hM7, hRL, hBQ, rfl⟩)
  · obtain ⟨j1, j1a, j1b, rfl⟩ := inQ_of hq_x1 (by decide)
    refine lv_iload_n hx hb dX7_count_5 rfl (lv_at hl 1 rfl) ?_
    refine lv_i2l (v := (nI j1).toInt64) hx hb dX7_count_6 rfl ?_
    refine lv_lconst (v := lN 1) hx hb dX7_count_7 (by decide) ?_
    refine lv_ldc2 (v := lN 5000) hx hb hown qq_789 dX7_count_8 ?_
    refine x_Si (y := yX7_in) (As := [.long ((nI j1).toInt64), .long (lN 1), .long (lN 5000)]) (wc := []) (wr := [(mx, .inr (7, [.int (nI 0), .ref c0, .int (nI nl), .ref c1, .ref c2, .ref c3, .ref c4, .int (nI now), .ref c5, .ref c6, .ref c7, .int (nI pq), .int (nI pu), .int (nI pf), .int (nI pg), .int (nI bg), .int (nI L.length), .ref c8, .int (nI sl), .ref c9, .int (nI fb), .int (nI (bmany (B, t))), .ref c10, .int (nI t), .int (nI md), .ref c11, .int (nI tp), .int (nI tl), .int (nI tr)])), (c0, xI Z 4 v), (c1, xI Z 24 op), (c2, xI Z 24 wk), (c3, xI Z 24 on), (c4, xI Z 24 iz), (c5, xJ Z 6 wr), (c6, xI Z 6 wy), (c7, xI Z 6 gs), (c8, xI Z 700 gw), (c9, xI Z 700 sv), (c10, xI Z 80001 gb), (c11, xI Z 6 mk)]) hC hP hD hS (c_in_y l Z ((nI j1).toInt64) (lN 1) (lN 5000) (in_y hq_x1 (by decide) (by decide))) (gS wq_769 wq_767 wq_768 wq_45) rfl ks_X7_in ⟨rfl, rfl⟩ rfl hl.1 rfl ⟨Nat.le_of_ble_eq_true rfl, Nat.le_of_ble_eq_true rfl⟩ ([] : List Nat) [0, 1, 2, 3, 4, 5, 6, 7, 8, 9, 10, 11, 12] rfl rfl (by decide) (by decide) (by decide) rfl dX7_count_11 (fun r11 w1 H locs hw hP hD hS => ?_)
    obtain ⟨rfl, rfl⟩ := hw
    have hP : va_P Z.1 vwCl [(mx, .inr (7, [.int (nI 0), .ref c0, .int (nI nl), .ref c1, .ref c2, .ref c3, .ref c4, .int (nI now), .ref c5, .ref c6, .ref c7, .int (nI pq), .int (nI pu), .int (nI pf), .int (nI pg), .int (nI bg), .int (nI L.length), .ref c8, .int (nI sl), .ref c9, .int (nI fb), .int (nI (bmany (B, t))), .ref c10, .int (nI t), .int (nI md), .ref c11, .int (nI tp), .int (nI tl), .int (nI tr)])), (c0, xI Z 4 v), (c1, xI Z 24 op), (c2, xI Z 24 wk), (c3, xI Z 24 on), (c4, xI Z 24 iz), (c5, xJ Z 6 wr), (c6, xI Z 6 wy), (c7, xI Z 6 gs), (c8, xI Z 700 gw), (c9, xI Z 700 sv), (c10, xI Z 80001 gb), (c11, xI Z 6 mk)] H := hP
    have hD : va_D A [(mx, .inr (7, [.int (nI 0), .ref c0, .int (nI nl), .ref c1, .ref c2, .ref c3, .ref c4, .int (nI now), .ref c5, .ref c6, .ref c7, .int (nI pq), .int (nI pu), .int (nI pf), .int (nI pg), .int (nI bg), .int (nI L.length), .ref c8, .int (nI sl), .ref c9, .int (nI fb), .int (nI (bmany (B, t))), .ref c10, .int (nI t), .int (nI md), .ref c11, .int (nI tp), .int (nI tl), .int (nI tr)])), (c0, xI Z 4 v), (c1, xI Z 24 op), (c2, xI Z 24 wk), (c3, xI Z 24 on), (c4, xI Z 24 iz), (c5, xJ Z 6 wr), (c6, xI Z 6 wy), (c7, xI Z 6 gs), (c8, xI Z 700 gw), (c9, xI Z 700 sv), (c10, xI Z 80001 gb), (c11, xI Z 6 mk)] := hD
    refine ln_if_ne (tgt := 19) hx hb dX7_count_14 (by decide) (by omega) (fun h14 => ?_) (fun h14 => False.elim (by omega))
    refine ln_const 0 hx hb dX7_count_19 (by decide) ?_
    refine lv_istore_n (lv' := [(2, .int (nI 0)), (0, .ref mx), (1, .int (nI j1))]) hx hb dX7_count_20 rfl hl (by decide) rfl (fun ls hl => ?_)
    have hloop21 : ∀ (nn : Nat) (k now1 : Nat) (v1 : Nat → Nat) (H : Heap) (locs : List Loc) (ls : Array Slot) (hX : XR (cstep nl op wk on iz) j1 (v, now) k (v1, now1)) (hV1 : CV nl op wk on iz (v1, now1)) (hmu : j1 - k < nn) (hP : va_P Z.1 vwCl [(mx, .inr (7, [.int (nI 0), .ref c0, .int (nI nl), .ref c1, .ref c2, .ref c3, .ref c4, .int (nI now1), .ref c5, .ref c6, .ref c7, .int (nI pq), .int (nI pu), .int (nI pf), .int (nI pg), .int (nI bg), .int (nI L.length), .ref c8, .int (nI sl), .ref c9, .int (nI fb), .int (nI (bmany (B, t))), .ref c10, .int (nI t), .int (nI md), .ref c11, .int (nI tp), .int (nI tl), .int (nI tr)])), (c0, xI Z 4 v1), (c1, xI Z 24 op), (c2, xI Z 24 wk), (c3, xI Z 24 on), (c4, xI Z 24 iz), (c5, xJ Z 6 wr), (c6, xI Z 6 wy), (c7, xI Z 6 gs), (c8, xI Z 700 gw), (c9, xI Z 700 sv), (c10, xI Z 80001 gb), (c11, xI Z 6 mk)] H) (hD : va_D A [(mx, .inr (7, [.int (nI 0), .ref c0, .int (nI nl), .ref c1, .ref c2, .ref c3, .ref c4, .int (nI now1), .ref c5, .ref c6, .ref c7, .int (nI pq), .int (nI pu), .int (nI pf), .int (nI pg), .int (nI bg), .int (nI L.length), .ref c8, .int (nI sl), .ref c9, .int (nI fb), .int (nI (bmany (B, t))), .ref c10, .int (nI t), .int (nI md), .ref c11, .int (nI tp), .int (nI tl), .int (nI tr)])), (c0, xI Z 4 v1), (c1, xI Z 24 op), (c2, xI Z 24 wk), (c3, xI Z 24 on), (c4, xI Z 24 iz), (c5, xJ Z 6 wr), (c6, xI Z 6 wy), (c7, xI Z 6 gs), (c8, xI Z 700 gw), (c9, xI Z 700 sv), (c10, xI Z 80001 gb), (c11, xI Z 6 mk)]) (hS : va_S A s.heap H locs) (hl : lv_has ls 4 [(0, .ref mx), (1, .int (nI j1)), (2, .int (nI k))]), W p l e ({ frames := 1, cells := 0, slots := 0, locals := 25 } : Room) s m args below meth c H locs 0 0 (MQ below (va_Qi (XQ mx Z (f_count ((v, now), (nl, op, wk, on, iz), R, (pq, pu, pf, pg), L, (B, t)) (nI j1))) (xB Z A) A) args s ({ frames := 1, cells := 0, slots := 0, locals := 25 } : Room).cells ({ frames := 1, cells := 0, slots := 0, locals := 25 } : Room).slots A) (F0 m 21 ls []) := by
      intro nn
      induction nn with
      | zero => intro k now1 v1 H locs ls hX hV1 hmu; exact absurd hmu (Nat.not_lt_zero _)
      | succ nn ih =>
        intro k now1 v1 H locs ls hX hV1 hmu hP hD hS hl
        have hk1 := hX.1
        refine lv_iload_n hx hb dX7_count_21 rfl (lv_at hl 2 rfl) ?_
        refine lv_iload_n hx hb dX7_count_22 rfl (lv_at hl 1 rfl) ?_
        refine ln_icmp_ge (tgt := 135) hx hb dX7_count_23 (by decide) (by omega) (by omega) (fun h23 => ?_) (fun h23 => ?_)
        · refine lv_iload_n hx hb dX7_count_135 rfl (lv_at hl 2 rfl) ?_
          have hrun := hX.full (by omega)
          exact x_iret hC hr hk hP hD hS dX7_count_136 (show XQ mx Z (f_count ((v, now), (nl, op, wk, on, iz), R, (pq, pu, pf, pg), L, (B, t)) (nI j1)) _ _ from by
              rw [show f_count ((v, now), (nl, op, wk, on, iz), R, (pq, pu, pf, pg), L, (B, t)) (nI j1) = (nI k, ((v1, now1), (nl, op, wk, on, iz), R, (pq, pu, pf, pg), L, (B, t))) from (by simp only [f_count, hq_x1, Bool.and_true, Bool.true_and, Bool.and_false, Bool.false_and, Bool.and_self, if_true, Bool.false_eq_true, if_false, reduceIte, nI_clamp (show j1 < 2147483648 by omega), hrun])]
              exact ⟨rfl, ⟨hV1, hRV, hPV, hWV, hBV⟩, c0, c1, c2, c3, c4, c5, c6, c7, c8, c9, c10, c11, 0, bg, sl, fb, md, tp, tl, tr, wy, gs, gw, sv, gb, mk, wr, hM7, hRL, hBQ, rfl⟩)
        · refine lv_aload_n hx hb dX7_count_26 rfl (lv_at hl 0 rfl) ?_
          refine x_Vi (y := yX7_mayDo) (As := []) (wc := [(mx, .inr (7, [.int (nI 0), .ref c0, .int (nI nl), .ref c1, .ref c2, .ref c3, .ref c4, .int (nI now1), .ref c5, .ref c6, .ref c7, .int (nI pq), .int (nI pu), .int (nI pf), .int (nI pg), .int (nI bg), .int (nI L.length), .ref c8, .int (nI sl), .ref c9, .int (nI fb), .int (nI (bmany (B, t))), .ref c10, .int (nI t), .int (nI md), .ref c11, .int (nI tp), .int (nI tl), .int (nI tr)])), (c0, xI Z 4 v1), (c1, xI Z 24 op), (c2, xI Z 24 wk), (c3, xI Z 24 on), (c4, xI Z 24 iz), (c5, xJ Z 6 wr), (c6, xI Z 6 wy), (c7, xI Z 6 gs), (c8, xI Z 700 gw), (c9, xI Z 700 sv), (c10, xI Z 80001 gb), (c11, xI Z 6 mk)]) (wr := []) hC hP hD hS (c_X7_mayDo l Z mx c0 c1 c2 c3 c4 c5 c6 c7 c8 c9 c10 c11 0 nl now1 pq pu pf pg bg L.length sl fb (bmany (B, t)) t md tp tl tr v1 op wk on iz wy gs gw sv gb mk wr hV1) (gV wq_793 wq_790 wq_792 wq_15 wq_45) rfl kv_X7_mayDo rfl rfl ⟨rfl, rfl⟩ rfl hl.1 rfl ⟨Nat.le_of_ble_eq_true rfl, Nat.le_of_ble_eq_true rfl⟩ [0, 1, 2, 3, 4, 5, 6, 7, 8, 9, 10, 11, 12] ([] : List Nat) rfl rfl (by decide) (by decide) (by decide) rfl dX7_count_27 (fun r27 w1 H locs hw hP hD hS => ?_)
          rcases hw with ⟨hst, rfl, rfl⟩ | ⟨hm1, hm2, rfl, rfl⟩
          · have hP : va_P Z.1 vwCl [(mx, .inr (7, [.int (nI 0), .ref c0, .int (nI nl), .ref c1, .ref c2, .ref c3, .ref c4, .int (nI now1), .ref c5, .ref c6, .ref c7, .int (nI pq), .int (nI pu), .int (nI pf), .int (nI pg), .int (nI bg), .int (nI L.length), .ref c8, .int (nI sl), .ref c9, .int (nI fb), .int (nI (bmany (B, t))), .ref c10, .int (nI t), .int (nI md), .ref c11, .int (nI tp), .int (nI tl), .int (nI tr)])), (c0, xI Z 4 v1), (c1, xI Z 24 op), (c2, xI Z 24 wk), (c3, xI Z 24 on), (c4, xI Z 24 iz), (c5, xJ Z 6 wr), (c6, xI Z 6 wy), (c7, xI Z 6 gs), (c8, xI Z 700 gw), (c9, xI Z 700 sv), (c10, xI Z 80001 gb), (c11, xI Z 6 mk)] H := hP
            have hD : va_D A [(mx, .inr (7, [.int (nI 0), .ref c0, .int (nI nl), .ref c1, .ref c2, .ref c3, .ref c4, .int (nI now1), .ref c5, .ref c6, .ref c7, .int (nI pq), .int (nI pu), .int (nI pf), .int (nI pg), .int (nI bg), .int (nI L.length), .ref c8, .int (nI sl), .ref c9, .int (nI fb), .int (nI (bmany (B, t))), .ref c10, .int (nI t), .int (nI md), .ref c11, .int (nI tp), .int (nI tl), .int (nI tr)])), (c0, xI Z 4 v1), (c1, xI Z 24 op), (c2, xI Z 24 wk), (c3, xI Z 24 on), (c4, xI Z 24 iz), (c5, xJ Z 6 wr), (c6, xI Z 6 wy), (c7, xI Z 6 gs), (c8, xI Z 700 gw), (c9, xI Z 700 sv), (c10, xI Z 80001 gb), (c11, xI Z 6 mk)] := hD
            refine ln_if_eq (tgt := 135) hx hb dX7_count_30 (by decide) (by omega) (fun h30 => ?_) (fun h30 => False.elim (by omega))
            refine lv_iload_n hx hb dX7_count_135 rfl (lv_at hl 2 rfl) ?_
            have hrun := hX.stop hst
            exact x_iret hC hr hk hP hD hS dX7_count_136 (show XQ mx Z (f_count ((v, now), (nl, op, wk, on, iz), R, (pq, pu, pf, pg), L, (B, t)) (nI j1)) _ _ from by
                rw [show f_count ((v, now), (nl, op, wk, on, iz), R, (pq, pu, pf, pg), L, (B, t)) (nI j1) = (nI k, ((v1, now1), (nl, op, wk, on, iz), R, (pq, pu, pf, pg), L, (B, t))) from (by simp only [f_count, hq_x1, Bool.and_true, Bool.true_and, Bool.and_false, Bool.false_and, Bool.and_self, if_true, Bool.false_eq_true, if_false, reduceIte, nI_clamp (show j1 < 2147483648 by omega), hrun])]
                exact ⟨rfl, ⟨hV1, hRV, hPV, hWV, hBV⟩, c0, c1, c2, c3, c4, c5, c6, c7, c8, c9, c10, c11, 0, bg, sl, fb, md, tp, tl, tr, wy, gs, gw, sv, gb, mk, wr, hM7, hRL, hBQ, rfl⟩)
          · have hP : va_P Z.1 vwCl [(mx, .inr (7, [.int (nI 0), .ref c0, .int (nI nl), .ref c1, .ref c2, .ref c3, .ref c4, .int (nI now1), .ref c5, .ref c6, .ref c7, .int (nI pq), .int (nI pu), .int (nI pf), .int (nI pg), .int (nI bg), .int (nI L.length), .ref c8, .int (nI sl), .ref c9, .int (nI fb), .int (nI (bmany (B, t))), .ref c10, .int (nI t), .int (nI md), .ref c11, .int (nI tp), .int (nI tl), .int (nI tr)])), (c0, xI Z 4 v1), (c1, xI Z 24 op), (c2, xI Z 24 wk), (c3, xI Z 24 on), (c4, xI Z 24 iz), (c5, xJ Z 6 wr), (c6, xI Z 6 wy), (c7, xI Z 6 gs), (c8, xI Z 700 gw), (c9, xI Z 700 sv), (c10, xI Z 80001 gb), (c11, xI Z 6 mk)] H := hP
            have hD : va_D A [(mx, .inr (7, [.int (nI 0), .ref c0, .int (nI nl), .ref c1, .ref c2, .ref c3, .ref c4, .int (nI now1), .ref c5, .ref c6, .ref c7, .int (nI pq), .int (nI pu), .int (nI pf), .int (nI pg), .int (nI bg), .int (nI L.length), .ref c8, .int (nI sl), .ref c9, .int (nI fb), .int (nI (bmany (B, t))), .ref c10, .int (nI t), .int (nI md), .ref c11, .int (nI tp), .int (nI tl), .int (nI tr)])), (c0, xI Z 4 v1), (c1, xI Z 24 op), (c2, xI Z 24 wk), (c3, xI Z 24 on), (c4, xI Z 24 iz), (c5, xJ Z 6 wr), (c6, xI Z 6 wy), (c7, xI Z 6 gs), (c8, xI Z 700 gw), (c9, xI Z 700 sv), (c10, xI Z 80001 gb), (c11, xI Z 6 mk)] := hD
            obtain ⟨g5, g6, g7, g8⟩ := hV1.2.1 now1 hm1
            have g9 := hV1.2.2.1 (wk now1) (by omega)
            dsimp only at g9
            refine ln_if_eq (tgt := 135) hx hb dX7_count_30 (by decide) (by omega) (fun h30 => False.elim (by omega)) (fun h30 => ?_)
            refine lv_aload_n hx hb dX7_count_33 rfl (lv_at hl 0 rfl) ?_
            refine va_get (D := Z.1) (ci := 7) (v := .ref c2) (C := RX7) (T := TX7) (N := 29) hx hb hts iX7 hown hK hP 0 rfl rfl 4 (Nat.le_of_ble_eq_true rfl) qq_678 (fun _ h9 => h9) rfl dX7_count_34 ?_
            refine lv_aload_n hx hb dX7_count_37 rfl (lv_at hl 0 rfl) ?_
            refine va_get (D := Z.1) (ci := 7) (v := .int (nI now1)) (C := RX7) (T := TX7) (N := 29) hx hb hts iX7 hown hK hP 0 rfl rfl 7 (Nat.le_of_ble_eq_true rfl) qq_681 (fun _ h9 => h9) rfl dX7_count_38 ?_
            refine ln_iald hx hb hK hP 3 rfl (by omega) (by omega) dX7_count_41 ?_
            refine lv_istore_n (lv' := [(3, .int (nI (wk now1))), (0, .ref mx), (1, .int (nI j1)), (2, .int (nI k))]) hx hb dX7_count_42 rfl hl (by decide) rfl (fun ls hl => ?_)
            refine lv_aload_n hx hb dX7_count_43 rfl (lv_at hl 1 rfl) ?_
            refine va_get (D := Z.1) (ci := 7) (v := .ref c1) (C := RX7) (T := TX7) (N := 29) hx hb hts iX7 hown hK hP 0 rfl rfl 3 (Nat.le_of_ble_eq_true rfl) qq_677 (fun _ h9 => h9) rfl dX7_count_44 ?_
            refine lv_aload_n hx hb dX7_count_47 rfl (lv_at hl 1 rfl) ?_
            refine va_get (D := Z.1) (ci := 7) (v := .int (nI now1)) (C := RX7) (T := TX7) (N := 29) hx hb hts iX7 hown hK hP 0 rfl rfl 7 (Nat.le_of_ble_eq_true rfl) qq_681 (fun _ h9 => h9) rfl dX7_count_48 ?_
            refine ln_iald hx hb hK hP 2 rfl (by omega) (by omega) dX7_count_51 ?_
            refine ln_if_ne (tgt := 81) hx hb dX7_count_52 (by decide) (by omega) (fun h52 => ?_) (fun h52 => ?_)
            · refine lv_aload_n hx hb dX7_count_81 rfl (lv_at hl 1 rfl) ?_
              refine va_get (D := Z.1) (ci := 7) (v := .ref c0) (C := RX7) (T := TX7) (N := 29) hx hb hts iX7 hown hK hP 0 rfl rfl 1 (Nat.le_of_ble_eq_true rfl) qq_675 (fun _ h9 => h9) rfl dX7_count_82 ?_
              refine lv_iload_n hx hb dX7_count_85 rfl (lv_at hl 0 rfl) ?_
              refine ln_iald hx hb hK hP 1 rfl (by omega) (by omega) dX7_count_86 ?_
              refine ln_if_ne (tgt := 106) hx hb dX7_count_87 (by decide) (by omega) (fun h87 => ?_) (fun h87 => ?_)
              · refine lv_aload_n hx hb dX7_count_106 rfl (lv_at hl 1 rfl) ?_
                refine va_get (D := Z.1) (ci := 7) (v := .ref c0) (C := RX7) (T := TX7) (N := 29) hx hb hts iX7 hown hK hP 0 rfl rfl 1 (Nat.le_of_ble_eq_true rfl) qq_675 (fun _ h9 => h9) rfl dX7_count_107 ?_
                refine lv_iload_n hx hb dX7_count_110 rfl (lv_at hl 0 rfl) ?_
                refine lv_dup2_11 hx hb dX7_count_111 rfl rfl ?_
                refine ln_iald hx hb hK hP 1 rfl (by omega) (by omega) dX7_count_112 ?_
                refine ln_const 1 hx hb dX7_count_113 (by decide) ?_
                refine ln_isub ((v1 (wk now1)) - 1) hx hb dX7_count_114 (by omega) (by first | rfl | omega) ?_
                refine ln_iast hx hb hK hP hD hS 1 rfl (by omega) (by omega) dX7_count_115 (fun H locs hP hD hS => ?_)
                have hP : va_P Z.1 vwCl [(mx, .inr (7, [.int (nI 0), .ref c0, .int (nI nl), .ref c1, .ref c2, .ref c3, .ref c4, .int (nI now1), .ref c5, .ref c6, .ref c7, .int (nI pq), .int (nI pu), .int (nI pf), .int (nI pg), .int (nI bg), .int (nI L.length), .ref c8, .int (nI sl), .ref c9, .int (nI fb), .int (nI (bmany (B, t))), .ref c10, .int (nI t), .int (nI md), .ref c11, .int (nI tp), .int (nI tl), .int (nI tr)])), (c0, xI Z 4 (va_up v1 (wk now1) ((v1 (wk now1)) - 1))), (c1, xI Z 24 op), (c2, xI Z 24 wk), (c3, xI Z 24 on), (c4, xI Z 24 iz), (c5, xJ Z 6 wr), (c6, xI Z 6 wy), (c7, xI Z 6 gs), (c8, xI Z 700 gw), (c9, xI Z 700 sv), (c10, xI Z 80001 gb), (c11, xI Z 6 mk)] H := hP
                have hD : va_D A [(mx, .inr (7, [.int (nI 0), .ref c0, .int (nI nl), .ref c1, .ref c2, .ref c3, .ref c4, .int (nI now1), .ref c5, .ref c6, .ref c7, .int (nI pq), .int (nI pu), .int (nI pf), .int (nI pg), .int (nI bg), .int (nI L.length), .ref c8, .int (nI sl), .ref c9, .int (nI fb), .int (nI (bmany (B, t))), .ref c10, .int (nI t), .int (nI md), .ref c11, .int (nI tp), .int (nI tl), .int (nI tr)])), (c0, xI Z 4 (va_up v1 (wk now1) ((v1 (wk now1)) - 1))), (c1, xI Z 24 op), (c2, xI Z 24 wk), (c3, xI Z 24 on), (c4, xI Z 24 iz), (c5, xJ Z 6 wr), (c6, xI Z 6 wy), (c7, xI Z 6 gs), (c8, xI Z 700 gw), (c9, xI Z 700 sv), (c10, xI Z 80001 gb), (c11, xI Z 6 mk)] := hD
                refine lv_aload_n hx hb dX7_count_116 rfl (lv_at hl 1 rfl) ?_
                refine lv_aload_n hx hb dX7_count_117 rfl (lv_at hl 1 rfl) ?_
                refine va_get (D := Z.1) (ci := 7) (v := .ref c3) (C := RX7) (T := TX7) (N := 29) hx hb hts iX7 hown hK hP 0 rfl rfl 5 (Nat.le_of_ble_eq_true rfl) qq_679 (fun _ h9 => h9) rfl dX7_count_118 ?_
                refine lv_aload_n hx hb dX7_count_121 rfl (lv_at hl 1 rfl) ?_
                refine va_get (D := Z.1) (ci := 7) (v := .int (nI now1)) (C := RX7) (T := TX7) (N := 29) hx hb hts iX7 hown hK hP 0 rfl rfl 7 (Nat.le_of_ble_eq_true rfl) qq_681 (fun _ h9 => h9) rfl dX7_count_122 ?_
                refine ln_iald hx hb hK hP 4 rfl (by omega) (by omega) dX7_count_125 ?_
                refine va_put (D := Z.1) (ci := 7) (v := .int (nI (on now1))) (ty := tyX7 7) (C := RX7) (T := TX7) (N := 29) hx hb hts iX7 tyX7 tyX7_ok nmX7 hown hK hP hD hS 0 rfl rfl 7 (Nat.le_of_ble_eq_true rfl) qq_681 (fun _ h9 => h9) rfl (tyX7_ok 7 (Nat.le_of_ble_eq_true rfl)) rfl rfl (Nat.le_of_ble_eq_true rfl) dX7_count_126 (fun H locs hP hD hS => ?_)
                have hP : va_P Z.1 vwCl [(mx, .inr (7, [.int (nI 0), .ref c0, .int (nI nl), .ref c1, .ref c2, .ref c3, .ref c4, .int (nI (on now1)), .ref c5, .ref c6, .ref c7, .int (nI pq), .int (nI pu), .int (nI pf), .int (nI pg), .int (nI bg), .int (nI L.length), .ref c8, .int (nI sl), .ref c9, .int (nI fb), .int (nI (bmany (B, t))), .ref c10, .int (nI t), .int (nI md), .ref c11, .int (nI tp), .int (nI tl), .int (nI tr)])), (c0, xI Z 4 (va_up v1 (wk now1) ((v1 (wk now1)) - 1))), (c1, xI Z 24 op), (c2, xI Z 24 wk), (c3, xI Z 24 on), (c4, xI Z 24 iz), (c5, xJ Z 6 wr), (c6, xI Z 6 wy), (c7, xI Z 6 gs), (c8, xI Z 700 gw), (c9, xI Z 700 sv), (c10, xI Z 80001 gb), (c11, xI Z 6 mk)] H := hP
                have hD : va_D A [(mx, .inr (7, [.int (nI 0), .ref c0, .int (nI nl), .ref c1, .ref c2, .ref c3, .ref c4, .int (nI (on now1)), .ref c5, .ref c6, .ref c7, .int (nI pq), .int (nI pu), .int (nI pf), .int (nI pg), .int (nI bg), .int (nI L.length), .ref c8, .int (nI sl), .ref c9, .int (nI fb), .int (nI (bmany (B, t))), .ref c10, .int (nI t), .int (nI md), .ref c11, .int (nI tp), .int (nI tl), .int (nI tr)])), (c0, xI Z 4 (va_up v1 (wk now1) ((v1 (wk now1)) - 1))), (c1, xI Z 24 op), (c2, xI Z 24 wk), (c3, xI Z 24 on), (c4, xI Z 24 iz), (c5, xJ Z 6 wr), (c6, xI Z 6 wy), (c7, xI Z 6 gs), (c8, xI Z 700 gw), (c9, xI Z 700 sv), (c10, xI Z 80001 gb), (c11, xI Z 6 mk)] := hD
                have hstep : cstep nl op wk on iz (v1, now1) = some (va_up v1 (wk now1) (v1 (wk now1) - 1), on now1) := by unfold cstep; dsimp only; rw [if_pos hm1, if_neg h52, if_pos (by omega), if_neg h87]
                refine ln_iinc (k0 := 3) (k := 1) (k + 1) (lv' := [(2, .int (nI (k + 1))), (3, .int (nI (wk now1))), (0, .ref mx), (1, .int (nI j1))]) hx hb dX7_count_129 hl rfl rfl (by first | rfl | omega) (by decide) rfl (fun ls hl => ?_)
                refine lv_goto (tgt := 21) hx hb dX7_count_132 (by decide) ?_
                exact ih  (k + 1) (on now1) (va_up v1 (wk now1) (v1 (wk now1) - 1)) _ _ _ (hX.step (by omega) hstep) (cstep_ok hV1 hstep) (by omega) hP hD hS (lv_sub hl [2, 3, 0] rfl)
              · refine lv_aload_n hx hb dX7_count_90 rfl (lv_at hl 1 rfl) ?_
                refine lv_aload_n hx hb dX7_count_91 rfl (lv_at hl 1 rfl) ?_
                refine va_get (D := Z.1) (ci := 7) (v := .ref c4) (C := RX7) (T := TX7) (N := 29) hx hb hts iX7 hown hK hP 0 rfl rfl 6 (Nat.le_of_ble_eq_true rfl) qq_680 (fun _ h9 => h9) rfl dX7_count_92 ?_
                refine lv_aload_n hx hb dX7_count_95 rfl (lv_at hl 1 rfl) ?_
                refine va_get (D := Z.1) (ci := 7) (v := .int (nI now1)) (C := RX7) (T := TX7) (N := 29) hx hb hts iX7 hown hK hP 0 rfl rfl 7 (Nat.le_of_ble_eq_true rfl) qq_681 (fun _ h9 => h9) rfl dX7_count_96 ?_
                refine ln_iald hx hb hK hP 5 rfl (by omega) (by omega) dX7_count_99 ?_
                refine va_put (D := Z.1) (ci := 7) (v := .int (nI (iz now1))) (ty := tyX7 7) (C := RX7) (T := TX7) (N := 29) hx hb hts iX7 tyX7 tyX7_ok nmX7 hown hK hP hD hS 0 rfl rfl 7 (Nat.le_of_ble_eq_true rfl) qq_681 (fun _ h9 => h9) rfl (tyX7_ok 7 (Nat.le_of_ble_eq_true rfl)) rfl rfl (Nat.le_of_ble_eq_true rfl) dX7_count_100 (fun H locs hP hD hS => ?_)
                have hP : va_P Z.1 vwCl [(mx, .inr (7, [.int (nI 0), .ref c0, .int (nI nl), .ref c1, .ref c2, .ref c3, .ref c4, .int (nI (iz now1)), .ref c5, .ref c6, .ref c7, .int (nI pq), .int (nI pu), .int (nI pf), .int (nI pg), .int (nI bg), .int (nI L.length), .ref c8, .int (nI sl), .ref c9, .int (nI fb), .int (nI (bmany (B, t))), .ref c10, .int (nI t), .int (nI md), .ref c11, .int (nI tp), .int (nI tl), .int (nI tr)])), (c0, xI Z 4 v1), (c1, xI Z 24 op), (c2, xI Z 24 wk), (c3, xI Z 24 on), (c4, xI Z 24 iz), (c5, xJ Z 6 wr), (c6, xI Z 6 wy), (c7, xI Z 6 gs), (c8, xI Z 700 gw), (c9, xI Z 700 sv), (c10, xI Z 80001 gb), (c11, xI Z 6 mk)] H := hP
                have hD : va_D A [(mx, .inr (7, [.int (nI 0), .ref c0, .int (nI nl), .ref c1, .ref c2, .ref c3, .ref c4, .int (nI (iz now1)), .ref c5, .ref c6, .ref c7, .int (nI pq), .int (nI pu), .int (nI pf), .int (nI pg), .int (nI bg), .int (nI L.length), .ref c8, .int (nI sl), .ref c9, .int (nI fb), .int (nI (bmany (B, t))), .ref c10, .int (nI t), .int (nI md), .ref c11, .int (nI tp), .int (nI tl), .int (nI tr)])), (c0, xI Z 4 v1), (c1, xI Z 24 op), (c2, xI Z 24 wk), (c3, xI Z 24 on), (c4, xI Z 24 iz), (c5, xJ Z 6 wr), (c6, xI Z 6 wy), (c7, xI Z 6 gs), (c8, xI Z 700 gw), (c9, xI Z 700 sv), (c10, xI Z 80001 gb), (c11, xI Z 6 mk)] := hD
                refine lv_goto (tgt := 129) hx hb dX7_count_103 (by decide) ?_
                have hstep : cstep nl op wk on iz (v1, now1) = some (v1, iz now1) := by unfold cstep; dsimp only; rw [if_pos hm1, if_neg h52, if_pos (by omega), if_pos h87]
                refine ln_iinc (k0 := 3) (k := 1) (k + 1) (lv' := [(2, .int (nI (k + 1))), (3, .int (nI (wk now1))), (0, .ref mx), (1, .int (nI j1))]) hx hb dX7_count_129 hl rfl rfl (by first | rfl | omega) (by decide) rfl (fun ls hl => ?_)
                refine lv_goto (tgt := 21) hx hb dX7_count_132 (by decide) ?_
                exact ih  (k + 1) (iz now1) v1 _ _ _ (hX.step (by omega) hstep) (cstep_ok hV1 hstep) (by omega) hP hD hS (lv_sub hl [2, 3, 0] rfl)
            · refine lv_aload_n hx hb dX7_count_55 rfl (lv_at hl 1 rfl) ?_
              refine va_get (D := Z.1) (ci := 7) (v := .ref c0) (C := RX7) (T := TX7) (N := 29) hx hb hts iX7 hown hK hP 0 rfl rfl 1 (Nat.le_of_ble_eq_true rfl) qq_675 (fun _ h9 => h9) rfl dX7_count_56 ?_
              refine lv_iload_n hx hb dX7_count_59 rfl (lv_at hl 0 rfl) ?_
              refine lv_dup2_11 hx hb dX7_count_60 rfl rfl ?_
              refine ln_iald hx hb hK hP 1 rfl (by omega) (by omega) dX7_count_61 ?_
              refine ln_const 1 hx hb dX7_count_62 (by decide) ?_
              refine ln_iadd ((v1 (wk now1)) + 1) hx hb dX7_count_63 (by first | rfl | omega) ?_
              refine ln_iast hx hb hK hP hD hS 1 rfl (by omega) (by omega) dX7_count_64 (fun H locs hP hD hS => ?_)
              have hP : va_P Z.1 vwCl [(mx, .inr (7, [.int (nI 0), .ref c0, .int (nI nl), .ref c1, .ref c2, .ref c3, .ref c4, .int (nI now1), .ref c5, .ref c6, .ref c7, .int (nI pq), .int (nI pu), .int (nI pf), .int (nI pg), .int (nI bg), .int (nI L.length), .ref c8, .int (nI sl), .ref c9, .int (nI fb), .int (nI (bmany (B, t))), .ref c10, .int (nI t), .int (nI md), .ref c11, .int (nI tp), .int (nI tl), .int (nI tr)])), (c0, xI Z 4 (va_up v1 (wk now1) ((v1 (wk now1)) + 1))), (c1, xI Z 24 op), (c2, xI Z 24 wk), (c3, xI Z 24 on), (c4, xI Z 24 iz), (c5, xJ Z 6 wr), (c6, xI Z 6 wy), (c7, xI Z 6 gs), (c8, xI Z 700 gw), (c9, xI Z 700 sv), (c10, xI Z 80001 gb), (c11, xI Z 6 mk)] H := hP
              have hD : va_D A [(mx, .inr (7, [.int (nI 0), .ref c0, .int (nI nl), .ref c1, .ref c2, .ref c3, .ref c4, .int (nI now1), .ref c5, .ref c6, .ref c7, .int (nI pq), .int (nI pu), .int (nI pf), .int (nI pg), .int (nI bg), .int (nI L.length), .ref c8, .int (nI sl), .ref c9, .int (nI fb), .int (nI (bmany (B, t))), .ref c10, .int (nI t), .int (nI md), .ref c11, .int (nI tp), .int (nI tl), .int (nI tr)])), (c0, xI Z 4 (va_up v1 (wk now1) ((v1 (wk now1)) + 1))), (c1, xI Z 24 op), (c2, xI Z 24 wk), (c3, xI Z 24 on), (c4, xI Z 24 iz), (c5, xJ Z 6 wr), (c6, xI Z 6 wy), (c7, xI Z 6 gs), (c8, xI Z 700 gw), (c9, xI Z 700 sv), (c10, xI Z 80001 gb), (c11, xI Z 6 mk)] := hD
              refine lv_aload_n hx hb dX7_count_65 rfl (lv_at hl 1 rfl) ?_
              refine lv_aload_n hx hb dX7_count_66 rfl (lv_at hl 1 rfl) ?_
              refine va_get (D := Z.1) (ci := 7) (v := .ref c3) (C := RX7) (T := TX7) (N := 29) hx hb hts iX7 hown hK hP 0 rfl rfl 5 (Nat.le_of_ble_eq_true rfl) qq_679 (fun _ h9 => h9) rfl dX7_count_67 ?_
              refine lv_aload_n hx hb dX7_count_70 rfl (lv_at hl 1 rfl) ?_
              refine va_get (D := Z.1) (ci := 7) (v := .int (nI now1)) (C := RX7) (T := TX7) (N := 29) hx hb hts iX7 hown hK hP 0 rfl rfl 7 (Nat.le_of_ble_eq_true rfl) qq_681 (fun _ h9 => h9) rfl dX7_count_71 ?_
              refine ln_iald hx hb hK hP 4 rfl (by omega) (by omega) dX7_count_74 ?_
              refine va_put (D := Z.1) (ci := 7) (v := .int (nI (on now1))) (ty := tyX7 7) (C := RX7) (T := TX7) (N := 29) hx hb hts iX7 tyX7 tyX7_ok nmX7 hown hK hP hD hS 0 rfl rfl 7 (Nat.le_of_ble_eq_true rfl) qq_681 (fun _ h9 => h9) rfl (tyX7_ok 7 (Nat.le_of_ble_eq_true rfl)) rfl rfl (Nat.le_of_ble_eq_true rfl) dX7_count_75 (fun H locs hP hD hS => ?_)
              have hP : va_P Z.1 vwCl [(mx, .inr (7, [.int (nI 0), .ref c0, .int (nI nl), .ref c1, .ref c2, .ref c3, .ref c4, .int (nI (on now1)), .ref c5, .ref c6, .ref c7, .int (nI pq), .int (nI pu), .int (nI pf), .int (nI pg), .int (nI bg), .int (nI L.length), .ref c8, .int (nI sl), .ref c9, .int (nI fb), .int (nI (bmany (B, t))), .ref c10, .int (nI t), .int (nI md), .ref c11, .int (nI tp), .int (nI tl), .int (nI tr)])), (c0, xI Z 4 (va_up v1 (wk now1) ((v1 (wk now1)) + 1))), (c1, xI Z 24 op), (c2, xI Z 24 wk), (c3, xI Z 24 on), (c4, xI Z 24 iz), (c5, xJ Z 6 wr), (c6, xI Z 6 wy), (c7, xI Z 6 gs), (c8, xI Z 700 gw), (c9, xI Z 700 sv), (c10, xI Z 80001 gb), (c11, xI Z 6 mk)] H := hP
              have hD : va_D A [(mx, .inr (7, [.int (nI 0), .ref c0, .int (nI nl), .ref c1, .ref c2, .ref c3, .ref c4, .int (nI (on now1)), .ref c5, .ref c6, .ref c7, .int (nI pq), .int (nI pu), .int (nI pf), .int (nI pg), .int (nI bg), .int (nI L.length), .ref c8, .int (nI sl), .ref c9, .int (nI fb), .int (nI (bmany (B, t))), .ref c10, .int (nI t), .int (nI md), .ref c11, .int (nI tp), .int (nI tl), .int (nI tr)])), (c0, xI Z 4 (va_up v1 (wk now1) ((v1 (wk now1)) + 1))), (c1, xI Z 24 op), (c2, xI Z 24 wk), (c3, xI Z 24 on), (c4, xI Z 24 iz), (c5, xJ Z 6 wr), (c6, xI Z 6 wy), (c7, xI Z 6 gs), (c8, xI Z 700 gw), (c9, xI Z 700 sv), (c10, xI Z 80001 gb), (c11, xI Z 6 mk)] := hD
              refine lv_goto (tgt := 129) hx hb dX7_count_78 (by decide) ?_
              have hstep : cstep nl op wk on iz (v1, now1) = some (va_up v1 (wk now1) (v1 (wk now1) + 1), on now1) := by unfold cstep; dsimp only; rw [if_pos hm1, if_pos h52, if_pos (by omega)]
              refine ln_iinc (k0 := 3) (k := 1) (k + 1) (lv' := [(2, .int (nI (k + 1))), (3, .int (nI (wk now1))), (0, .ref mx), (1, .int (nI j1))]) hx hb dX7_count_129 hl rfl rfl (by first | rfl | omega) (by decide) rfl (fun ls hl => ?_)
              refine lv_goto (tgt := 21) hx hb dX7_count_132 (by decide) ?_
              exact ih  (k + 1) (on now1) (va_up v1 (wk now1) (v1 (wk now1) + 1)) _ _ _ (hX.step (by omega) hstep) (cstep_ok hV1 hstep) (by omega) hP hD hS (lv_sub hl [2, 3, 0] rfl)
    exact hloop21 ((j1 - 0) + 1) 0 now v _ _ _ (XR.beg _ _ _) hCV (Nat.lt_succ_self _) hP hD hS (lv_sub hl [1, 2, 0] rfl)
