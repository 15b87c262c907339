set_option maxHeartbeats 4000000 in
set_option maxRecDepth 100000 in
theorem c_X7_mayDo (l : Launch) (Z : xZ) (mx c0 c1 c2 c3 c4 c5 c6 c7 c8 c9 c10 c11 th nl now pq pu pf pg bg ln sl fb mn tn md tp tl tr : Nat) (v op wk on iz wy gs gw sv gb mk : Nat → Nat) (wr : Nat → Int32) (hCV : CV nl op wk on iz (v, now)) : xMi l Z yX7_mayDo vX7_mayDo ({ frames := 0, cells := 0, slots := 0, locals := 0 } : Room) [.ref mx] [(mx, .inr (7, [.int (nI th), .ref c0, .int (nI nl), .ref c1, .ref c2, .ref c3, .ref c4, .int (nI now), .ref c5, .ref c6, .ref c7, .int (nI pq), .int (nI pu), .int (nI pf), .int (nI pg), .int (nI bg), .int (nI ln), .ref c8, .int (nI sl), .ref c9, .int (nI fb), .int (nI mn), .ref c10, .int (nI tn), .int (nI md), .ref c11, .int (nI tp), .int (nI tl), .int (nI tr)])), (c0, xI Z 4 v), (c1, xI Z 24 op), (c2, xI Z 24 wk), (c3, xI Z 24 on), (c4, xI Z 24 iz), (c5, xJ Z 6 wr), (c6, xI Z 6 wy), (c7, xI Z 6 gs), (c8, xI Z 700 gw), (c9, xI Z 700 sv), (c10, xI Z 80001 gb), (c11, xI Z 6 mk)] (fun r w => (cstep nl op wk on iz (v, now) = none ∧ r = nI 0 ∧ w = [(mx, .inr (7, [.int (nI th), .ref c0, .int (nI nl), .ref c1, .ref c2, .ref c3, .ref c4, .int (nI now), .ref c5, .ref c6, .ref c7, .int (nI pq), .int (nI pu), .int (nI pf), .int (nI pg), .int (nI bg), .int (nI ln), .ref c8, .int (nI sl), .ref c9, .int (nI fb), .int (nI mn), .ref c10, .int (nI tn), .int (nI md), .ref c11, .int (nI tp), .int (nI tl), .int (nI tr)])), (c0, xI Z 4 v), (c1, xI Z 24 op), (c2, xI Z 24 wk), (c3, xI Z 24 on), (c4, xI Z 24 iz), (c5, xJ Z 6 wr), (c6, xI Z 6 wy), (c7, xI Z 6 gs), (c8, xI Z 700 gw), (c9, xI Z 700 sv), (c10, xI Z 80001 gb), (c11, xI Z 6 mk)]) ∨ (now < nl ∧ ((op now = 0 ∧ v (wk now) < 1000) ∨ op now = 1) ∧ r = nI 1 ∧ w = [(mx, .inr (7, [.int (nI th), .ref c0, .int (nI nl), .ref c1, .ref c2, .ref c3, .ref c4, .int (nI now), .ref c5, .ref c6, .ref c7, .int (nI pq), .int (nI pu), .int (nI pf), .int (nI pg), .int (nI bg), .int (nI ln), .ref c8, .int (nI sl), .ref c9, .int (nI fb), .int (nI mn), .ref c10, .int (nI tn), .int (nI md), .ref c11, .int (nI tp), .int (nI tl), .int (nI tr)])), (c0, xI Z 4 v), (c1, xI Z 24 op), (c2, xI Z 24 wk), (c3, xI Z 24 on), (c4, xI Z 24 iz), (c5, xJ Z 6 wr), (c6, xI Z 6 wy), (c7, xI Z 6 gs), (c8, xI Z 700 gw), (c9, xI Z 700 sv), (c10, xI Z 80001 gb), (c11, xI Z 6 mk)])) := by
  refine x_i (by decide) rfl (Nat.le_of_ble_eq_true rfl) ?_
  intro p e s m args below meth c ls A hC hr hk hl hP hD hS
  have hx := hC.1.1
  have hb := hC.1.2.1
  have hml := hC.1.2.2.1
  have hown : s.vm.findClass RX7 = some m.cls := hC.1.2.2.2.1
  have hts := hC.1.2.2.2.2
  have hK := hC.2.1
  have qq_681 := hts (Cond.fieldLink RX7 64 "TagTowerModel" "line" "I") (List.mem_cons_of_mem _ wq_681)
  have iX7 : ∀ w ∈ wsX70, w ∈ vX7_mayDo := fun w h => List.mem_cons_of_mem _ (wi_X7 w h)
  have qq_676 := hts (Cond.fieldLink RX7 61 "TagTowerModel" "lines" "I") (List.mem_cons_of_mem _ wq_676)
  have qq_677 := hts (Cond.fieldLink RX7 13 "TagTowerModel" "op" "[I") (List.mem_cons_of_mem _ wq_677)
  have qq_675 := hts (Cond.fieldLink RX7 7 "TagTowerModel" "counter" "[I") (List.mem_cons_of_mem _ wq_675)
  have qq_678 := hts (Cond.fieldLink RX7 16 "TagTowerModel" "which" "[I") (List.mem_cons_of_mem _ wq_678)
  have hl : lv_has ls 1 [(0, .ref mx)] := hl
  have hP : va_P Z.1 vwCl [(mx, .inr (7, [.int (nI th), .ref c0, .int (nI nl), .ref c1, .ref c2, .ref c3, .ref c4, .int (nI now), .ref c5, .ref c6, .ref c7, .int (nI pq), .int (nI pu), .int (nI pf), .int (nI pg), .int (nI bg), .int (nI ln), .ref c8, .int (nI sl), .ref c9, .int (nI fb), .int (nI mn), .ref c10, .int (nI tn), .int (nI md), .ref c11, .int (nI tp), .int (nI tl), .int (nI tr)])), (c0, xI Z 4 v), (c1, xI Z 24 op), (c2, xI Z 24 wk), (c3, xI Z 24 on), (c4, xI Z 24 iz), (c5, xJ Z 6 wr), (c6, xI Z 6 wy), (c7, xI Z 6 gs), (c8, xI Z 700 gw), (c9, xI Z 700 sv), (c10, xI Z 80001 gb), (c11, xI Z 6 mk)] s.heap := hP
  have hD : va_D A [(mx, .inr (7, [.int (nI th), .ref c0, .int (nI nl), .ref c1, .ref c2, .ref c3, .ref c4, .int (nI now), .ref c5, .ref c6, .ref c7, .int (nI pq), .int (nI pu), .int (nI pf), .int (nI pg), .int (nI bg), .int (nI ln), .ref c8, .int (nI sl), .ref c9, .int (nI fb), .int (nI mn), .ref c10, .int (nI tn), .int (nI md), .ref c11, .int (nI tp), .int (nI tl), .int (nI tr)])), (c0, xI Z 4 v), (c1, xI Z 24 op), (c2, xI Z 24 wk), (c3, xI Z 24 on), (c4, xI Z 24 iz), (c5, xJ Z 6 wr), (c6, xI Z 6 wy), (c7, xI Z 6 gs), (c8, xI Z 700 gw), (c9, xI Z 700 sv), (c10, xI Z 80001 gb), (c11, xI Z 6 mk)] := hD
  obtain ⟨g1, g2, g3, g4⟩ := id hCV
  dsimp only at g3 g4
  refine lv_aload_n hx hb dX7_mayDo_0 rfl (lv_at hl 0 rfl) ?_
  refine va_get (D := Z.1) (ci := 7) (v := .int (nI now)) (C := RX7) (T := TX7) (N := 29) hx hb hts iX7 hown hK hP 0 rfl rfl 7 (Nat.le_of_ble_eq_true rfl) qq_681 (fun _ h9 => h9) rfl dX7_mayDo_1 ?_
  refine lv_aload_n hx hb dX7_mayDo_4 rfl (lv_at hl 0 rfl) ?_
  refine va_get (D := Z.1) (ci := 7) (v := .int (nI nl)) (C := RX7) (T := TX7) (N := 29) hx hb hts iX7 hown hK hP 0 rfl rfl 2 (Nat.le_of_ble_eq_true rfl) qq_676 (fun _ h9 => h9) rfl dX7_mayDo_5 ?_
  refine ln_icmp_ge (tgt := 60) hx hb dX7_mayDo_8 (by decide) (by omega) (by omega) (fun h8 => ?_) (fun h8 => ?_)
  · refine ln_const 0 hx hb dX7_mayDo_60 (by decide) ?_
    exact x_zret hC hr rfl hk hP hD hS dX7_mayDo_61 (Or.inl ⟨by unfold cstep; dsimp only; rw [if_neg (by omega)], rfl, rfl⟩)
  · obtain ⟨g5, g6, g7, g8⟩ := g2 now h8
    have g9 := g3 (wk now) (by omega)
    refine lv_aload_n hx hb dX7_mayDo_11 rfl (lv_at hl 0 rfl) ?_
    refine va_get (D := Z.1) (ci := 7) (v := .ref c1) (C := RX7) (T := TX7) (N := 29) hx hb hts iX7 hown hK hP 0 rfl rfl 3 (Nat.le_of_ble_eq_true rfl) qq_677 (fun _ h9 => h9) rfl dX7_mayDo_12 ?_
    refine lv_aload_n hx hb dX7_mayDo_15 rfl (lv_at hl 0 rfl) ?_
    refine va_get (D := Z.1) (ci := 7) (v := .int (nI now)) (C := RX7) (T := TX7) (N := 29) hx hb hts iX7 hown hK hP 0 rfl rfl 7 (Nat.le_of_ble_eq_true rfl) qq_681 (fun _ h9 => h9) rfl dX7_mayDo_16 ?_
    refine ln_iald hx hb hK hP 2 rfl (by omega) (by omega) dX7_mayDo_19 ?_
    refine ln_const 2 hx hb dX7_mayDo_20 (by decide) ?_
    refine ln_icmp_eq (tgt := 60) hx hb dX7_mayDo_21 (by decide) (by omega) (by omega) (fun h21 => ?_) (fun h21 => ?_)
    · refine ln_const 0 hx hb dX7_mayDo_60 (by decide) ?_
      exact x_zret hC hr rfl hk hP hD hS dX7_mayDo_61 (Or.inl ⟨by unfold cstep; dsimp only; rw [if_pos h8, if_neg (by omega), if_neg (by omega)], rfl, rfl⟩)
    · refine lv_aload_n hx hb dX7_mayDo_24 rfl (lv_at hl 0 rfl) ?_
      refine va_get (D := Z.1) (ci := 7) (v := .ref c1) (C := RX7) (T := TX7) (N := 29) hx hb hts iX7 hown hK hP 0 rfl rfl 3 (Nat.le_of_ble_eq_true rfl) qq_677 (fun _ h9 => h9) rfl dX7_mayDo_25 ?_
      refine lv_aload_n hx hb dX7_mayDo_28 rfl (lv_at hl 0 rfl) ?_
      refine va_get (D := Z.1) (ci := 7) (v := .int (nI now)) (C := RX7) (T := TX7) (N := 29) hx hb hts iX7 hown hK hP 0 rfl rfl 7 (Nat.le_of_ble_eq_true rfl) qq_681 (fun _ h9 => h9) rfl dX7_mayDo_29 ?_
      refine ln_iald hx hb hK hP 2 rfl (by omega) (by omega) dX7_mayDo_32 ?_
      refine ln_if_ne (tgt := 56) hx hb dX7_mayDo_33 (by decide) (by omega) (fun h33 => ?_) (fun h33 => ?_)
      · refine ln_const 1 hx hb dX7_mayDo_56 (by decide) ?_
        refine lv_goto (tgt := 61) hx hb dX7_mayDo_57 (by decide) ?_
        exact x_zret hC hr rfl hk hP hD hS dX7_mayDo_61 (Or.inr ⟨h8, by omega, rfl, rfl⟩)
      · refine lv_aload_n hx hb dX7_mayDo_36 rfl (lv_at hl 0 rfl) ?_
        refine va_get (D := Z.1) (ci := 7) (v := .ref c0) (C := RX7) (T := TX7) (N := 29) hx hb hts iX7 hown hK hP 0 rfl rfl 1 (Nat.le_of_ble_eq_true rfl) qq_675 (fun _ h9 => h9) rfl dX7_mayDo_37 ?_
        refine lv_aload_n hx hb dX7_mayDo_40 rfl (lv_at hl 0 rfl) ?_
        refine va_get (D := Z.1) (ci := 7) (v := .ref c2) (C := RX7) (T := TX7) (N := 29) hx hb hts iX7 hown hK hP 0 rfl rfl 4 (Nat.le_of_ble_eq_true rfl) qq_678 (fun _ h9 => h9) rfl dX7_mayDo_41 ?_
        refine lv_aload_n hx hb dX7_mayDo_44 rfl (lv_at hl 0 rfl) ?_
        refine va_get (D := Z.1) (ci := 7) (v := .int (nI now)) (C := RX7) (T := TX7) (N := 29) hx hb hts iX7 hown hK hP 0 rfl rfl 7 (Nat.le_of_ble_eq_true rfl) qq_681 (fun _ h9 => h9) rfl dX7_mayDo_45 ?_
        refine ln_iald hx hb hK hP 3 rfl (by omega) (by omega) dX7_mayDo_48 ?_
        refine ln_iald hx hb hK hP 1 rfl (by omega) (by omega) dX7_mayDo_49 ?_
        refine ln_sipush 1000 hx hb dX7_mayDo_50 (by decide) ?_
        refine ln_icmp_eq (tgt := 60) hx hb dX7_mayDo_53 (by decide) (by omega) (by omega) (fun h53 => ?_) (fun h53 => ?_)
        · refine ln_const 0 hx hb dX7_mayDo_60 (by decide) ?_
          exact x_zret hC hr rfl hk hP hD hS dX7_mayDo_61 (Or.inl ⟨by unfold cstep; dsimp only; rw [if_pos h8, if_pos h33, if_neg (by omega)], rfl, rfl⟩)
        · refine ln_const 1 hx hb dX7_mayDo_56 (by decide) ?_
          refine lv_goto (tgt := 61) hx hb dX7_mayDo_57 (by decide) ?_
          exact x_zret hC hr rfl hk hP hD hS dX7_mayDo_61 (Or.inr ⟨h8, by omega, rfl, rfl⟩)

set_option maxHeartbeats 4000000 in
set_option maxRecDepth 100000 in
theorem c_X7_mayMove (l : Launch) (Z : xZ) (mx c0 c1 c2 c3 c4 c5 c6 c7 c8 c9 c10 c11 th nl now pq pu pf pg bg ln sl fb mn tn md tp tl tr : Nat) (v op wk on iz wy gs gw sv gb mk : Nat → Nat) (wr : Nat → Int32) (R : xRl) (hM7 : MR7 R wr wy gs) (hRV : RV R) (hPV : PV (pq, pu, pf, pg)) : xMi l Z yX7_mayMove vX7_mayMove ({ frames := 0, cells := 0, slots := 0, locals := 0 } : Room) [.ref mx] [(mx, .inr (7, [.int (nI th), .ref c0, .int (nI nl), .ref c1, .ref c2, .ref c3, .ref c4, .int (nI now), .ref c5, .ref c6, .ref c7, .int (nI pq), .int (nI pu), .int (nI pf), .int (nI pg), .int (nI bg), .int (nI ln), .ref c8, .int (nI sl), .ref c9, .int (nI fb), .int (nI mn), .ref c10, .int (nI tn), .int (nI md), .ref c11, .int (nI tp), .int (nI tl), .int (nI tr)])), (c0, xI Z 4 v), (c1, xI Z 24 op), (c2, xI Z 24 wk), (c3, xI Z 24 on), (c4, xI Z 24 iz), (c5, xJ Z 6 wr), (c6, xI Z 6 wy), (c7, xI Z 6 gs), (c8, xI Z 700 gw), (c9, xI Z 700 sv), (c10, xI Z 80001 gb), (c11, xI Z 6 mk)] (fun r v9 => (mstep R (pq, pu, pf, pg) = none ∧ r = nI 0 ∧ v9 = [(mx, .inr (7, [.int (nI th), .ref c0, .int (nI nl), .ref c1, .ref c2, .ref c3, .ref c4, .int (nI now), .ref c5, .ref c6, .ref c7, .int (nI pq), .int (nI pu), .int (nI pf), .int (nI pg), .int (nI bg), .int (nI ln), .ref c8, .int (nI sl), .ref c9, .int (nI fb), .int (nI mn), .ref c10, .int (nI tn), .int (nI md), .ref c11, .int (nI tp), .int (nI tl), .int (nI tr)])), (c0, xI Z 4 v), (c1, xI Z 24 op), (c2, xI Z 24 wk), (c3, xI Z 24 on), (c4, xI Z 24 iz), (c5, xJ Z 6 wr), (c6, xI Z 6 wy), (c7, xI Z 6 gs), (c8, xI Z 700 gw), (c9, xI Z 700 sv), (c10, xI Z 80001 gb), (c11, xI Z 6 mk)]) ∨ (∃ w y t, R (2 * pq + pu) = some (w, y, t) ∧ (y = 1 → 2 * pf + w ≤ 100000) ∧ (¬ y = 1 → 2 * pg + w ≤ 100000) ∧ r = nI 1 ∧ v9 = [(mx, .inr (7, [.int (nI th), .ref c0, .int (nI nl), .ref c1, .ref c2, .ref c3, .ref c4, .int (nI now), .ref c5, .ref c6, .ref c7, .int (nI pq), .int (nI pu), .int (nI pf), .int (nI pg), .int (nI bg), .int (nI ln), .ref c8, .int (nI sl), .ref c9, .int (nI fb), .int (nI mn), .ref c10, .int (nI tn), .int (nI md), .ref c11, .int (nI tp), .int (nI tl), .int (nI tr)])), (c0, xI Z 4 v), (c1, xI Z 24 op), (c2, xI Z 24 wk), (c3, xI Z 24 on), (c4, xI Z 24 iz), (c5, xJ Z 6 wr), (c6, xI Z 6 wy), (c7, xI Z 6 gs), (c8, xI Z 700 gw), (c9, xI Z 700 sv), (c10, xI Z 80001 gb), (c11, xI Z 6 mk)])) := by
  refine x_i (by decide) rfl (Nat.le_of_ble_eq_true rfl) ?_
  intro p e s m args below meth c ls A hC hr hk hl hP hD hS
  have hx := hC.1.1
  have hb := hC.1.2.1
  have hml := hC.1.2.2.1
  have hown : s.vm.findClass RX7 = some m.cls := hC.1.2.2.2.1
  have hts := hC.1.2.2.2.2
  have hK := hC.2.1
  have qq_685 := hts (Cond.fieldLink RX7 81 "TagTowerModel" "state" "I") (List.mem_cons_of_mem _ wq_685)
  have iX7 : ∀ w ∈ wsX70, w ∈ vX7_mayMove := fun w h => List.mem_cons_of_mem _ (wi_X7 w h)
  have qq_686 := hts (Cond.fieldLink RX7 84 "TagTowerModel" "sign" "I") (List.mem_cons_of_mem _ wq_686)
  have qq_682 := hts (Cond.fieldLink RX7 25 "TagTowerModel" "writes" "[I") (List.mem_cons_of_mem _ wq_682)
  have qq_683 := hts (Cond.fieldLink RX7 28 "TagTowerModel" "way" "[I") (List.mem_cons_of_mem _ wq_683)
  have qq_688 := hts (Cond.fieldLink RX7 90 "TagTowerModel" "right" "I") (List.mem_cons_of_mem _ wq_688)
  have qq_826 := hts (Cond.constant RX7 93 (100000)) (List.mem_cons_of_mem _ wq_826)
  have qq_687 := hts (Cond.fieldLink RX7 87 "TagTowerModel" "left" "I") (List.mem_cons_of_mem _ wq_687)
  have hl : lv_has ls 2 [(0, .ref mx)] := hl
  have hP : va_P Z.1 vwCl [(mx, .inr (7, [.int (nI th), .ref c0, .int (nI nl), .ref c1, .ref c2, .ref c3, .ref c4, .int (nI now), .ref c5, .ref c6, .ref c7, .int (nI pq), .int (nI pu), .int (nI pf), .int (nI pg), .int (nI bg), .int (nI ln), .ref c8, .int (nI sl), .ref c9, .int (nI fb), .int (nI mn), .ref c10, .int (nI tn), .int (nI md), .ref c11, .int (nI tp), .int (nI tl), .int (nI tr)])), (c0, xI Z 4 v), (c1, xI Z 24 op), (c2, xI Z 24 wk), (c3, xI Z 24 on), (c4, xI Z 24 iz), (c5, xJ Z 6 wr), (c6, xI Z 6 wy), (c7, xI Z 6 gs), (c8, xI Z 700 gw), (c9, xI Z 700 sv), (c10, xI Z 80001 gb), (c11, xI Z 6 mk)] s.heap := hP
  have hD : va_D A [(mx, .inr (7, [.int (nI th), .ref c0, .int (nI nl), .ref c1, .ref c2, .ref c3, .ref c4, .int (nI now), .ref c5, .ref c6, .ref c7, .int (nI pq), .int (nI pu), .int (nI pf), .int (nI pg), .int (nI bg), .int (nI ln), .ref c8, .int (nI sl), .ref c9, .int (nI fb), .int (nI mn), .ref c10, .int (nI tn), .int (nI md), .ref c11, .int (nI tp), .int (nI tl), .int (nI tr)])), (c0, xI Z 4 v), (c1, xI Z 24 op), (c2, xI Z 24 wk), (c3, xI Z 24 on), (c4, xI Z 24 iz), (c5, xJ Z 6 wr), (c6, xI Z 6 wy), (c7, xI Z 6 gs), (c8, xI Z 700 gw), (c9, xI Z 700 sv), (c10, xI Z 80001 gb), (c11, xI Z 6 mk)] := hD
  obtain ⟨hp1, hp2, hp3, hp4⟩ := id hPV
  dsimp only at hp1 hp2 hp3 hp4
  rcases hcase : R (2 * pq + pu) with _ | ⟨w, y, t⟩
  · obtain ⟨hp1, hp2, hp3, hp4⟩ := id hPV
    dsimp only at hp1 hp2 hp3 hp4
    refine ln_const 2 hx hb dX7_mayMove_0 (by decide) ?_
    refine lv_aload_n hx hb dX7_mayMove_1 rfl (lv_at hl 0 rfl) ?_
    refine va_get (D := Z.1) (ci := 7) (v := .int (nI pq)) (C := RX7) (T := TX7) (N := 29) hx hb hts iX7 hown hK hP 0 rfl rfl 11 (Nat.le_of_ble_eq_true rfl) qq_685 (fun _ h9 => h9) rfl dX7_mayMove_2 ?_
    refine ln_imul (2 * pq) hx hb dX7_mayMove_5 (by first | rfl | omega) ?_
    refine lv_aload_n hx hb dX7_mayMove_6 rfl (lv_at hl 0 rfl) ?_
    refine va_get (D := Z.1) (ci := 7) (v := .int (nI pu)) (C := RX7) (T := TX7) (N := 29) hx hb hts iX7 hown hK hP 0 rfl rfl 12 (Nat.le_of_ble_eq_true rfl) qq_686 (fun _ h9 => h9) rfl dX7_mayMove_7 ?_
    refine ln_iadd ((2 * pq) + pu) hx hb dX7_mayMove_10 (by first | rfl | omega) ?_
    refine lv_istore_n (lv' := [(1, .int (nI ((2 * pq) + pu))), (0, .ref mx)]) hx hb dX7_mayMove_11 rfl hl (by decide) rfl (fun ls hl => ?_)
    refine lv_aload_n hx hb dX7_mayMove_12 rfl (lv_at hl 1 rfl) ?_
    refine va_get (D := Z.1) (ci := 7) (v := .ref c5) (C := RX7) (T := TX7) (N := 29) hx hb hts iX7 hown hK hP 0 rfl rfl 8 (Nat.le_of_ble_eq_true rfl) qq_682 (fun _ h9 => h9) rfl dX7_mayMove_13 ?_
    refine lv_iload_n hx hb dX7_mayMove_16 rfl (lv_at hl 0 rfl) ?_
    refine ln_jald hx hb hK hP 6 rfl (by omega) (by omega) dX7_mayMove_17 ?_
    refine ln_top (y := (-1)) (hM7.1 _ (by omega) hcase) ?_
    refine lv_if_lt (tgt := 60) hx hb dX7_mayMove_18 (by decide) (fun h18 => ?_) (fun h18 => False.elim (by revert h18; decide))
    refine ln_const 0 hx hb dX7_mayMove_60 (by decide) ?_
    exact x_zret hC hr rfl hk hP hD hS dX7_mayMove_61 (Or.inl ⟨by unfold mstep; dsimp only; rw [hcase], rfl, rfl⟩)
  · obtain ⟨v1, v2, v3⟩ := hRV _ _ hcase
    dsimp only at v1 v2 v3
    obtain ⟨e1, e2, e3⟩ := hM7.2 _ _ (by omega) hcase
    dsimp only at e1 e2 e3
    obtain ⟨hp1, hp2, hp3, hp4⟩ := id hPV
    dsimp only at hp1 hp2 hp3 hp4
    refine ln_const 2 hx hb dX7_mayMove_0 (by decide) ?_
    refine lv_aload_n hx hb dX7_mayMove_1 rfl (lv_at hl 0 rfl) ?_
    refine va_get (D := Z.1) (ci := 7) (v := .int (nI pq)) (C := RX7) (T := TX7) (N := 29) hx hb hts iX7 hown hK hP 0 rfl rfl 11 (Nat.le_of_ble_eq_true rfl) qq_685 (fun _ h9 => h9) rfl dX7_mayMove_2 ?_
    refine ln_imul (2 * pq) hx hb dX7_mayMove_5 (by first | rfl | omega) ?_
    refine lv_aload_n hx hb dX7_mayMove_6 rfl (lv_at hl 0 rfl) ?_
    refine va_get (D := Z.1) (ci := 7) (v := .int (nI pu)) (C := RX7) (T := TX7) (N := 29) hx hb hts iX7 hown hK hP 0 rfl rfl 12 (Nat.le_of_ble_eq_true rfl) qq_686 (fun _ h9 => h9) rfl dX7_mayMove_7 ?_
    refine ln_iadd ((2 * pq) + pu) hx hb dX7_mayMove_10 (by first | rfl | omega) ?_
    refine lv_istore_n (lv' := [(1, .int (nI ((2 * pq) + pu))), (0, .ref mx)]) hx hb dX7_mayMove_11 rfl hl (by decide) rfl (fun ls hl => ?_)
    refine lv_aload_n hx hb dX7_mayMove_12 rfl (lv_at hl 1 rfl) ?_
    refine va_get (D := Z.1) (ci := 7) (v := .ref c5) (C := RX7) (T := TX7) (N := 29) hx hb hts iX7 hown hK hP 0 rfl rfl 8 (Nat.le_of_ble_eq_true rfl) qq_682 (fun _ h9 => h9) rfl dX7_mayMove_13 ?_
    refine lv_iload_n hx hb dX7_mayMove_16 rfl (lv_at hl 0 rfl) ?_
    refine ln_jald hx hb hK hP 6 rfl (by omega) (by omega) dX7_mayMove_17 ?_
    refine ln_top (y := nI w) (e1) ?_
    refine ln_if_lt (tgt := 60) hx hb dX7_mayMove_18 (by decide) (by omega) ?_
    refine ln_const 2 hx hb dX7_mayMove_21 (by decide) ?_
    refine lv_aload_n hx hb dX7_mayMove_22 rfl (lv_at hl 1 rfl) ?_
    refine va_get (D := Z.1) (ci := 7) (v := .ref c6) (C := RX7) (T := TX7) (N := 29) hx hb hts iX7 hown hK hP 0 rfl rfl 9 (Nat.le_of_ble_eq_true rfl) qq_683 (fun _ h9 => h9) rfl dX7_mayMove_23 ?_
    refine lv_iload_n hx hb dX7_mayMove_26 rfl (lv_at hl 0 rfl) ?_
    refine ln_iald hx hb hK hP 7 rfl (by omega) (by omega) dX7_mayMove_27 ?_
    refine ln_top (y := nI y) (by rw [e2]) ?_
    refine ln_const 1 hx hb dX7_mayMove_28 (by decide) ?_
    refine ln_icmp_ne (tgt := 39) hx hb dX7_mayMove_29 (by decide) (by omega) (by omega) (fun h29 => ?_) (fun h29 => ?_)
    · refine lv_aload_n hx hb dX7_mayMove_39 rfl (lv_at hl 1 rfl) ?_
      refine va_get (D := Z.1) (ci := 7) (v := .int (nI pg)) (C := RX7) (T := TX7) (N := 29) hx hb hts iX7 hown hK hP 0 rfl rfl 14 (Nat.le_of_ble_eq_true rfl) qq_688 (fun _ h9 => h9) rfl dX7_mayMove_40 ?_
      refine ln_imul (2 * pg) hx hb dX7_mayMove_43 (by first | rfl | omega) ?_
      refine lv_aload_n hx hb dX7_mayMove_44 rfl (lv_at hl 1 rfl) ?_
      refine va_get (D := Z.1) (ci := 7) (v := .ref c5) (C := RX7) (T := TX7) (N := 29) hx hb hts iX7 hown hK hP 0 rfl rfl 8 (Nat.le_of_ble_eq_true rfl) qq_682 (fun _ h9 => h9) rfl dX7_mayMove_45 ?_
      refine lv_iload_n hx hb dX7_mayMove_48 rfl (lv_at hl 0 rfl) ?_
      refine ln_jald hx hb hK hP 6 rfl (by omega) (by omega) dX7_mayMove_49 ?_
      refine ln_top (y := nI w) (e1) ?_
      refine ln_iadd ((2 * pg) + w) hx hb dX7_mayMove_50 (by first | rfl | omega) ?_
      refine lv_ldc (v := nI 100000) hx hb hown qq_826 dX7_mayMove_51 ?_
      refine ln_icmp_gt (tgt := 60) hx hb dX7_mayMove_53 (by decide) (by omega) (by omega) (fun h53 => ?_) (fun h53 => ?_)
      · refine ln_const 0 hx hb dX7_mayMove_60 (by decide) ?_
        exact x_zret hC hr rfl hk hP hD hS dX7_mayMove_61 (Or.inl ⟨by unfold mstep; dsimp only; rw [hcase]; dsimp only; rw [if_neg h29, if_neg (by omega)], rfl, rfl⟩)
      · refine ln_const 1 hx hb dX7_mayMove_56 (by decide) ?_
        refine lv_goto (tgt := 61) hx hb dX7_mayMove_57 (by decide) ?_
        exact x_zret hC hr rfl hk hP hD hS dX7_mayMove_61 (Or.inr ⟨w, y, t, rfl, fun q => by omega, fun q => by omega, rfl, rfl⟩)
    · refine lv_aload_n hx hb dX7_mayMove_32 rfl (lv_at hl 1 rfl) ?_
      refine va_get (D := Z.1) (ci := 7) (v := .int (nI pf)) (C := RX7) (T := TX7) (N := 29) hx hb hts iX7 hown hK hP 0 rfl rfl 13 (Nat.le_of_ble_eq_true rfl) qq_687 (fun _ h9 => h9) rfl dX7_mayMove_33 ?_
      refine lv_goto (tgt := 43) hx hb dX7_mayMove_36 (by decide) ?_
      refine ln_imul (2 * pf) hx hb dX7_mayMove_43 (by first | rfl | omega) ?_
      refine lv_aload_n hx hb dX7_mayMove_44 rfl (lv_at hl 1 rfl) ?_
      refine va_get (D := Z.1) (ci := 7) (v := .ref c5) (C := RX7) (T := TX7) (N := 29) hx hb hts iX7 hown hK hP 0 rfl rfl 8 (Nat.le_of_ble_eq_true rfl) qq_682 (fun _ h9 => h9) rfl dX7_mayMove_45 ?_
      refine lv_iload_n hx hb dX7_mayMove_48 rfl (lv_at hl 0 rfl) ?_
      refine ln_jald hx hb hK hP 6 rfl (by omega) (by omega) dX7_mayMove_49 ?_
      refine ln_top (y := nI w) (e1) ?_
      refine ln_iadd ((2 * pf) + w) hx hb dX7_mayMove_50 (by first | rfl | omega) ?_
      refine lv_ldc (v := nI 100000) hx hb hown qq_826 dX7_mayMove_51 ?_
      refine ln_icmp_gt (tgt := 60) hx hb dX7_mayMove_53 (by decide) (by omega) (by omega) (fun h53 => ?_) (fun h53 => ?_)
      · refine ln_const 0 hx hb dX7_mayMove_60 (by decide) ?_
        exact x_zret hC hr rfl hk hP hD hS dX7_mayMove_61 (Or.inl ⟨by unfold mstep; dsimp only; rw [hcase]; dsimp only; rw [if_pos h29, if_neg (by omega)], rfl, rfl⟩)
      · refine ln_const 1 hx hb dX7_mayMove_56 (by decide) ?_
        refine lv_goto (tgt := 61) hx hb dX7_mayMove_57 (by decide) ?_
        exact x_zret hC hr rfl hk hP hD hS dX7_mayMove_61 (Or.inr ⟨w, y, t, rfl, fun q => by omega, fun q => by omega, rfl, rfl⟩)

theorem BQ.put {fb n : Nat} {gb : Nat → Nat} {F : Nat → Nat} (h : BQ fb gb n F) (hn : n < 80000) : BQ fb (va_up gb ((fb + n) % 80001) (F n)) (n + 1) F := by
  refine ⟨h.1, hn, fun i hi => ?_⟩
  unfold va_up
  by_cases e : i = n
  · subst e; rw [if_pos rfl]
  · rw [if_neg (fun q => e (mod_inj (by omega) (by omega) q))]
    exact h.2.2 i (by omega)
theorem BQ.drop1 {fb n : Nat} {gb : Nat → Nat} {F : Nat → Nat} (h : BQ fb gb n F) (hn : 1 ≤ n) : BQ ((fb + 1) % 80001) gb (n - 1) (fun i => F (i + 1)) := by
  refine ⟨Nat.mod_lt _ (by decide), by have := h.2.1; omega, fun i hi => ?_⟩
  rw [Nat.mod_add_mod, Nat.add_assoc, Nat.add_comm 1 i]
  exact h.2.2 (i + 1) (by omega)
theorem BQ.congr {fb n : Nat} {gb : Nat → Nat} {F G : Nat → Nat} (h : BQ fb gb n F) (e : ∀ i, i < n → G i = F i) : BQ fb gb n G := ⟨h.1, h.2.1, fun i hi => by rw [h.2.2 i hi, e i hi]⟩
theorem BQ.nil {fb : Nat} {gb : Nat → Nat} {F : Nat → Nat} (h : fb < 80001) : BQ fb gb 0 F := ⟨h, Nat.zero_le _, fun i hi => absurd hi (Nat.not_lt_zero _)⟩
theorem bitf_at (B : List Nat) (j : Nat) {k : Nat} (hk : k < 121) : bitf B (121 * j + k) = if B.getD j 0 = k then 1 else 0 := by
  unfold bitf
  rw [show (121 * j + k) / 121 = j by omega, show (121 * j + k) % 121 = k by omega]
theorem bitf_app {B P : List Nat} {i : Nat} (h : i < 121 * B.length) : bitf (B ++ P) i = bitf B i := by
  unfold bitf
  rw [getD_app, if_pos (show i / 121 < B.length by omega)]
theorem bitf_new {B P : List Nat} {i k : Nat} (hk : k < 121) : bitf (B ++ P) (121 * (B.length + i) + k) = if P.getD i 0 = k then 1 else 0 := by
  rw [bitf_at _ _ hk, getD_app, if_neg (show ¬ B.length + i < B.length by omega), show B.length + i - B.length = i by omega]
/-- the bits as they are told -/
abbrev BF (s : List Nat × Nat) : Nat → Nat := fun i => bitf s.1 (i + s.2 % 121)
theorem bq_end {B P : List Nat} {t fb : Nat} {gb : Nat → Nat} (ht : t < 242) (hB : 1 ≤ B.length) (h : BQ fb gb (121 * B.length - t % 121 - 1 + 121 * P.length) (fun i => bitf (B ++ P) (i + t % 121 + 1))) : (121 * B.length - t % 121 - 1 + 121 * P.length = bmany (bpass (B ++ P, t))) ∧ (t + 1) % 242 = (bpass (B ++ P, t)).2 ∧ BQ fb gb (bmany (bpass (B ++ P, t))) (BF (bpass (B ++ P, t))) := by
  have e1 : 121 * B.length - t % 121 - 1 + 121 * P.length = bmany (bpass (B ++ P, t)) := by
    unfold bmany bpass
    dsimp only
    split <;> split <;> (try simp only [List.length_drop]) <;> simp only [List.length_append] <;> omega
  refine ⟨e1, ?_, ?_⟩
  · unfold bpass
    dsimp only
    split <;> omega
  · rw [← e1]
    refine h.congr (fun i hi => ?_)
    unfold BF bpass
    dsimp only
    by_cases c : (t + 1) % 121 = 0
    · rw [if_pos c]
      have e2 : (if t + 1 = 242 then 0 else t + 1) % 121 = 0 := by split <;> omega
      rw [e2]
      unfold bitf
      rw [show (i + t % 121 + 1) / 121 = i / 121 + 1 by omega, show (i + t % 121 + 1) % 121 = i % 121 by omega, Nat.add_zero]
      simp only [List.getD_eq_getElem?_getD, List.getElem?_drop]
      rw [Nat.add_comm 1 (i / 121)]
    · rw [if_neg c, if_neg (by omega), show i + (t + 1) % 121 = i + t % 121 + 1 by omega]

set_option maxHeartbeats 4000000 in
set_option maxRecDepth 100000 in
theorem c_X7_bitAt (l : Launch) (Z : xZ) (mx c0 c1 c2 c3 c4 c5 c6 c7 c8 c9 c10 c11 th nl now pq pu pf pg bg ln sl fb mn tn md tp tl tr : Nat) (v op wk on iz wy gs gw sv gb mk : Nat → Nat) (wr : Nat → Int32) (F : Nat → Nat) (hB : BQ fb gb mn F) (j : Nat) (hj : j < mn) : xMi l Z yX7_bitAt vX7_bitAt ({ frames := 0, cells := 0, slots := 0, locals := 0 } : Room) [.ref mx, .int (nI j)] [(mx, .inr (7, [.int (nI th), .ref c0, .int (nI nl), .ref c1, .ref c2, .ref c3, .ref c4, .int (nI now), .ref c5, .ref c6, .ref c7, .int (nI pq), .int (nI pu), .int (nI pf), .int (nI pg), .int (nI bg), .int (nI ln), .ref c8, .int (nI sl), .ref c9, .int (nI fb), .int (nI mn), .ref c10, .int (nI tn), .int (nI md), .ref c11, .int (nI tp), .int (nI tl), .int (nI tr)])), (c0, xI Z 4 v), (c1, xI Z 24 op), (c2, xI Z 24 wk), (c3, xI Z 24 on), (c4, xI Z 24 iz), (c5, xJ Z 6 wr), (c6, xI Z 6 wy), (c7, xI Z 6 gs), (c8, xI Z 700 gw), (c9, xI Z 700 sv), (c10, xI Z 80001 gb), (c11, xI Z 6 mk)] (fun r w => r = nI (F j) ∧ w = [(mx, .inr (7, [.int (nI th), .ref c0, .int (nI nl), .ref c1, .ref c2, .ref c3, .ref c4, .int (nI now), .ref c5, .ref c6, .ref c7, .int (nI pq), .int (nI pu), .int (nI pf), .int (nI pg), .int (nI bg), .int (nI ln), .ref c8, .int (nI sl), .ref c9, .int (nI fb), .int (nI mn), .ref c10, .int (nI tn), .int (nI md), .ref c11, .int (nI tp), .int (nI tl), .int (nI tr)])), (c0, xI Z 4 v), (c1, xI Z 24 op), (c2, xI Z 24 wk), (c3, xI Z 24 on), (c4, xI Z 24 iz), (c5, xJ Z 6 wr), (c6, xI Z 6 wy), (c7, xI Z 6 gs), (c8, xI Z 700 gw), (c9, xI Z 700 sv), (c10, xI Z 80001 gb), (c11, xI Z 6 mk)]) := by
  refine x_i (by decide) rfl (Nat.le_of_ble_eq_true rfl) ?_
  intro p e s m args below meth c ls A hC hr hk hl hP hD hS
  have hx := hC.1.1
  have hb := hC.1.2.1
  have hml := hC.1.2.2.1
  have hown : s.vm.findClass RX7 = some m.cls := hC.1.2.2.2.1
  have hts := hC.1.2.2.2.2
  have hK := hC.2.1
  have qq_696 := hts (Cond.fieldLink RX7 41 "TagTowerModel" "bits" "[I") (List.mem_cons_of_mem _ wq_696)
  have iX7 : ∀ w ∈ wsX70, w ∈ vX7_bitAt := fun w h => List.mem_cons_of_mem _ (wi_X7 w h)
  have qq_694 := hts (Cond.fieldLink RX7 156 "TagTowerModel" "first" "I") (List.mem_cons_of_mem _ wq_694)
  have qq_673 := hts (Cond.constant RX7 40 (80001)) (List.mem_cons_of_mem _ wq_673)
  have hl : lv_has ls 2 [(0, .ref mx), (1, .int (nI j))] := hl
  have hP : va_P Z.1 vwCl [(mx, .inr (7, [.int (nI th), .ref c0, .int (nI nl), .ref c1, .ref c2, .ref c3, .ref c4, .int (nI now), .ref c5, .ref c6, .ref c7, .int (nI pq), .int (nI pu), .int (nI pf), .int (nI pg), .int (nI bg), .int (nI ln), .ref c8, .int (nI sl), .ref c9, .int (nI fb), .int (nI mn), .ref c10, .int (nI tn), .int (nI md), .ref c11, .int (nI tp), .int (nI tl), .int (nI tr)])), (c0, xI Z 4 v), (c1, xI Z 24 op), (c2, xI Z 24 wk), (c3, xI Z 24 on), (c4, xI Z 24 iz), (c5, xJ Z 6 wr), (c6, xI Z 6 wy), (c7, xI Z 6 gs), (c8, xI Z 700 gw), (c9, xI Z 700 sv), (c10, xI Z 80001 gb), (c11, xI Z 6 mk)] s.heap := hP
  have hD : va_D A [(mx, .inr (7, [.int (nI th), .ref c0, .int (nI nl), .ref c1, .ref c2, .ref c3, .ref c4, .int (nI now), .ref c5, .ref c6, .ref c7, .int (nI pq), .int (nI pu), .int (nI pf), .int (nI pg), .int (nI bg), .int (nI ln), .ref c8, .int (nI sl), .ref c9, .int (nI fb), .int (nI mn), .ref c10, .int (nI tn), .int (nI md), .ref c11, .int (nI tp), .int (nI tl), .int (nI tr)])), (c0, xI Z 4 v), (c1, xI Z 24 op), (c2, xI Z 24 wk), (c3, xI Z 24 on), (c4, xI Z 24 iz), (c5, xJ Z 6 wr), (c6, xI Z 6 wy), (c7, xI Z 6 gs), (c8, xI Z 700 gw), (c9, xI Z 700 sv), (c10, xI Z 80001 gb), (c11, xI Z 6 mk)] := hD
  have hB1 := hB.1
  have hB2 := hB.2.1
  refine lv_aload_n hx hb dX7_bitAt_0 rfl (lv_at hl 0 rfl) ?_
  refine va_get (D := Z.1) (ci := 7) (v := .ref c10) (C := RX7) (T := TX7) (N := 29) hx hb hts iX7 hown hK hP 0 rfl rfl 22 (Nat.le_of_ble_eq_true rfl) qq_696 (fun _ h9 => h9) rfl dX7_bitAt_1 ?_
  refine lv_aload_n hx hb dX7_bitAt_4 rfl (lv_at hl 0 rfl) ?_
  refine va_get (D := Z.1) (ci := 7) (v := .int (nI fb)) (C := RX7) (T := TX7) (N := 29) hx hb hts iX7 hown hK hP 0 rfl rfl 20 (Nat.le_of_ble_eq_true rfl) qq_694 (fun _ h9 => h9) rfl dX7_bitAt_5 ?_
  refine lv_iload_n hx hb dX7_bitAt_8 rfl (lv_at hl 1 rfl) ?_
  refine ln_iadd (fb + j) hx hb dX7_bitAt_9 (by first | rfl | omega) ?_
  refine lv_ldc (v := nI 80001) hx hb hown qq_673 dX7_bitAt_10 ?_
  refine ln_irem ((fb + j) % 80001) hx hb dX7_bitAt_12 (by omega) (by omega) (by omega) (by first | rfl | omega) ?_
  refine ln_iald hx hb hK hP 11 rfl (Nat.mod_lt _ (by decide)) (by omega) dX7_bitAt_13 ?_
  exact x_iret hC hr hk hP hD hS dX7_bitAt_14 ⟨by rw [hB.2.2 j hj], rfl⟩

set_option maxHeartbeats 4000000 in
set_option maxRecDepth 100000 in
theorem c_X7_putBit (l : Launch) (Z : xZ) (mx c0 c1 c2 c3 c4 c5 c6 c7 c8 c9 c10 c11 th nl now pq pu pf pg bg ln sl fb mn tn md tp tl tr : Nat) (v op wk on iz wy gs gw sv gb mk : Nat → Nat) (wr : Nat → Int32) (F : Nat → Nat) (hB : BQ fb gb mn F) (hn : mn < 80000) (a : Nat) (ha : F mn = a) : xMv l Z yX7_putBit vX7_putBit ({ frames := 0, cells := 0, slots := 0, locals := 0 } : Room) [.ref mx, .int (nI a)] [(mx, .inr (7, [.int (nI th), .ref c0, .int (nI nl), .ref c1, .ref c2, .ref c3, .ref c4, .int (nI now), .ref c5, .ref c6, .ref c7, .int (nI pq), .int (nI pu), .int (nI pf), .int (nI pg), .int (nI bg), .int (nI ln), .ref c8, .int (nI sl), .ref c9, .int (nI fb), .int (nI mn), .ref c10, .int (nI tn), .int (nI md), .ref c11, .int (nI tp), .int (nI tl), .int (nI tr)])), (c0, xI Z 4 v), (c1, xI Z 24 op), (c2, xI Z 24 wk), (c3, xI Z 24 on), (c4, xI Z 24 iz), (c5, xJ Z 6 wr), (c6, xI Z 6 wy), (c7, xI Z 6 gs), (c8, xI Z 700 gw), (c9, xI Z 700 sv), (c10, xI Z 80001 gb), (c11, xI Z 6 mk)] (fun w => ∃ gb2, BQ fb gb2 (mn + 1) F ∧ w = [(mx, .inr (7, [.int (nI th), .ref c0, .int (nI nl), .ref c1, .ref c2, .ref c3, .ref c4, .int (nI now), .ref c5, .ref c6, .ref c7, .int (nI pq), .int (nI pu), .int (nI pf), .int (nI pg), .int (nI bg), .int (nI ln), .ref c8, .int (nI sl), .ref c9, .int (nI fb), .int (nI (mn + 1)), .ref c10, .int (nI tn), .int (nI md), .ref c11, .int (nI tp), .int (nI tl), .int (nI tr)])), (c0, xI Z 4 v), (c1, xI Z 24 op), (c2, xI Z 24 wk), (c3, xI Z 24 on), (c4, xI Z 24 iz), (c5, xJ Z 6 wr), (c6, xI Z 6 wy), (c7, xI Z 6 gs), (c8, xI Z 700 gw), (c9, xI Z 700 sv), (c10, xI Z 80001 gb2), (c11, xI Z 6 mk)]) := by
  refine x_v (by decide) rfl (Nat.le_of_ble_eq_true rfl) ?_
  intro p e s m args below meth c ls A hC hr hk hname hl hP hD hS
  have hx := hC.1.1
  have hb := hC.1.2.1
  have hml := hC.1.2.2.1
  have hown : s.vm.findClass RX7 = some m.cls := hC.1.2.2.2.1
  have hts := hC.1.2.2.2.2
  have hK := hC.2.1
  have qq_696 := hts (Cond.fieldLink RX7 41 "TagTowerModel" "bits" "[I") (List.mem_cons_of_mem _ wq_696)
  have iX7 : ∀ w ∈ wsX70, w ∈ vX7_putBit := fun w h => List.mem_cons_of_mem _ (wi_X7 w h)
  have qq_694 := hts (Cond.fieldLink RX7 156 "TagTowerModel" "first" "I") (List.mem_cons_of_mem _ wq_694)
  have qq_695 := hts (Cond.fieldLink RX7 159 "TagTowerModel" "many" "I") (List.mem_cons_of_mem _ wq_695)
  have qq_673 := hts (Cond.constant RX7 40 (80001)) (List.mem_cons_of_mem _ wq_673)
  have hl : lv_has ls 2 [(0, .ref mx), (1, .int (nI a))] := hl
  have hP : va_P Z.1 vwCl [(mx, .inr (7, [.int (nI th), .ref c0, .int (nI nl), .ref c1, .ref c2, .ref c3, .ref c4, .int (nI now), .ref c5, .ref c6, .ref c7, .int (nI pq), .int (nI pu), .int (nI pf), .int (nI pg), .int (nI bg), .int (nI ln), .ref c8, .int (nI sl), .ref c9, .int (nI fb), .int (nI mn), .ref c10, .int (nI tn), .int (nI md), .ref c11, .int (nI tp), .int (nI tl), .int (nI tr)])), (c0, xI Z 4 v), (c1, xI Z 24 op), (c2, xI Z 24 wk), (c3, xI Z 24 on), (c4, xI Z 24 iz), (c5, xJ Z 6 wr), (c6, xI Z 6 wy), (c7, xI Z 6 gs), (c8, xI Z 700 gw), (c9, xI Z 700 sv), (c10, xI Z 80001 gb), (c11, xI Z 6 mk)] s.heap := hP
  have hD : va_D A [(mx, .inr (7, [.int (nI th), .ref c0, .int (nI nl), .ref c1, .ref c2, .ref c3, .ref c4, .int (nI now), .ref c5, .ref c6, .ref c7, .int (nI pq), .int (nI pu), .int (nI pf), .int (nI pg), .int (nI bg), .int (nI ln), .ref c8, .int (nI sl), .ref c9, .int (nI fb), .int (nI mn), .ref c10, .int (nI tn), .int (nI md), .ref c11, .int (nI tp), .int (nI tl), .int (nI tr)])), (c0, xI Z 4 v), (c1, xI Z 24 op), (c2, xI Z 24 wk), (c3, xI Z 24 on), (c4, xI Z 24 iz), (c5, xJ Z 6 wr), (c6, xI Z 6 wy), (c7, xI Z 6 gs), (c8, xI Z 700 gw), (c9, xI Z 700 sv), (c10, xI Z 80001 gb), (c11, xI Z 6 mk)] := hD
  have hB1 := hB.1
  refine lv_aload_n hx hb dX7_putBit_0 rfl (lv_at hl 0 rfl) ?_
  refine va_get (D := Z.1) (ci := 7) (v := .ref c10) (C := RX7) (T := TX7) (N := 29) hx hb hts iX7 hown hK hP 0 rfl rfl 22 (Nat.le_of_ble_eq_true rfl) qq_696 (fun _ h9 => h9) rfl dX7_putBit_1 ?_
  refine lv_aload_n hx hb dX7_putBit_4 rfl (lv_at hl 0 rfl) ?_
  refine va_get (D := Z.1) (ci := 7) (v := .int (nI fb)) (C := RX7) (T := TX7) (N := 29) hx hb hts iX7 hown hK hP 0 rfl rfl 20 (Nat.le_of_ble_eq_true rfl) qq_694 (fun _ h9 => h9) rfl dX7_putBit_5 ?_
  refine lv_aload_n hx hb dX7_putBit_8 rfl (lv_at hl 0 rfl) ?_
  refine va_get (D := Z.1) (ci := 7) (v := .int (nI mn)) (C := RX7) (T := TX7) (N := 29) hx hb hts iX7 hown hK hP 0 rfl rfl 21 (Nat.le_of_ble_eq_true rfl) qq_695 (fun _ h9 => h9) rfl dX7_putBit_9 ?_
  refine ln_iadd (fb + mn) hx hb dX7_putBit_12 (by first | rfl | omega) ?_
  refine lv_ldc (v := nI 80001) hx hb hown qq_673 dX7_putBit_13 ?_
  refine ln_irem ((fb + mn) % 80001) hx hb dX7_putBit_15 (by omega) (by omega) (by omega) (by first | rfl | omega) ?_
  refine lv_iload_n hx hb dX7_putBit_16 rfl (lv_at hl 1 rfl) ?_
  refine ln_iast hx hb hK hP hD hS 11 rfl (Nat.mod_lt _ (by decide)) (by omega) dX7_putBit_17 (fun H locs hP hD hS => ?_)
  have hP : va_P Z.1 vwCl [(mx, .inr (7, [.int (nI th), .ref c0, .int (nI nl), .ref c1, .ref c2, .ref c3, .ref c4, .int (nI now), .ref c5, .ref c6, .ref c7, .int (nI pq), .int (nI pu), .int (nI pf), .int (nI pg), .int (nI bg), .int (nI ln), .ref c8, .int (nI sl), .ref c9, .int (nI fb), .int (nI mn), .ref c10, .int (nI tn), .int (nI md), .ref c11, .int (nI tp), .int (nI tl), .int (nI tr)])), (c0, xI Z 4 v), (c1, xI Z 24 op), (c2, xI Z 24 wk), (c3, xI Z 24 on), (c4, xI Z 24 iz), (c5, xJ Z 6 wr), (c6, xI Z 6 wy), (c7, xI Z 6 gs), (c8, xI Z 700 gw), (c9, xI Z 700 sv), (c10, xI Z 80001 (va_up gb ((fb + mn) % 80001) a)), (c11, xI Z 6 mk)] H := hP
  have hD : va_D A [(mx, .inr (7, [.int (nI th), .ref c0, .int (nI nl), .ref c1, .ref c2, .ref c3, .ref c4, .int (nI now), .ref c5, .ref c6, .ref c7, .int (nI pq), .int (nI pu), .int (nI pf), .int (nI pg), .int (nI bg), .int (nI ln), .ref c8, .int (nI sl), .ref c9, .int (nI fb), .int (nI mn), .ref c10, .int (nI tn), .int (nI md), .ref c11, .int (nI tp), .int (nI tl), .int (nI tr)])), (c0, xI Z 4 v), (c1, xI Z 24 op), (c2, xI Z 24 wk), (c3, xI Z 24 on), (c4, xI Z 24 iz), (c5, xJ Z 6 wr), (c6, xI Z 6 wy), (c7, xI Z 6 gs), (c8, xI Z 700 gw), (c9, xI Z 700 sv), (c10, xI Z 80001 (va_up gb ((fb + mn) % 80001) a)), (c11, xI Z 6 mk)] := hD
  refine lv_aload_n hx hb dX7_putBit_18 rfl (lv_at hl 0 rfl) ?_
  refine lv_dup hx hb dX7_putBit_19 rfl ?_
  refine va_get (D := Z.1) (ci := 7) (v := .int (nI mn)) (C := RX7) (T := TX7) (N := 29) hx hb hts iX7 hown hK hP 0 rfl rfl 21 (Nat.le_of_ble_eq_true rfl) qq_695 (fun _ h9 => h9) rfl dX7_putBit_20 ?_
  refine ln_const 1 hx hb dX7_putBit_23 (by decide) ?_
  refine ln_iadd (mn + 1) hx hb dX7_putBit_24 (by first | rfl | omega) ?_
  refine va_put (D := Z.1) (ci := 7) (v := .int (nI (mn + 1))) (ty := tyX7 21) (C := RX7) (T := TX7) (N := 29) hx hb hts iX7 tyX7 tyX7_ok nmX7 hown hK hP hD hS 0 rfl rfl 21 (Nat.le_of_ble_eq_true rfl) qq_695 (fun _ h9 => h9) rfl (tyX7_ok 21 (Nat.le_of_ble_eq_true rfl)) rfl rfl (Nat.le_of_ble_eq_true rfl) dX7_putBit_25 (fun H locs hP hD hS => ?_)
  have hP : va_P Z.1 vwCl [(mx, .inr (7, [.int (nI th), .ref c0, .int (nI nl), .ref c1, .ref c2, .ref c3, .ref c4, .int (nI now), .ref c5, .ref c6, .ref c7, .int (nI pq), .int (nI pu), .int (nI pf), .int (nI pg), .int (nI bg), .int (nI ln), .ref c8, .int (nI sl), .ref c9, .int (nI fb), .int (nI (mn + 1)), .ref c10, .int (nI tn), .int (nI md), .ref c11, .int (nI tp), .int (nI tl), .int (nI tr)])), (c0, xI Z 4 v), (c1, xI Z 24 op), (c2, xI Z 24 wk), (c3, xI Z 24 on), (c4, xI Z 24 iz), (c5, xJ Z 6 wr), (c6, xI Z 6 wy), (c7, xI Z 6 gs), (c8, xI Z 700 gw), (c9, xI Z 700 sv), (c10, xI Z 80001 (va_up gb ((fb + mn) % 80001) a)), (c11, xI Z 6 mk)] H := hP
  have hD : va_D A [(mx, .inr (7, [.int (nI th), .ref c0, .int (nI nl), .ref c1, .ref c2, .ref c3, .ref c4, .int (nI now), .ref c5, .ref c6, .ref c7, .int (nI pq), .int (nI pu), .int (nI pf), .int (nI pg), .int (nI bg), .int (nI ln), .ref c8, .int (nI sl), .ref c9, .int (nI fb), .int (nI (mn + 1)), .ref c10, .int (nI tn), .int (nI md), .ref c11, .int (nI tp), .int (nI tl), .int (nI tr)])), (c0, xI Z 4 v), (c1, xI Z 24 op), (c2, xI Z 24 wk), (c3, xI Z 24 on), (c4, xI Z 24 iz), (c5, xJ Z 6 wr), (c6, xI Z 6 wy), (c7, xI Z 6 gs), (c8, xI Z 700 gw), (c9, xI Z 700 sv), (c10, xI Z 80001 (va_up gb ((fb + mn) % 80001) a)), (c11, xI Z 6 mk)] := hD
  exact x_vret hC hr hk hP hD hS dX7_putBit_28 ⟨_, by rw [← ha]; exact hB.put hn, rfl⟩

theorem kv_X7_bitAt : yX7_bitAt.cls = RX7 ∧ yX7_bitAt.cls ≠ "java/lang/invoke/MethodHandle" ∧ yX7_bitAt.cls ≠ "java/lang/invoke/VarHandle" ∧ (parseMethodDescriptor yX7_bitAt.desc).map (fun d => d.parameters.length) = some 1 := by decide +kernel
set_option maxHeartbeats 4000000 in
set_option maxRecDepth 100000 in
theorem c_X7_letterOf (l : Launch) (Z : xZ) (mx c0 c1 c2 c3 c4 c5 c6 c7 c8 c9 c10 c11 th nl now pq pu pf pg bg ln sl fb mn tn md tp tl tr : Nat) (v op wk on iz wy gs gw sv gb mk : Nat → Nat) (wr : Nat → Int32) (F : Nat → Nat) (hB : BQ fb gb mn F) (f0 cz : Nat) (hf : f0 + 121 ≤ mn) (hc : cz < 121) (hF : ∀ k, k < 121 → F (f0 + k) = if cz = k then 1 else 0) : xMi l Z yX7_letterOf vX7_letterOf ({ frames := 1, cells := 0, slots := 0, locals := 21 } : Room) [.ref mx, .int (nI f0)] [(mx, .inr (7, [.int (nI th), .ref c0, .int (nI nl), .ref c1, .ref c2, .ref c3, .ref c4, .int (nI now), .ref c5, .ref c6, .ref c7, .int (nI pq), .int (nI pu), .int (nI pf), .int (nI pg), .int (nI bg), .int (nI ln), .ref c8, .int (nI sl), .ref c9, .int (nI fb), .int (nI mn), .ref c10, .int (nI tn), .int (nI md), .ref c11, .int (nI tp), .int (nI tl), .int (nI tr)])), (c0, xI Z 4 v), (c1, xI Z 24 op), (c2, xI Z 24 wk), (c3, xI Z 24 on), (c4, xI Z 24 iz), (c5, xJ Z 6 wr), (c6, xI Z 6 wy), (c7, xI Z 6 gs), (c8, xI Z 700 gw), (c9, xI Z 700 sv), (c10, xI Z 80001 gb), (c11, xI Z 6 mk)] (fun r w => r = nI cz ∧ w = [(mx, .inr (7, [.int (nI th), .ref c0, .int (nI nl), .ref c1, .ref c2, .ref c3, .ref c4, .int (nI now), .ref c5, .ref c6, .ref c7, .int (nI pq), .int (nI pu), .int (nI pf), .int (nI pg), .int (nI bg), .int (nI ln), .ref c8, .int (nI sl), .ref c9, .int (nI fb), .int (nI mn), .ref c10, .int (nI tn), .int (nI md), .ref c11, .int (nI tp), .int (nI tl), .int (nI tr)])), (c0, xI Z 4 v), (c1, xI Z 24 op), (c2, xI Z 24 wk), (c3, xI Z 24 on), (c4, xI Z 24 iz), (c5, xJ Z 6 wr), (c6, xI Z 6 wy), (c7, xI Z 6 gs), (c8, xI Z 700 gw), (c9, xI Z 700 sv), (c10, xI Z 80001 gb), (c11, xI Z 6 mk)]) := by
  refine x_i (by decide) rfl (Nat.le_of_ble_eq_true rfl) ?_
  intro p e s m args below meth c ls A hC hr hk hl hP hD hS
  have hx := hC.1.1
  have hb := hC.1.2.1
  have hml := hC.1.2.2.1
  have hown : s.vm.findClass RX7 = some m.cls := hC.1.2.2.2.1
  have hts := hC.1.2.2.2.2
  have hK := hC.2.1
  have hl : lv_has ls 5 [(0, .ref mx), (1, .int (nI f0))] := hl
  have hP : va_P Z.1 vwCl [(mx, .inr (7, [.int (nI th), .ref c0, .int (nI nl), .ref c1, .ref c2, .ref c3, .ref c4, .int (nI now), .ref c5, .ref c6, .ref c7, .int (nI pq), .int (nI pu), .int (nI pf), .int (nI pg), .int (nI bg), .int (nI ln), .ref c8, .int (nI sl), .ref c9, .int (nI fb), .int (nI mn), .ref c10, .int (nI tn), .int (nI md), .ref c11, .int (nI tp), .int (nI tl), .int (nI tr)])), (c0, xI Z 4 v), (c1, xI Z 24 op), (c2, xI Z 24 wk), (c3, xI Z 24 on), (c4, xI Z 24 iz), (c5, xJ Z 6 wr), (c6, xI Z 6 wy), (c7, xI Z 6 gs), (c8, xI Z 700 gw), (c9, xI Z 700 sv), (c10, xI Z 80001 gb), (c11, xI Z 6 mk)] s.heap := hP
  have hD : va_D A [(mx, .inr (7, [.int (nI th), .ref c0, .int (nI nl), .ref c1, .ref c2, .ref c3, .ref c4, .int (nI now), .ref c5, .ref c6, .ref c7, .int (nI pq), .int (nI pu), .int (nI pf), .int (nI pg), .int (nI bg), .int (nI ln), .ref c8, .int (nI sl), .ref c9, .int (nI fb), .int (nI mn), .ref c10, .int (nI tn), .int (nI md), .ref c11, .int (nI tp), .int (nI tl), .int (nI tr)])), (c0, xI Z 4 v), (c1, xI Z 24 op), (c2, xI Z 24 wk), (c3, xI Z 24 on), (c4, xI Z 24 iz), (c5, xJ Z 6 wr), (c6, xI Z 6 wy), (c7, xI Z 6 gs), (c8, xI Z 700 gw), (c9, xI Z 700 sv), (c10, xI Z 80001 gb), (c11, xI Z 6 mk)] := hD
  have hB1 := hB.1
  have hB2 := hB.2.1
  refine lv_bipush (v := (-9)) hx hb dX7_letterOf_0 (by decide) ?_
  refine lv_istore_n (lv' := [(2, .int ((-9))), (0, .ref mx), (1, .int (nI f0))]) hx hb dX7_letterOf_2 rfl hl (by decide) rfl (fun ls hl => ?_)
  refine ln_const 0 hx hb dX7_letterOf_3 (by decide) ?_
  refine lv_istore_n (lv' := [(3, .int (nI 0)), (2, .int ((-9))), (0, .ref mx), (1, .int (nI f0))]) hx hb dX7_letterOf_4 rfl hl (by decide) rfl (fun ls hl => ?_)
  refine ln_const 0 hx hb dX7_letterOf_5 (by decide) ?_
  refine lv_istore (lv' := [(4, .int (nI 0)), (3, .int (nI 0)), (2, .int ((-9))), (0, .ref mx), (1, .int (nI f0))]) hx hb dX7_letterOf_6 hl (by decide) rfl (fun ls hl => ?_)
  have hloop8 : ∀ (nn : Nat) (k on1 : Nat) (fo : Int32) (H : Heap) (locs : List Loc) (ls : Array Slot) (hk1 : k ≤ 121) (hfo : fo = if cz < k then nI cz else -9) (hon : on1 = if cz < k then 1 else 0) (hmu : 121 - k < nn) (hP : va_P Z.1 vwCl [(mx, .inr (7, [.int (nI th), .ref c0, .int (nI nl), .ref c1, .ref c2, .ref c3, .ref c4, .int (nI now), .ref c5, .ref c6, .ref c7, .int (nI pq), .int (nI pu), .int (nI pf), .int (nI pg), .int (nI bg), .int (nI ln), .ref c8, .int (nI sl), .ref c9, .int (nI fb), .int (nI mn), .ref c10, .int (nI tn), .int (nI md), .ref c11, .int (nI tp), .int (nI tl), .int (nI tr)])), (c0, xI Z 4 v), (c1, xI Z 24 op), (c2, xI Z 24 wk), (c3, xI Z 24 on), (c4, xI Z 24 iz), (c5, xJ Z 6 wr), (c6, xI Z 6 wy), (c7, xI Z 6 gs), (c8, xI Z 700 gw), (c9, xI Z 700 sv), (c10, xI Z 80001 gb), (c11, xI Z 6 mk)] H) (hD : va_D A [(mx, .inr (7, [.int (nI th), .ref c0, .int (nI nl), .ref c1, .ref c2, .ref c3, .ref c4, .int (nI now), .ref c5, .ref c6, .ref c7, .int (nI pq), .int (nI pu), .int (nI pf), .int (nI pg), .int (nI bg), .int (nI ln), .ref c8, .int (nI sl), .ref c9, .int (nI fb), .int (nI mn), .ref c10, .int (nI tn), .int (nI md), .ref c11, .int (nI tp), .int (nI tl), .int (nI tr)])), (c0, xI Z 4 v), (c1, xI Z 24 op), (c2, xI Z 24 wk), (c3, xI Z 24 on), (c4, xI Z 24 iz), (c5, xJ Z 6 wr), (c6, xI Z 6 wy), (c7, xI Z 6 gs), (c8, xI Z 700 gw), (c9, xI Z 700 sv), (c10, xI Z 80001 gb), (c11, xI Z 6 mk)]) (hS : va_S A s.heap H locs) (hl : lv_has ls 5 [(0, .ref mx), (1, .int (nI f0)), (2, .int fo), (3, .int (nI on1)), (4, .int (nI k))]), W p l e ({ frames := 1, cells := 0, slots := 0, locals := 21 } : Room) s m args below meth c H locs 0 0 (MQ below (va_Qi (fun r w => r = nI cz ∧ w = [(mx, .inr (7, [.int (nI th), .ref c0, .int (nI nl), .ref c1, .ref c2, .ref c3, .ref c4, .int (nI now), .ref c5, .ref c6, .ref c7, .int (nI pq), .int (nI pu), .int (nI pf), .int (nI pg), .int (nI bg), .int (nI ln), .ref c8, .int (nI sl), .ref c9, .int (nI fb), .int (nI mn), .ref c10, .int (nI tn), .int (nI md), .ref c11, .int (nI tp), .int (nI tl), .int (nI tr)])), (c0, xI Z 4 v), (c1, xI Z 24 op), (c2, xI Z 24 wk), (c3, xI Z 24 on), (c4, xI Z 24 iz), (c5, xJ Z 6 wr), (c6, xI Z 6 wy), (c7, xI Z 6 gs), (c8, xI Z 700 gw), (c9, xI Z 700 sv), (c10, xI Z 80001 gb), (c11, xI Z 6 mk)]) (xB Z A) A) args s ({ frames := 1, cells := 0, slots := 0, locals := 21 } : Room).cells ({ frames := 1, cells := 0, slots := 0, locals := 21 } : Room).slots A) (F0 m 8 ls []) := by
    intro nn
    induction nn with
    | zero => intro k on1 fo H locs ls hk1 hfo hon hmu; exact absurd hmu (Nat.not_lt_zero _)
    | succ nn ih =>
      intro k on1 fo H locs ls hk1 hfo hon hmu hP hD hS hl
      have hon2 : on1 ≤ 1 := by rw [hon]; split <;> omega
      refine lv_iload hx hb dX7_letterOf_8 (lv_at hl 4 rfl) ?_
      refine ln_bipush 121 hx hb dX7_letterOf_10 (by decide) ?_
      refine ln_icmp_ge (tgt := 39) hx hb dX7_letterOf_12 (by decide) (by omega) (by omega) (fun h12 => ?_) (fun h12 => ?_)
      · have hon1 : on1 = 1 := by rw [hon, if_pos (by omega)]
        refine lv_iload_n hx hb dX7_letterOf_39 rfl (lv_at hl 3 rfl) ?_
        refine ln_const 1 hx hb dX7_letterOf_40 (by decide) ?_
        refine ln_icmp_ne (tgt := 48) hx hb dX7_letterOf_41 (by decide) (by omega) (by omega) (fun h41 => False.elim (by omega)) (fun h41 => ?_)
        refine lv_iload_n hx hb dX7_letterOf_44 rfl (lv_at hl 2 rfl) ?_
        refine lv_goto (tgt := 50) hx hb dX7_letterOf_45 (by decide) ?_
        exact x_iret hC hr hk hP hD hS dX7_letterOf_50 ⟨by rw [hfo, if_pos (by omega)], rfl⟩
      · refine lv_aload_n hx hb dX7_letterOf_15 rfl (lv_at hl 0 rfl) ?_
        refine lv_iload_n hx hb dX7_letterOf_16 rfl (lv_at hl 1 rfl) ?_
        refine lv_iload hx hb dX7_letterOf_17 (lv_at hl 4 rfl) ?_
        refine ln_iadd (f0 + k) hx hb dX7_letterOf_19 (by first | rfl | omega) ?_
        refine x_Vi (y := yX7_bitAt) (As := [.int (nI (f0 + k))]) (wc := [(mx, .inr (7, [.int (nI th), .ref c0, .int (nI nl), .ref c1, .ref c2, .ref c3, .ref c4, .int (nI now), .ref c5, .ref c6, .ref c7, .int (nI pq), .int (nI pu), .int (nI pf), .int (nI pg), .int (nI bg), .int (nI ln), .ref c8, .int (nI sl), .ref c9, .int (nI fb), .int (nI mn), .ref c10, .int (nI tn), .int (nI md), .ref c11, .int (nI tp), .int (nI tl), .int (nI tr)])), (c0, xI Z 4 v), (c1, xI Z 24 op), (c2, xI Z 24 wk), (c3, xI Z 24 on), (c4, xI Z 24 iz), (c5, xJ Z 6 wr), (c6, xI Z 6 wy), (c7, xI Z 6 gs), (c8, xI Z 700 gw), (c9, xI Z 700 sv), (c10, xI Z 80001 gb), (c11, xI Z 6 mk)]) (wr := []) hC hP hD hS (c_X7_bitAt l Z mx c0 c1 c2 c3 c4 c5 c6 c7 c8 c9 c10 c11 th nl now pq pu pf pg bg ln sl fb mn tn md tp tl tr v op wk on iz wy gs gw sv gb mk wr (F) hB (f0 + k) (by omega)) (gV wq_942 wq_939 wq_941 wq_30 wq_45) rfl kv_X7_bitAt rfl rfl ⟨rfl, rfl⟩ rfl hl.1 rfl ⟨Nat.le_of_ble_eq_true rfl, Nat.le_of_ble_eq_true rfl⟩ [0, 1, 2, 3, 4, 5, 6, 7, 8, 9, 10, 11, 12] ([] : List Nat) rfl rfl (by decide) (by decide) (by decide) rfl dX7_letterOf_20 (fun r20 w1 H locs hw hP hD hS => ?_)
        obtain ⟨rfl, rfl⟩ := hw
        have hP : va_P Z.1 vwCl [(mx, .inr (7, [.int (nI th), .ref c0, .int (nI nl), .ref c1, .ref c2, .ref c3, .ref c4, .int (nI now), .ref c5, .ref c6, .ref c7, .int (nI pq), .int (nI pu), .int (nI pf), .int (nI pg), .int (nI bg), .int (nI ln), .ref c8, .int (nI sl), .ref c9, .int (nI fb), .int (nI mn), .ref c10, .int (nI tn), .int (nI md), .ref c11, .int (nI tp), .int (nI tl), .int (nI tr)])), (c0, xI Z 4 v), (c1, xI Z 24 op), (c2, xI Z 24 wk), (c3, xI Z 24 on), (c4, xI Z 24 iz), (c5, xJ Z 6 wr), (c6, xI Z 6 wy), (c7, xI Z 6 gs), (c8, xI Z 700 gw), (c9, xI Z 700 sv), (c10, xI Z 80001 gb), (c11, xI Z 6 mk)] H := hP
        have hD : va_D A [(mx, .inr (7, [.int (nI th), .ref c0, .int (nI nl), .ref c1, .ref c2, .ref c3, .ref c4, .int (nI now), .ref c5, .ref c6, .ref c7, .int (nI pq), .int (nI pu), .int (nI pf), .int (nI pg), .int (nI bg), .int (nI ln), .ref c8, .int (nI sl), .ref c9, .int (nI fb), .int (nI mn), .ref c10, .int (nI tn), .int (nI md), .ref c11, .int (nI tp), .int (nI tl), .int (nI tr)])), (c0, xI Z 4 v), (c1, xI Z 24 op), (c2, xI Z 24 wk), (c3, xI Z 24 on), (c4, xI Z 24 iz), (c5, xJ Z 6 wr), (c6, xI Z 6 wy), (c7, xI Z 6 gs), (c8, xI Z 700 gw), (c9, xI Z 700 sv), (c10, xI Z 80001 gb), (c11, xI Z 6 mk)] := hD
        have hFk := hF k (by omega)
        have hF1 : F (f0 + k) ≤ 1 := by rw [hFk]; split <;> omega
        refine ln_const 1 hx hb dX7_letterOf_23 (by decide) ?_
        refine ln_icmp_ne (tgt := 33) hx hb dX7_letterOf_24 (by decide) (by omega) (by omega) (fun h24 => ?_) (fun h24 => ?_)
        · have hkc : k ≠ cz := fun q => h24 (by rw [hFk, if_pos q.symm])
          refine ln_iinc (k0 := 4) (k := 1) (k + 1) (lv' := [(4, .int (nI (k + 1))), (0, .ref mx), (1, .int (nI f0)), (2, .int fo), (3, .int (nI on1))]) hx hb dX7_letterOf_33 hl rfl rfl (by first | rfl | omega) (by decide) rfl (fun ls hl => ?_)
          refine lv_goto (tgt := 8) hx hb dX7_letterOf_36 (by decide) ?_
          exact ih  (k + 1) on1 fo _ _ _ (by omega) (by rw [hfo]; split <;> split <;> first | rfl | omega) (by rw [hon]; split <;> split <;> first | rfl | omega) (by omega) hP hD hS (lv_sub hl [1, 2, 3, 4, 0] rfl)
        · have hkc : k = cz := by
            rw [hFk] at h24
            split at h24 <;> omega
          refine lv_iload hx hb dX7_letterOf_27 (lv_at hl 4 rfl) ?_
          refine lv_istore_n (lv' := [(2, .int (nI k)), (0, .ref mx), (1, .int (nI f0)), (3, .int (nI on1)), (4, .int (nI k))]) hx hb dX7_letterOf_29 rfl hl (by decide) rfl (fun ls hl => ?_)
          refine ln_iinc (k0 := 3) (k := 1) (on1 + 1) (lv' := [(3, .int (nI (on1 + 1))), (2, .int (nI k)), (0, .ref mx), (1, .int (nI f0)), (4, .int (nI k))]) hx hb dX7_letterOf_30 hl rfl rfl (by first | rfl | omega) (by decide) rfl (fun ls hl => ?_)
          refine ln_iinc (k0 := 4) (k := 1) (k + 1) (lv' := [(4, .int (nI (k + 1))), (3, .int (nI (on1 + 1))), (2, .int (nI k)), (0, .ref mx), (1, .int (nI f0))]) hx hb dX7_letterOf_33 hl rfl rfl (by first | rfl | omega) (by decide) rfl (fun ls hl => ?_)
          refine lv_goto (tgt := 8) hx hb dX7_letterOf_36 (by decide) ?_
          exact ih  (k + 1) (on1 + 1) (nI k) _ _ _ (by omega) (by rw [if_pos (by omega), hkc]) (by rw [hon, if_neg (by omega), if_pos (by omega)]) (by omega) hP hD hS (lv_sub hl [3, 4, 2, 1, 0] rfl)
  exact hloop8 ((121 - 0) + 1) 0 0 (-9) _ _ _ (Nat.zero_le _) (by rw [if_neg (by omega)]) (by rw [if_neg (by omega)]) (Nat.lt_succ_self _) hP hD hS (lv_sub hl [3, 4, 2, 1, 0] rfl)

theorem kv_X7_letterOf : yX7_letterOf.cls = RX7 ∧ yX7_letterOf.cls ≠ "java/lang/invoke/MethodHandle" ∧ yX7_letterOf.cls ≠ "java/lang/invoke/VarHandle" ∧ (parseMethodDescriptor yX7_letterOf.desc).map (fun d => d.parameters.length) = some 1 := by decide +kernel
set_option maxHeartbeats 4000000 in
set_option maxRecDepth 100000 in
theorem c_X7_isStill (l : Launch) (Z : xZ) (mx c0 c1 c2 c3 c4 c5 c6 c7 c8 c9 c10 c11 th nl now pq pu pf pg bg ln sl fb mn tn md tp tl tr : Nat) (v op wk on iz wy gs gw sv gb mk : Nat → Nat) (wr : Nat → Int32) (R : xRl) (hM7 : MR7 R wr wy gs) (hRV : RV R) (B : List Nat) (hBQ : BQ fb gb mn (BF (B, tn))) (hmn : mn = bmany (B, tn)) (hBV : BV (B, tn)) : xMi l Z yX7_isStill vX7_isStill ({ frames := 5, cells := 0, slots := 0, locals := 112 } : Room) [.ref mx] [(mx, .inr (7, [.int (nI th), .ref c0, .int (nI nl), .ref c1, .ref c2, .ref c3, .ref c4, .int (nI now), .ref c5, .ref c6, .ref c7, .int (nI pq), .int (nI pu), .int (nI pf), .int (nI pg), .int (nI bg), .int (nI ln), .ref c8, .int (nI sl), .ref c9, .int (nI fb), .int (nI mn), .ref c10, .int (nI tn), .int (nI md), .ref c11, .int (nI tp), .int (nI tl), .int (nI tr)])), (c0, xI Z 4 v), (c1, xI Z 24 op), (c2, xI Z 24 wk), (c3, xI Z 24 on), (c4, xI Z 24 iz), (c5, xJ Z 6 wr), (c6, xI Z 6 wy), (c7, xI Z 6 gs), (c8, xI Z 700 gw), (c9, xI Z 700 sv), (c10, xI Z 80001 gb), (c11, xI Z 6 mk)] (fun r w9 => (bstill R (B, tn) ∧ r = nI 1 ∧ ∃ md2 mk2, w9 = [(mx, .inr (7, [.int (nI th), .ref c0, .int (nI nl), .ref c1, .ref c2, .ref c3, .ref c4, .int (nI now), .ref c5, .ref c6, .ref c7, .int (nI pq), .int (nI pu), .int (nI pf), .int (nI pg), .int (nI bg), .int (nI ln), .ref c8, .int (nI sl), .ref c9, .int (nI fb), .int (nI mn), .ref c10, .int (nI tn), .int (nI md2), .ref c11, .int (nI tp), .int (nI tl), .int (nI tr)])), (c0, xI Z 4 v), (c1, xI Z 24 op), (c2, xI Z 24 wk), (c3, xI Z 24 on), (c4, xI Z 24 iz), (c5, xJ Z 6 wr), (c6, xI Z 6 wy), (c7, xI Z 6 gs), (c8, xI Z 700 gw), (c9, xI Z 700 sv), (c10, xI Z 80001 gb), (c11, xI Z 6 mk2)]) ∨ (¬ bstill R (B, tn) ∧ r = nI 0 ∧ ∃ md2 mk2, w9 = [(mx, .inr (7, [.int (nI th), .ref c0, .int (nI nl), .ref c1, .ref c2, .ref c3, .ref c4, .int (nI now), .ref c5, .ref c6, .ref c7, .int (nI pq), .int (nI pu), .int (nI pf), .int (nI pg), .int (nI bg), .int (nI ln), .ref c8, .int (nI sl), .ref c9, .int (nI fb), .int (nI mn), .ref c10, .int (nI tn), .int (nI md2), .ref c11, .int (nI tp), .int (nI tl), .int (nI tr)])), (c0, xI Z 4 v), (c1, xI Z 24 op), (c2, xI Z 24 wk), (c3, xI Z 24 on), (c4, xI Z 24 iz), (c5, xJ Z 6 wr), (c6, xI Z 6 wy), (c7, xI Z 6 gs), (c8, xI Z 700 gw), (c9, xI Z 700 sv), (c10, xI Z 80001 gb), (c11, xI Z 6 mk2)])) := by
  refine x_i (by decide) rfl (Nat.le_of_ble_eq_true rfl) ?_
  intro p e s m args below meth c ls A hC hr hk hl hP hD hS
  have hx := hC.1.1
  have hb := hC.1.2.1
  have hml := hC.1.2.2.1
  have hown : s.vm.findClass RX7 = some m.cls := hC.1.2.2.2.1
  have hts := hC.1.2.2.2.2
  have hK := hC.2.1
  have qq_697 := hts (Cond.fieldLink RX7 165 "TagTowerModel" "turn" "I") (List.mem_cons_of_mem _ wq_697)
  have iX7 : ∀ w ∈ wsX70, w ∈ vX7_isStill := fun w h => List.mem_cons_of_mem _ (wi_X7 w h)
  have qq_695 := hts (Cond.fieldLink RX7 159 "TagTowerModel" "many" "I") (List.mem_cons_of_mem _ wq_695)
  have qq_698 := hts (Cond.fieldLink RX7 97 "TagTowerModel" "made" "I") (List.mem_cons_of_mem _ wq_698)
  have hl : lv_has ls 2 [(0, .ref mx)] := hl
  have hP : va_P Z.1 vwCl [(mx, .inr (7, [.int (nI th), .ref c0, .int (nI nl), .ref c1, .ref c2, .ref c3, .ref c4, .int (nI now), .ref c5, .ref c6, .ref c7, .int (nI pq), .int (nI pu), .int (nI pf), .int (nI pg), .int (nI bg), .int (nI ln), .ref c8, .int (nI sl), .ref c9, .int (nI fb), .int (nI mn), .ref c10, .int (nI tn), .int (nI md), .ref c11, .int (nI tp), .int (nI tl), .int (nI tr)])), (c0, xI Z 4 v), (c1, xI Z 24 op), (c2, xI Z 24 wk), (c3, xI Z 24 on), (c4, xI Z 24 iz), (c5, xJ Z 6 wr), (c6, xI Z 6 wy), (c7, xI Z 6 gs), (c8, xI Z 700 gw), (c9, xI Z 700 sv), (c10, xI Z 80001 gb), (c11, xI Z 6 mk)] s.heap := hP
  have hD : va_D A [(mx, .inr (7, [.int (nI th), .ref c0, .int (nI nl), .ref c1, .ref c2, .ref c3, .ref c4, .int (nI now), .ref c5, .ref c6, .ref c7, .int (nI pq), .int (nI pu), .int (nI pf), .int (nI pg), .int (nI bg), .int (nI ln), .ref c8, .int (nI sl), .ref c9, .int (nI fb), .int (nI mn), .ref c10, .int (nI tn), .int (nI md), .ref c11, .int (nI tp), .int (nI tl), .int (nI tr)])), (c0, xI Z 4 v), (c1, xI Z 24 op), (c2, xI Z 24 wk), (c3, xI Z 24 on), (c4, xI Z 24 iz), (c5, xJ Z 6 wr), (c6, xI Z 6 wy), (c7, xI Z 6 gs), (c8, xI Z 700 gw), (c9, xI Z 700 sv), (c10, xI Z 80001 gb), (c11, xI Z 6 mk)] := hD
  obtain ⟨b1, b2, b3, b4, b5⟩ := id hBV
  unfold bmany at b3 hmn
  dsimp only at b1 b2 b3 b4 b5 hmn
  have hfb := hBQ.1
  refine lv_aload_n hx hb dX7_isStill_0 rfl (lv_at hl 0 rfl) ?_
  refine va_get (D := Z.1) (ci := 7) (v := .int (nI tn)) (C := RX7) (T := TX7) (N := 29) hx hb hts iX7 hown hK hP 0 rfl rfl 23 (Nat.le_of_ble_eq_true rfl) qq_697 (fun _ h9 => h9) rfl dX7_isStill_1 ?_
  refine ln_if_eq (tgt := 9) hx hb dX7_isStill_4 (by decide) (by omega) (fun h4 => ?_) (fun h4 => ?_)
  · refine lv_aload_n hx hb dX7_isStill_9 rfl (lv_at hl 0 rfl) ?_
    refine va_get (D := Z.1) (ci := 7) (v := .int (nI mn)) (C := RX7) (T := TX7) (N := 29) hx hb hts iX7 hown hK hP 0 rfl rfl 21 (Nat.le_of_ble_eq_true rfl) qq_695 (fun _ h9 => h9) rfl dX7_isStill_10 ?_
    refine ln_sipush 242 hx hb dX7_isStill_13 (by decide) ?_
    refine ln_icmp_ge (tgt := 21) hx hb dX7_isStill_16 (by decide) (by omega) (by omega) (fun h16 => ?_) (fun h16 => ?_)
    · have hz := b2 _ (getD_mem (w := B) (i := 0) (by omega))
      have hx4 := (xprod_ok hRV hz).1
      refine lv_aload_n hx hb dX7_isStill_21 rfl (lv_at hl 0 rfl) ?_
      have hF0 : ∀ k, k < 121 → BF (B, tn) (0 + k) = if B.getD 0 0 = k then 1 else 0 := by
        intro k hk
        show bitf B (0 + k + tn % 121) = _
        rw [h4, show 0 + k + 0 % 121 = 121 * 0 + k by omega]
        exact bitf_at B 0 hk
      refine ln_const 0 hx hb dX7_isStill_22 (by decide) ?_
      refine x_Vi (rm := ({ frames := 1, cells := 0, slots := 0, locals := 21 } : Room)) (y := yX7_letterOf) (As := [.int (nI 0)]) (wc := [(mx, .inr (7, [.int (nI th), .ref c0, .int (nI nl), .ref c1, .ref c2, .ref c3, .ref c4, .int (nI now), .ref c5, .ref c6, .ref c7, .int (nI pq), .int (nI pu), .int (nI pf), .int (nI pg), .int (nI bg), .int (nI ln), .ref c8, .int (nI sl), .ref c9, .int (nI fb), .int (nI mn), .ref c10, .int (nI tn), .int (nI md), .ref c11, .int (nI tp), .int (nI tl), .int (nI tr)])), (c0, xI Z 4 v), (c1, xI Z 24 op), (c2, xI Z 24 wk), (c3, xI Z 24 on), (c4, xI Z 24 iz), (c5, xJ Z 6 wr), (c6, xI Z 6 wy), (c7, xI Z 6 gs), (c8, xI Z 700 gw), (c9, xI Z 700 sv), (c10, xI Z 80001 gb), (c11, xI Z 6 mk)]) (wr := []) hC hP hD hS (c_X7_letterOf l Z mx c0 c1 c2 c3 c4 c5 c6 c7 c8 c9 c10 c11 th nl now pq pu pf pg bg ln sl fb mn tn md tp tl tr v op wk on iz wy gs gw sv gb mk wr (BF (B, tn)) hBQ 0 (B.getD 0 0) (by omega) hz hF0) (gV wq_938 wq_935 wq_937 wq_29 wq_45) rfl kv_X7_letterOf rfl rfl ⟨rfl, rfl⟩ rfl hl.1 rfl ⟨Nat.le_of_ble_eq_true rfl, Nat.le_of_ble_eq_true rfl⟩ [0, 1, 2, 3, 4, 5, 6, 7, 8, 9, 10, 11, 12] ([] : List Nat) rfl rfl (by decide) (by decide) (by decide) rfl dX7_isStill_23 (fun r23 w1 H locs hw hP hD hS => ?_)
      obtain ⟨rfl, rfl⟩ := hw
      have hP : va_P Z.1 vwCl [(mx, .inr (7, [.int (nI th), .ref c0, .int (nI nl), .ref c1, .ref c2, .ref c3, .ref c4, .int (nI now), .ref c5, .ref c6, .ref c7, .int (nI pq), .int (nI pu), .int (nI pf), .int (nI pg), .int (nI bg), .int (nI ln), .ref c8, .int (nI sl), .ref c9, .int (nI fb), .int (nI mn), .ref c10, .int (nI tn), .int (nI md), .ref c11, .int (nI tp), .int (nI tl), .int (nI tr)])), (c0, xI Z 4 v), (c1, xI Z 24 op), (c2, xI Z 24 wk), (c3, xI Z 24 on), (c4, xI Z 24 iz), (c5, xJ Z 6 wr), (c6, xI Z 6 wy), (c7, xI Z 6 gs), (c8, xI Z 700 gw), (c9, xI Z 700 sv), (c10, xI Z 80001 gb), (c11, xI Z 6 mk)] H := hP
      have hD : va_D A [(mx, .inr (7, [.int (nI th), .ref c0, .int (nI nl), .ref c1, .ref c2, .ref c3, .ref c4, .int (nI now), .ref c5, .ref c6, .ref c7, .int (nI pq), .int (nI pu), .int (nI pf), .int (nI pg), .int (nI bg), .int (nI ln), .ref c8, .int (nI sl), .ref c9, .int (nI fb), .int (nI mn), .ref c10, .int (nI tn), .int (nI md), .ref c11, .int (nI tp), .int (nI tl), .int (nI tr)])), (c0, xI Z 4 v), (c1, xI Z 24 op), (c2, xI Z 24 wk), (c3, xI Z 24 on), (c4, xI Z 24 iz), (c5, xJ Z 6 wr), (c6, xI Z 6 wy), (c7, xI Z 6 gs), (c8, xI Z 700 gw), (c9, xI Z 700 sv), (c10, xI Z 80001 gb), (c11, xI Z 6 mk)] := hD
      refine lv_istore_n (lv' := [(1, .int (nI (B.getD 0 0))), (0, .ref mx)]) hx hb dX7_isStill_26 rfl hl (by decide) rfl (fun ls hl => ?_)
      refine lv_iload_n hx hb dX7_isStill_27 rfl (lv_at hl 0 rfl) ?_
      refine lv_bipush (v := (-9)) hx hb dX7_isStill_28 (by decide) ?_
      refine lv_icmp_ne (tgt := 35) hx hb dX7_isStill_30 (by decide) (fun h30 => ?_) (fun h30 => False.elim (xne9 (by omega) h30.symm))
      refine lv_aload_n hx hb dX7_isStill_35 rfl (lv_at hl 1 rfl) ?_
      refine lv_iload_n hx hb dX7_isStill_36 rfl (lv_at hl 0 rfl) ?_
      refine x_Vv (y := yX7_produce) (As := [.int (nI (B.getD 0 0))]) (wc := [(mx, .inr (7, [.int (nI th), .ref c0, .int (nI nl), .ref c1, .ref c2, .ref c3, .ref c4, .int (nI now), .ref c5, .ref c6, .ref c7, .int (nI pq), .int (nI pu), .int (nI pf), .int (nI pg), .int (nI bg), .int (nI ln), .ref c8, .int (nI sl), .ref c9, .int (nI fb), .int (nI mn), .ref c10, .int (nI tn), .int (nI md), .ref c11, .int (nI tp), .int (nI tl), .int (nI tr)])), (c0, xI Z 4 v), (c1, xI Z 24 op), (c2, xI Z 24 wk), (c3, xI Z 24 on), (c4, xI Z 24 iz), (c5, xJ Z 6 wr), (c6, xI Z 6 wy), (c7, xI Z 6 gs), (c8, xI Z 700 gw), (c9, xI Z 700 sv), (c10, xI Z 80001 gb), (c11, xI Z 6 mk)]) (wr := []) hC hP hD hS (c_X7_produce l Z mx c0 c1 c2 c3 c4 c5 c6 c7 c8 c9 c10 c11 th nl now pq pu pf pg bg ln sl fb mn tn md tp tl tr v op wk on iz wy gs gw sv gb mk wr R hM7 hRV (B.getD 0 0) (by omega)) (gV wq_839 wq_836 wq_838 wq_17 wq_45) rfl kv_X7_produce rfl rfl ⟨rfl, rfl⟩ rfl hl.1 rfl ⟨Nat.le_of_ble_eq_true rfl, Nat.le_of_ble_eq_true rfl⟩ [0, 1, 2, 3, 4, 5, 6, 7, 8, 9, 10, 11, 12] ([] : List Nat) rfl rfl (by decide) (by decide) (by decide) rfl dX7_isStill_37 (fun w1 H locs hw hP hD hS => ?_)
      obtain ⟨md2, mk2, hPM, rfl⟩ := hw
      have hP : va_P Z.1 vwCl [(mx, .inr (7, [.int (nI th), .ref c0, .int (nI nl), .ref c1, .ref c2, .ref c3, .ref c4, .int (nI now), .ref c5, .ref c6, .ref c7, .int (nI pq), .int (nI pu), .int (nI pf), .int (nI pg), .int (nI bg), .int (nI ln), .ref c8, .int (nI sl), .ref c9, .int (nI fb), .int (nI mn), .ref c10, .int (nI tn), .int (nI md2), .ref c11, .int (nI tp), .int (nI tl), .int (nI tr)])), (c0, xI Z 4 v), (c1, xI Z 24 op), (c2, xI Z 24 wk), (c3, xI Z 24 on), (c4, xI Z 24 iz), (c5, xJ Z 6 wr), (c6, xI Z 6 wy), (c7, xI Z 6 gs), (c8, xI Z 700 gw), (c9, xI Z 700 sv), (c10, xI Z 80001 gb), (c11, xI Z 6 mk2)] H := hP
      have hD : va_D A [(mx, .inr (7, [.int (nI th), .ref c0, .int (nI nl), .ref c1, .ref c2, .ref c3, .ref c4, .int (nI now), .ref c5, .ref c6, .ref c7, .int (nI pq), .int (nI pu), .int (nI pf), .int (nI pg), .int (nI bg), .int (nI ln), .ref c8, .int (nI sl), .ref c9, .int (nI fb), .int (nI mn), .ref c10, .int (nI tn), .int (nI md2), .ref c11, .int (nI tp), .int (nI tl), .int (nI tr)])), (c0, xI Z 4 v), (c1, xI Z 24 op), (c2, xI Z 24 wk), (c3, xI Z 24 on), (c4, xI Z 24 iz), (c5, xJ Z 6 wr), (c6, xI Z 6 wy), (c7, xI Z 6 gs), (c8, xI Z 700 gw), (c9, xI Z 700 sv), (c10, xI Z 80001 gb), (c11, xI Z 6 mk2)] := hD
      have hpm1 := hPM.1
      refine lv_aload_n hx hb dX7_isStill_40 rfl (lv_at hl 1 rfl) ?_
      refine va_get (D := Z.1) (ci := 7) (v := .int (nI md2)) (C := RX7) (T := TX7) (N := 29) hx hb hts iX7 hown hK hP 0 rfl rfl 24 (Nat.le_of_ble_eq_true rfl) qq_698 (fun _ h9 => h9) rfl dX7_isStill_41 ?_
      refine ln_if_ne (tgt := 51) hx hb dX7_isStill_44 (by decide) (by omega) (fun h44 => ?_) (fun h44 => ?_)
      · refine ln_const 0 hx hb dX7_isStill_51 (by decide) ?_
        exact x_zret hC hr rfl hk hP hD hS dX7_isStill_52 (Or.inr ⟨fun q => q.2.elim (fun z => by dsimp only at z; omega) (fun z => h44 (by dsimp only at z; omega)), rfl, md2, mk2, rfl⟩)
      · refine ln_const 1 hx hb dX7_isStill_47 (by decide) ?_
        refine lv_goto (tgt := 52) hx hb dX7_isStill_48 (by decide) ?_
        exact x_zret hC hr rfl hk hP hD hS dX7_isStill_52 (Or.inl ⟨⟨h4, Or.inr (by dsimp only; omega)⟩, rfl, md2, mk2, rfl⟩)
    · refine ln_const 1 hx hb dX7_isStill_19 (by decide) ?_
      exact x_zret hC hr rfl hk hP hD hS dX7_isStill_20 (Or.inl ⟨⟨h4, Or.inl (by dsimp only; omega)⟩, rfl, md, mk, rfl⟩)
  · refine ln_const 0 hx hb dX7_isStill_7 (by decide) ?_
    exact x_zret hC hr rfl hk hP hD hS dX7_isStill_8 (Or.inr ⟨fun q => h4 q.1, rfl, md, mk, rfl⟩)

theorem kv_X7_isStill : yX7_isStill.cls = RX7 ∧ yX7_isStill.cls ≠ "java/lang/invoke/MethodHandle" ∧ yX7_isStill.cls ≠ "java/lang/invoke/VarHandle" ∧ (parseMethodDescriptor yX7_isStill.desc).map (fun d => d.parameters.length) = some 0 := by decide +kernel
theorem kv_X7_putBit : yX7_putBit.cls = RX7 ∧ yX7_putBit.cls ≠ "java/lang/invoke/MethodHandle" ∧ yX7_putBit.cls ≠ "java/lang/invoke/VarHandle" ∧ (parseMethodDescriptor yX7_putBit.desc).map (fun d => d.parameters.length) = some 1 := by decide +kernel
set_option maxHeartbeats 4000000 in
set_option maxRecDepth 100000 in
theorem c_X7_cycles (l : Launch) (Z : xZ) (mx c0 c1 c2 c3 c4 c5 c6 c7 c8 c9 c10 c11 th nl now pq pu pf pg bg ln sl fb mn tn md tp tl tr : Nat) (v op wk on iz wy gs gw sv gb mk : Nat → Nat) (wr : Nat → Int32) (R : xRl) (hM7 : MR7 R wr wy gs) (hRV : RV R) (B : List Nat) (hBQ : BQ fb gb mn (BF (B, tn))) (hmn : mn = bmany (B, tn)) (hBV : BV (B, tn)) : xMi l Z yX7_cycles vX7_cycles ({ frames := 6, cells := 0, slots := 0, locals := 133 } : Room) [.ref mx] [(mx, .inr (7, [.int (nI th), .ref c0, .int (nI nl), .ref c1, .ref c2, .ref c3, .ref c4, .int (nI now), .ref c5, .ref c6, .ref c7, .int (nI pq), .int (nI pu), .int (nI pf), .int (nI pg), .int (nI bg), .int (nI ln), .ref c8, .int (nI sl), .ref c9, .int (nI fb), .int (nI mn), .ref c10, .int (nI tn), .int (nI md), .ref c11, .int (nI tp), .int (nI tl), .int (nI tr)])), (c0, xI Z 4 v), (c1, xI Z 24 op), (c2, xI Z 24 wk), (c3, xI Z 24 on), (c4, xI Z 24 iz), (c5, xJ Z 6 wr), (c6, xI Z 6 wy), (c7, xI Z 6 gs), (c8, xI Z 700 gw), (c9, xI Z 700 sv), (c10, xI Z 80001 gb), (c11, xI Z 6 mk)] (fun r w9 => (bstep R (B, tn) = none ∧ r = nI 0 ∧ ∃ md2 mk2, w9 = [(mx, .inr (7, [.int (nI th), .ref c0, .int (nI nl), .ref c1, .ref c2, .ref c3, .ref c4, .int (nI now), .ref c5, .ref c6, .ref c7, .int (nI pq), .int (nI pu), .int (nI pf), .int (nI pg), .int (nI bg), .int (nI ln), .ref c8, .int (nI sl), .ref c9, .int (nI fb), .int (nI mn), .ref c10, .int (nI tn), .int (nI md2), .ref c11, .int (nI tp), .int (nI tl), .int (nI tr)])), (c0, xI Z 4 v), (c1, xI Z 24 op), (c2, xI Z 24 wk), (c3, xI Z 24 on), (c4, xI Z 24 iz), (c5, xJ Z 6 wr), (c6, xI Z 6 wy), (c7, xI Z 6 gs), (c8, xI Z 700 gw), (c9, xI Z 700 sv), (c10, xI Z 80001 gb), (c11, xI Z 6 mk2)]) ∨ (∃ P fb2 gb2 md2 mk2, bstep R (B, tn) = some P ∧ BQ fb2 gb2 (bmany P) (BF P) ∧ r = nI 1 ∧ w9 = [(mx, .inr (7, [.int (nI th), .ref c0, .int (nI nl), .ref c1, .ref c2, .ref c3, .ref c4, .int (nI now), .ref c5, .ref c6, .ref c7, .int (nI pq), .int (nI pu), .int (nI pf), .int (nI pg), .int (nI bg), .int (nI ln), .ref c8, .int (nI sl), .ref c9, .int (nI fb2), .int (nI (bmany P)), .ref c10, .int (nI P.2), .int (nI md2), .ref c11, .int (nI tp), .int (nI tl), .int (nI tr)])), (c0, xI Z 4 v), (c1, xI Z 24 op), (c2, xI Z 24 wk), (c3, xI Z 24 on), (c4, xI Z 24 iz), (c5, xJ Z 6 wr), (c6, xI Z 6 wy), (c7, xI Z 6 gs), (c8, xI Z 700 gw), (c9, xI Z 700 sv), (c10, xI Z 80001 gb2), (c11, xI Z 6 mk2)])) := by
  refine x_i (by decide) rfl (Nat.le_of_ble_eq_true rfl) ?_
  intro p e s m args below meth c ls A hC hr hk hl hP hD hS
  have hx := hC.1.1
  have hb := hC.1.2.1
  have hml := hC.1.2.2.1
  have hown : s.vm.findClass RX7 = some m.cls := hC.1.2.2.2.1
  have hts := hC.1.2.2.2.2
  have hK := hC.2.1
  have qq_698 := hts (Cond.fieldLink RX7 97 "TagTowerModel" "made" "I") (List.mem_cons_of_mem _ wq_698)
  have iX7 : ∀ w ∈ wsX70, w ∈ vX7_cycles := fun w h => List.mem_cons_of_mem _ (wi_X7 w h)
  have qq_695 := hts (Cond.fieldLink RX7 159 "TagTowerModel" "many" "I") (List.mem_cons_of_mem _ wq_695)
  have qq_917 := hts (Cond.constant RX7 164 (80000)) (List.mem_cons_of_mem _ wq_917)
  have qq_694 := hts (Cond.fieldLink RX7 156 "TagTowerModel" "first" "I") (List.mem_cons_of_mem _ wq_694)
  have qq_673 := hts (Cond.constant RX7 40 (80001)) (List.mem_cons_of_mem _ wq_673)
  have qq_697 := hts (Cond.fieldLink RX7 165 "TagTowerModel" "turn" "I") (List.mem_cons_of_mem _ wq_697)
  have qq_699 := hts (Cond.fieldLink RX7 44 "TagTowerModel" "makes" "[I") (List.mem_cons_of_mem _ wq_699)
  have hl : lv_has ls 4 [(0, .ref mx)] := hl
  have hP : va_P Z.1 vwCl [(mx, .inr (7, [.int (nI th), .ref c0, .int (nI nl), .ref c1, .ref c2, .ref c3, .ref c4, .int (nI now), .ref c5, .ref c6, .ref c7, .int (nI pq), .int (nI pu), .int (nI pf), .int (nI pg), .int (nI bg), .int (nI ln), .ref c8, .int (nI sl), .ref c9, .int (nI fb), .int (nI mn), .ref c10, .int (nI tn), .int (nI md), .ref c11, .int (nI tp), .int (nI tl), .int (nI tr)])), (c0, xI Z 4 v), (c1, xI Z 24 op), (c2, xI Z 24 wk), (c3, xI Z 24 on), (c4, xI Z 24 iz), (c5, xJ Z 6 wr), (c6, xI Z 6 wy), (c7, xI Z 6 gs), (c8, xI Z 700 gw), (c9, xI Z 700 sv), (c10, xI Z 80001 gb), (c11, xI Z 6 mk)] s.heap := hP
  have hD : va_D A [(mx, .inr (7, [.int (nI th), .ref c0, .int (nI nl), .ref c1, .ref c2, .ref c3, .ref c4, .int (nI now), .ref c5, .ref c6, .ref c7, .int (nI pq), .int (nI pu), .int (nI pf), .int (nI pg), .int (nI bg), .int (nI ln), .ref c8, .int (nI sl), .ref c9, .int (nI fb), .int (nI mn), .ref c10, .int (nI tn), .int (nI md), .ref c11, .int (nI tp), .int (nI tl), .int (nI tr)])), (c0, xI Z 4 v), (c1, xI Z 24 op), (c2, xI Z 24 wk), (c3, xI Z 24 on), (c4, xI Z 24 iz), (c5, xJ Z 6 wr), (c6, xI Z 6 wy), (c7, xI Z 6 gs), (c8, xI Z 700 gw), (c9, xI Z 700 sv), (c10, xI Z 80001 gb), (c11, xI Z 6 mk)] := hD
  have hmn0 := hmn
  obtain ⟨b1, b2, b3, b4, b5⟩ := id hBV
  unfold bmany at b3 hmn
  dsimp only at b1 b2 b3 b4 b5 hmn
  have hfb := hBQ.1
  refine lv_aload_n hx hb dX7_cycles_0 rfl (lv_at hl 0 rfl) ?_
  refine x_Vi (y := yX7_isStill) (As := []) (wc := [(mx, .inr (7, [.int (nI th), .ref c0, .int (nI nl), .ref c1, .ref c2, .ref c3, .ref c4, .int (nI now), .ref c5, .ref c6, .ref c7, .int (nI pq), .int (nI pu), .int (nI pf), .int (nI pg), .int (nI bg), .int (nI ln), .ref c8, .int (nI sl), .ref c9, .int (nI fb), .int (nI mn), .ref c10, .int (nI tn), .int (nI md), .ref c11, .int (nI tp), .int (nI tl), .int (nI tr)])), (c0, xI Z 4 v), (c1, xI Z 24 op), (c2, xI Z 24 wk), (c3, xI Z 24 on), (c4, xI Z 24 iz), (c5, xJ Z 6 wr), (c6, xI Z 6 wy), (c7, xI Z 6 gs), (c8, xI Z 700 gw), (c9, xI Z 700 sv), (c10, xI Z 80001 gb), (c11, xI Z 6 mk)]) (wr := []) hC hP hD hS (c_X7_isStill l Z mx c0 c1 c2 c3 c4 c5 c6 c7 c8 c9 c10 c11 th nl now pq pu pf pg bg ln sl fb mn tn md tp tl tr v op wk on iz wy gs gw sv gb mk wr R hM7 hRV B hBQ hmn0 hBV) (gV wq_934 wq_931 wq_933 wq_28 wq_45) rfl kv_X7_isStill rfl rfl ⟨rfl, rfl⟩ rfl hl.1 rfl ⟨Nat.le_of_ble_eq_true rfl, Nat.le_of_ble_eq_true rfl⟩ [0, 1, 2, 3, 4, 5, 6, 7, 8, 9, 10, 11, 12] ([] : List Nat) rfl rfl (by decide) (by decide) (by decide) rfl dX7_cycles_1 (fun r1 w1 H locs hw hP hD hS => ?_)
  rcases hw with ⟨hst, rfl, md2, mk2, rfl⟩ | ⟨hst, rfl, md2, mk2, rfl⟩
  · have hP : va_P Z.1 vwCl [(mx, .inr (7, [.int (nI th), .ref c0, .int (nI nl), .ref c1, .ref c2, .ref c3, .ref c4, .int (nI now), .ref c5, .ref c6, .ref c7, .int (nI pq), .int (nI pu), .int (nI pf), .int (nI pg), .int (nI bg), .int (nI ln), .ref c8, .int (nI sl), .ref c9, .int (nI fb), .int (nI mn), .ref c10, .int (nI tn), .int (nI md2), .ref c11, .int (nI tp), .int (nI tl), .int (nI tr)])), (c0, xI Z 4 v), (c1, xI Z 24 op), (c2, xI Z 24 wk), (c3, xI Z 24 on), (c4, xI Z 24 iz), (c5, xJ Z 6 wr), (c6, xI Z 6 wy), (c7, xI Z 6 gs), (c8, xI Z 700 gw), (c9, xI Z 700 sv), (c10, xI Z 80001 gb), (c11, xI Z 6 mk2)] H := hP
    have hD : va_D A [(mx, .inr (7, [.int (nI th), .ref c0, .int (nI nl), .ref c1, .ref c2, .ref c3, .ref c4, .int (nI now), .ref c5, .ref c6, .ref c7, .int (nI pq), .int (nI pu), .int (nI pf), .int (nI pg), .int (nI bg), .int (nI ln), .ref c8, .int (nI sl), .ref c9, .int (nI fb), .int (nI mn), .ref c10, .int (nI tn), .int (nI md2), .ref c11, .int (nI tp), .int (nI tl), .int (nI tr)])), (c0, xI Z 4 v), (c1, xI Z 24 op), (c2, xI Z 24 wk), (c3, xI Z 24 on), (c4, xI Z 24 iz), (c5, xJ Z 6 wr), (c6, xI Z 6 wy), (c7, xI Z 6 gs), (c8, xI Z 700 gw), (c9, xI Z 700 sv), (c10, xI Z 80001 gb), (c11, xI Z 6 mk2)] := hD
    refine ln_if_eq (tgt := 9) hx hb dX7_cycles_4 (by decide) (by omega) (fun h4 => False.elim (by omega)) (fun h4 => ?_)
    refine ln_const 0 hx hb dX7_cycles_7 (by decide) ?_
    exact x_zret hC hr rfl hk hP hD hS dX7_cycles_8 (Or.inl ⟨by unfold bstep; dsimp only; rw [if_pos (show tn = 0 ∧ (B.length < 2 ∨ (xprod R (B.getD 0 0)).length = 0) from hst)], rfl, md2, mk2, rfl⟩)
  · have hP : va_P Z.1 vwCl [(mx, .inr (7, [.int (nI th), .ref c0, .int (nI nl), .ref c1, .ref c2, .ref c3, .ref c4, .int (nI now), .ref c5, .ref c6, .ref c7, .int (nI pq), .int (nI pu), .int (nI pf), .int (nI pg), .int (nI bg), .int (nI ln), .ref c8, .int (nI sl), .ref c9, .int (nI fb), .int (nI mn), .ref c10, .int (nI tn), .int (nI md2), .ref c11, .int (nI tp), .int (nI tl), .int (nI tr)])), (c0, xI Z 4 v), (c1, xI Z 24 op), (c2, xI Z 24 wk), (c3, xI Z 24 on), (c4, xI Z 24 iz), (c5, xJ Z 6 wr), (c6, xI Z 6 wy), (c7, xI Z 6 gs), (c8, xI Z 700 gw), (c9, xI Z 700 sv), (c10, xI Z 80001 gb), (c11, xI Z 6 mk2)] H := hP
    have hD : va_D A [(mx, .inr (7, [.int (nI th), .ref c0, .int (nI nl), .ref c1, .ref c2, .ref c3, .ref c4, .int (nI now), .ref c5, .ref c6, .ref c7, .int (nI pq), .int (nI pu), .int (nI pf), .int (nI pg), .int (nI bg), .int (nI ln), .ref c8, .int (nI sl), .ref c9, .int (nI fb), .int (nI mn), .ref c10, .int (nI tn), .int (nI md2), .ref c11, .int (nI tp), .int (nI tl), .int (nI tr)])), (c0, xI Z 4 v), (c1, xI Z 24 op), (c2, xI Z 24 wk), (c3, xI Z 24 on), (c4, xI Z 24 iz), (c5, xJ Z 6 wr), (c6, xI Z 6 wy), (c7, xI Z 6 gs), (c8, xI Z 700 gw), (c9, xI Z 700 sv), (c10, xI Z 80001 gb), (c11, xI Z 6 mk2)] := hD
    refine ln_if_eq (tgt := 9) hx hb dX7_cycles_4 (by decide) (by omega) (fun h4 => ?_) (fun h4 => False.elim (by omega))
    obtain ⟨b6, b7⟩ := hBV.one hst
    have hmd := Nat.mod_lt tn (show 0 < 121 by decide)
    have hbit : bitf B (0 + tn % 121) = if B.getD 0 0 = tn % 121 then 1 else 0 := by rw [show 0 + tn % 121 = 121 * 0 + tn % 121 by omega]; exact bitf_at B 0 hmd
    refine lv_aload_n hx hb dX7_cycles_9 rfl (lv_at hl 0 rfl) ?_
    refine ln_const 0 hx hb dX7_cycles_10 (by decide) ?_
    refine x_Vi (y := yX7_bitAt) (As := [.int (nI 0)]) (wc := [(mx, .inr (7, [.int (nI th), .ref c0, .int (nI nl), .ref c1, .ref c2, .ref c3, .ref c4, .int (nI now), .ref c5, .ref c6, .ref c7, .int (nI pq), .int (nI pu), .int (nI pf), .int (nI pg), .int (nI bg), .int (nI ln), .ref c8, .int (nI sl), .ref c9, .int (nI fb), .int (nI mn), .ref c10, .int (nI tn), .int (nI md2), .ref c11, .int (nI tp), .int (nI tl), .int (nI tr)])), (c0, xI Z 4 v), (c1, xI Z 24 op), (c2, xI Z 24 wk), (c3, xI Z 24 on), (c4, xI Z 24 iz), (c5, xJ Z 6 wr), (c6, xI Z 6 wy), (c7, xI Z 6 gs), (c8, xI Z 700 gw), (c9, xI Z 700 sv), (c10, xI Z 80001 gb), (c11, xI Z 6 mk2)]) (wr := []) hC hP hD hS (c_X7_bitAt l Z mx c0 c1 c2 c3 c4 c5 c6 c7 c8 c9 c10 c11 th nl now pq pu pf pg bg ln sl fb mn tn md2 tp tl tr v op wk on iz wy gs gw sv gb mk2 wr (BF (B, tn)) hBQ 0 (by omega)) (gV wq_942 wq_939 wq_941 wq_30 wq_45) rfl kv_X7_bitAt rfl rfl ⟨rfl, rfl⟩ rfl hl.1 rfl ⟨Nat.le_of_ble_eq_true rfl, Nat.le_of_ble_eq_true rfl⟩ [0, 1, 2, 3, 4, 5, 6, 7, 8, 9, 10, 11, 12] ([] : List Nat) rfl rfl (by decide) (by decide) (by decide) rfl dX7_cycles_11 (fun r11 w1 H locs hw hP hD hS => ?_)
    obtain ⟨rfl, rfl⟩ := hw
    have hP : va_P Z.1 vwCl [(mx, .inr (7, [.int (nI th), .ref c0, .int (nI nl), .ref c1, .ref c2, .ref c3, .ref c4, .int (nI now), .ref c5, .ref c6, .ref c7, .int (nI pq), .int (nI pu), .int (nI pf), .int (nI pg), .int (nI bg), .int (nI ln), .ref c8, .int (nI sl), .ref c9, .int (nI fb), .int (nI mn), .ref c10, .int (nI tn), .int (nI md2), .ref c11, .int (nI tp), .int (nI tl), .int (nI tr)])), (c0, xI Z 4 v), (c1, xI Z 24 op), (c2, xI Z 24 wk), (c3, xI Z 24 on), (c4, xI Z 24 iz), (c5, xJ Z 6 wr), (c6, xI Z 6 wy), (c7, xI Z 6 gs), (c8, xI Z 700 gw), (c9, xI Z 700 sv), (c10, xI Z 80001 gb), (c11, xI Z 6 mk2)] H := hP
    have hD : va_D A [(mx, .inr (7, [.int (nI th), .ref c0, .int (nI nl), .ref c1, .ref c2, .ref c3, .ref c4, .int (nI now), .ref c5, .ref c6, .ref c7, .int (nI pq), .int (nI pu), .int (nI pf), .int (nI pg), .int (nI bg), .int (nI ln), .ref c8, .int (nI sl), .ref c9, .int (nI fb), .int (nI mn), .ref c10, .int (nI tn), .int (nI md2), .ref c11, .int (nI tp), .int (nI tl), .int (nI tr)])), (c0, xI Z 4 v), (c1, xI Z 24 op), (c2, xI Z 24 wk), (c3, xI Z 24 on), (c4, xI Z 24 iz), (c5, xJ Z 6 wr), (c6, xI Z 6 wy), (c7, xI Z 6 gs), (c8, xI Z 700 gw), (c9, xI Z 700 sv), (c10, xI Z 80001 gb), (c11, xI Z 6 mk2)] := hD
    have hbl : bitf B (0 + tn % 121) ≤ 1 := by rw [hbit]; split <;> omega
    refine ln_top (y := nI (bitf B (0 + tn % 121))) (rfl) ?_
    refine ln_const 1 hx hb dX7_cycles_14 (by decide) ?_
    refine ln_icmp_ne (tgt := 22) hx hb dX7_cycles_15 (by decide) (by omega) (by omega) (fun h15 => ?_) (fun h15 => ?_)
    · have h0 : B.getD 0 0 ≠ tn % 121 := fun q => h15 (by rw [hbit, if_pos q])
      refine ln_const 0 hx hb dX7_cycles_22 (by decide) ?_
      refine lv_istore_n (lv' := [(1, .int (nI 0)), (0, .ref mx)]) hx hb dX7_cycles_23 rfl hl (by decide) rfl (fun ls hl => ?_)
      refine lv_aload_n hx hb dX7_cycles_24 rfl (lv_at hl 1 rfl) ?_
      refine ln_const 0 hx hb dX7_cycles_25 (by decide) ?_
      refine va_put (D := Z.1) (ci := 7) (v := .int (nI 0)) (ty := tyX7 24) (C := RX7) (T := TX7) (N := 29) hx hb hts iX7 tyX7 tyX7_ok nmX7 hown hK hP hD hS 0 rfl rfl 24 (Nat.le_of_ble_eq_true rfl) qq_698 (fun _ h9 => h9) rfl (tyX7_ok 24 (Nat.le_of_ble_eq_true rfl)) rfl rfl (Nat.le_of_ble_eq_true rfl) dX7_cycles_26 (fun H locs hP hD hS => ?_)
      have hP : va_P Z.1 vwCl [(mx, .inr (7, [.int (nI th), .ref c0, .int (nI nl), .ref c1, .ref c2, .ref c3, .ref c4, .int (nI now), .ref c5, .ref c6, .ref c7, .int (nI pq), .int (nI pu), .int (nI pf), .int (nI pg), .int (nI bg), .int (nI ln), .ref c8, .int (nI sl), .ref c9, .int (nI fb), .int (nI mn), .ref c10, .int (nI tn), .int (nI 0), .ref c11, .int (nI tp), .int (nI tl), .int (nI tr)])), (c0, xI Z 4 v), (c1, xI Z 24 op), (c2, xI Z 24 wk), (c3, xI Z 24 on), (c4, xI Z 24 iz), (c5, xJ Z 6 wr), (c6, xI Z 6 wy), (c7, xI Z 6 gs), (c8, xI Z 700 gw), (c9, xI Z 700 sv), (c10, xI Z 80001 gb), (c11, xI Z 6 mk2)] H := hP
      have hD : va_D A [(mx, .inr (7, [.int (nI th), .ref c0, .int (nI nl), .ref c1, .ref c2, .ref c3, .ref c4, .int (nI now), .ref c5, .ref c6, .ref c7, .int (nI pq), .int (nI pu), .int (nI pf), .int (nI pg), .int (nI bg), .int (nI ln), .ref c8, .int (nI sl), .ref c9, .int (nI fb), .int (nI mn), .ref c10, .int (nI tn), .int (nI 0), .ref c11, .int (nI tp), .int (nI tl), .int (nI tr)])), (c0, xI Z 4 v), (c1, xI Z 24 op), (c2, xI Z 24 wk), (c3, xI Z 24 on), (c4, xI Z 24 iz), (c5, xJ Z 6 wr), (c6, xI Z 6 wy), (c7, xI Z 6 gs), (c8, xI Z 700 gw), (c9, xI Z 700 sv), (c10, xI Z 80001 gb), (c11, xI Z 6 mk2)] := hD
      refine lv_iload_n hx hb dX7_cycles_29 rfl (lv_at hl 0 rfl) ?_
      refine ln_if_eq (tgt := 50) hx hb dX7_cycles_30 (by decide) (by omega) (fun h30 => ?_) (fun h30 => False.elim (by omega))
      obtain ⟨PL, hPL⟩ : ∃ z : List Nat, z = [] := ⟨_, rfl⟩
      have hPM2 : PM 0 mk2 PL := by rw [hPL]; exact PM0 mk2
      have hPL4 : PL.length ≤ 4 := by rw [hPL]; exact Nat.zero_le _
      have hpm1 := hPM2.1
      have hPLz : ∀ z ∈ PL, z < 121 := by rw [hPL]; intro z hz; cases hz
      refine lv_aload_n hx hb dX7_cycles_50 rfl (lv_at hl 1 rfl) ?_
      refine va_get (D := Z.1) (ci := 7) (v := .int (nI mn)) (C := RX7) (T := TX7) (N := 29) hx hb hts iX7 hown hK hP 0 rfl rfl 21 (Nat.le_of_ble_eq_true rfl) qq_695 (fun _ h9 => h9) rfl dX7_cycles_51 ?_
      refine ln_const 1 hx hb dX7_cycles_54 (by decide) ?_
      refine ln_isub (mn - 1) hx hb dX7_cycles_55 (by omega) (by first | rfl | omega) ?_
      refine ln_bipush 121 hx hb dX7_cycles_56 (by decide) ?_
      refine lv_aload_n hx hb dX7_cycles_58 rfl (lv_at hl 1 rfl) ?_
      refine va_get (D := Z.1) (ci := 7) (v := .int (nI 0)) (C := RX7) (T := TX7) (N := 29) hx hb hts iX7 hown hK hP 0 rfl rfl 24 (Nat.le_of_ble_eq_true rfl) qq_698 (fun _ h9 => h9) rfl dX7_cycles_59 ?_
      refine ln_imul 0 hx hb dX7_cycles_62 (by first | rfl | omega) ?_
      refine ln_iadd ((mn - 1) + 0) hx hb dX7_cycles_63 (by first | rfl | omega) ?_
      refine lv_ldc (v := nI 80000) hx hb hown qq_917 dX7_cycles_64 ?_
      refine ln_icmp_le (tgt := 71) hx hb dX7_cycles_66 (by decide) (by omega) (by omega) (fun h66 => ?_) (fun h66 => False.elim (by omega))
      refine lv_aload_n hx hb dX7_cycles_71 rfl (lv_at hl 1 rfl) ?_
      refine lv_aload_n hx hb dX7_cycles_72 rfl (lv_at hl 1 rfl) ?_
      refine va_get (D := Z.1) (ci := 7) (v := .int (nI fb)) (C := RX7) (T := TX7) (N := 29) hx hb hts iX7 hown hK hP 0 rfl rfl 20 (Nat.le_of_ble_eq_true rfl) qq_694 (fun _ h9 => h9) rfl dX7_cycles_73 ?_
      refine ln_const 1 hx hb dX7_cycles_76 (by decide) ?_
      refine ln_iadd (fb + 1) hx hb dX7_cycles_77 (by first | rfl | omega) ?_
      refine lv_ldc (v := nI 80001) hx hb hown qq_673 dX7_cycles_78 ?_
      refine ln_irem ((fb + 1) % 80001) hx hb dX7_cycles_80 (by omega) (by omega) (by omega) (by first | rfl | omega) ?_
      refine va_put (D := Z.1) (ci := 7) (v := .int (nI ((fb + 1) % 80001))) (ty := tyX7 20) (C := RX7) (T := TX7) (N := 29) hx hb hts iX7 tyX7 tyX7_ok nmX7 hown hK hP hD hS 0 rfl rfl 20 (Nat.le_of_ble_eq_true rfl) qq_694 (fun _ h9 => h9) rfl (tyX7_ok 20 (Nat.le_of_ble_eq_true rfl)) rfl rfl (Nat.le_of_ble_eq_true rfl) dX7_cycles_81 (fun H locs hP hD hS => ?_)
      have hP : va_P Z.1 vwCl [(mx, .inr (7, [.int (nI th), .ref c0, .int (nI nl), .ref c1, .ref c2, .ref c3, .ref c4, .int (nI now), .ref c5, .ref c6, .ref c7, .int (nI pq), .int (nI pu), .int (nI pf), .int (nI pg), .int (nI bg), .int (nI ln), .ref c8, .int (nI sl), .ref c9, .int (nI ((fb + 1) % 80001)), .int (nI mn), .ref c10, .int (nI tn), .int (nI 0), .ref c11, .int (nI tp), .int (nI tl), .int (nI tr)])), (c0, xI Z 4 v), (c1, xI Z 24 op), (c2, xI Z 24 wk), (c3, xI Z 24 on), (c4, xI Z 24 iz), (c5, xJ Z 6 wr), (c6, xI Z 6 wy), (c7, xI Z 6 gs), (c8, xI Z 700 gw), (c9, xI Z 700 sv), (c10, xI Z 80001 gb), (c11, xI Z 6 mk2)] H := hP
      have hD : va_D A [(mx, .inr (7, [.int (nI th), .ref c0, .int (nI nl), .ref c1, .ref c2, .ref c3, .ref c4, .int (nI now), .ref c5, .ref c6, .ref c7, .int (nI pq), .int (nI pu), .int (nI pf), .int (nI pg), .int (nI bg), .int (nI ln), .ref c8, .int (nI sl), .ref c9, .int (nI ((fb + 1) % 80001)), .int (nI mn), .ref c10, .int (nI tn), .int (nI 0), .ref c11, .int (nI tp), .int (nI tl), .int (nI tr)])), (c0, xI Z 4 v), (c1, xI Z 24 op), (c2, xI Z 24 wk), (c3, xI Z 24 on), (c4, xI Z 24 iz), (c5, xJ Z 6 wr), (c6, xI Z 6 wy), (c7, xI Z 6 gs), (c8, xI Z 700 gw), (c9, xI Z 700 sv), (c10, xI Z 80001 gb), (c11, xI Z 6 mk2)] := hD
      refine lv_aload_n hx hb dX7_cycles_84 rfl (lv_at hl 1 rfl) ?_
      refine lv_dup hx hb dX7_cycles_85 rfl ?_
      refine va_get (D := Z.1) (ci := 7) (v := .int (nI mn)) (C := RX7) (T := TX7) (N := 29) hx hb hts iX7 hown hK hP 0 rfl rfl 21 (Nat.le_of_ble_eq_true rfl) qq_695 (fun _ h9 => h9) rfl dX7_cycles_86 ?_
      refine ln_const 1 hx hb dX7_cycles_89 (by decide) ?_
      refine ln_isub (mn - 1) hx hb dX7_cycles_90 (by omega) (by first | rfl | omega) ?_
      refine va_put (D := Z.1) (ci := 7) (v := .int (nI (mn - 1))) (ty := tyX7 21) (C := RX7) (T := TX7) (N := 29) hx hb hts iX7 tyX7 tyX7_ok nmX7 hown hK hP hD hS 0 rfl rfl 21 (Nat.le_of_ble_eq_true rfl) qq_695 (fun _ h9 => h9) rfl (tyX7_ok 21 (Nat.le_of_ble_eq_true rfl)) rfl rfl (Nat.le_of_ble_eq_true rfl) dX7_cycles_91 (fun H locs hP hD hS => ?_)
      have hP : va_P Z.1 vwCl [(mx, .inr (7, [.int (nI th), .ref c0, .int (nI nl), .ref c1, .ref c2, .ref c3, .ref c4, .int (nI now), .ref c5, .ref c6, .ref c7, .int (nI pq), .int (nI pu), .int (nI pf), .int (nI pg), .int (nI bg), .int (nI ln), .ref c8, .int (nI sl), .ref c9, .int (nI ((fb + 1) % 80001)), .int (nI (mn - 1)), .ref c10, .int (nI tn), .int (nI 0), .ref c11, .int (nI tp), .int (nI tl), .int (nI tr)])), (c0, xI Z 4 v), (c1, xI Z 24 op), (c2, xI Z 24 wk), (c3, xI Z 24 on), (c4, xI Z 24 iz), (c5, xJ Z 6 wr), (c6, xI Z 6 wy), (c7, xI Z 6 gs), (c8, xI Z 700 gw), (c9, xI Z 700 sv), (c10, xI Z 80001 gb), (c11, xI Z 6 mk2)] H := hP
      have hD : va_D A [(mx, .inr (7, [.int (nI th), .ref c0, .int (nI nl), .ref c1, .ref c2, .ref c3, .ref c4, .int (nI now), .ref c5, .ref c6, .ref c7, .int (nI pq), .int (nI pu), .int (nI pf), .int (nI pg), .int (nI bg), .int (nI ln), .ref c8, .int (nI sl), .ref c9, .int (nI ((fb + 1) % 80001)), .int (nI (mn - 1)), .ref c10, .int (nI tn), .int (nI 0), .ref c11, .int (nI tp), .int (nI tl), .int (nI tr)])), (c0, xI Z 4 v), (c1, xI Z 24 op), (c2, xI Z 24 wk), (c3, xI Z 24 on), (c4, xI Z 24 iz), (c5, xJ Z 6 wr), (c6, xI Z 6 wy), (c7, xI Z 6 gs), (c8, xI Z 700 gw), (c9, xI Z 700 sv), (c10, xI Z 80001 gb), (c11, xI Z 6 mk2)] := hD
      refine ln_const 0 hx hb dX7_cycles_94 (by decide) ?_
      refine lv_istore_n (lv' := [(2, .int (nI 0)), (1, .int (nI 0)), (0, .ref mx)]) hx hb dX7_cycles_95 rfl hl (by decide) rfl (fun ls hl => ?_)
      have hloop96 : ∀ (nn : Nat) (j n2 : Nat) (gb2 : Nat → Nat) (H : Heap) (locs : List Loc) (ls : Array Slot) (hj : j ≤ PL.length) (hG : BQ ((fb + 1) % 80001) gb2 n2 (fun i => bitf (B ++ PL) (i + tn % 121 + 1))) (hn2 : n2 = mn - 1 + 121 * j) (hmu : PL.length - j < nn) (hP : va_P Z.1 vwCl [(mx, .inr (7, [.int (nI th), .ref c0, .int (nI nl), .ref c1, .ref c2, .ref c3, .ref c4, .int (nI now), .ref c5, .ref c6, .ref c7, .int (nI pq), .int (nI pu), .int (nI pf), .int (nI pg), .int (nI bg), .int (nI ln), .ref c8, .int (nI sl), .ref c9, .int (nI ((fb + 1) % 80001)), .int (nI n2), .ref c10, .int (nI tn), .int (nI 0), .ref c11, .int (nI tp), .int (nI tl), .int (nI tr)])), (c0, xI Z 4 v), (c1, xI Z 24 op), (c2, xI Z 24 wk), (c3, xI Z 24 on), (c4, xI Z 24 iz), (c5, xJ Z 6 wr), (c6, xI Z 6 wy), (c7, xI Z 6 gs), (c8, xI Z 700 gw), (c9, xI Z 700 sv), (c10, xI Z 80001 gb2), (c11, xI Z 6 mk2)] H) (hD : va_D A [(mx, .inr (7, [.int (nI th), .ref c0, .int (nI nl), .ref c1, .ref c2, .ref c3, .ref c4, .int (nI now), .ref c5, .ref c6, .ref c7, .int (nI pq), .int (nI pu), .int (nI pf), .int (nI pg), .int (nI bg), .int (nI ln), .ref c8, .int (nI sl), .ref c9, .int (nI ((fb + 1) % 80001)), .int (nI n2), .ref c10, .int (nI tn), .int (nI 0), .ref c11, .int (nI tp), .int (nI tl), .int (nI tr)])), (c0, xI Z 4 v), (c1, xI Z 24 op), (c2, xI Z 24 wk), (c3, xI Z 24 on), (c4, xI Z 24 iz), (c5, xJ Z 6 wr), (c6, xI Z 6 wy), (c7, xI Z 6 gs), (c8, xI Z 700 gw), (c9, xI Z 700 sv), (c10, xI Z 80001 gb2), (c11, xI Z 6 mk2)]) (hS : va_S A s.heap H locs) (hl : lv_has ls 4 [(0, .ref mx), (2, .int (nI j))]), W p l e ({ frames := 6, cells := 0, slots := 0, locals := 133 } : Room) s m args below meth c H locs 0 0 (MQ below (va_Qi (fun r w9 => (bstep R (B, tn) = none ∧ r = nI 0 ∧ ∃ md2 mk2, w9 = [(mx, .inr (7, [.int (nI th), .ref c0, .int (nI nl), .ref c1, .ref c2, .ref c3, .ref c4, .int (nI now), .ref c5, .ref c6, .ref c7, .int (nI pq), .int (nI pu), .int (nI pf), .int (nI pg), .int (nI bg), .int (nI ln), .ref c8, .int (nI sl), .ref c9, .int (nI fb), .int (nI mn), .ref c10, .int (nI tn), .int (nI md2), .ref c11, .int (nI tp), .int (nI tl), .int (nI tr)])), (c0, xI Z 4 v), (c1, xI Z 24 op), (c2, xI Z 24 wk), (c3, xI Z 24 on), (c4, xI Z 24 iz), (c5, xJ Z 6 wr), (c6, xI Z 6 wy), (c7, xI Z 6 gs), (c8, xI Z 700 gw), (c9, xI Z 700 sv), (c10, xI Z 80001 gb), (c11, xI Z 6 mk2)]) ∨ (∃ P fb2 gb2 md2 mk2, bstep R (B, tn) = some P ∧ BQ fb2 gb2 (bmany P) (BF P) ∧ r = nI 1 ∧ w9 = [(mx, .inr (7, [.int (nI th), .ref c0, .int (nI nl), .ref c1, .ref c2, .ref c3, .ref c4, .int (nI now), .ref c5, .ref c6, .ref c7, .int (nI pq), .int (nI pu), .int (nI pf), .int (nI pg), .int (nI bg), .int (nI ln), .ref c8, .int (nI sl), .ref c9, .int (nI fb2), .int (nI (bmany P)), .ref c10, .int (nI P.2), .int (nI md2), .ref c11, .int (nI tp), .int (nI tl), .int (nI tr)])), (c0, xI Z 4 v), (c1, xI Z 24 op), (c2, xI Z 24 wk), (c3, xI Z 24 on), (c4, xI Z 24 iz), (c5, xJ Z 6 wr), (c6, xI Z 6 wy), (c7, xI Z 6 gs), (c8, xI Z 700 gw), (c9, xI Z 700 sv), (c10, xI Z 80001 gb2), (c11, xI Z 6 mk2)])) (xB Z A) A) args s ({ frames := 6, cells := 0, slots := 0, locals := 133 } : Room).cells ({ frames := 6, cells := 0, slots := 0, locals := 133 } : Room).slots A) (F0 m 96 ls []) := by
        intro nn
        induction nn with
        | zero => intro j n2 gb2 H locs ls hj hG hn2 hmu; exact absurd hmu (Nat.not_lt_zero _)
        | succ nn ih =>
          intro j n2 gb2 H locs ls hj hG hn2 hmu hP hD hS hl
          refine lv_iload_n hx hb dX7_cycles_96 rfl (lv_at hl 1 rfl) ?_
          refine lv_aload_n hx hb dX7_cycles_97 rfl (lv_at hl 0 rfl) ?_
          refine va_get (D := Z.1) (ci := 7) (v := .int (nI 0)) (C := RX7) (T := TX7) (N := 29) hx hb hts iX7 hown hK hP 0 rfl rfl 24 (Nat.le_of_ble_eq_true rfl) qq_698 (fun _ h9 => h9) rfl dX7_cycles_98 ?_
          refine ln_icmp_ge (tgt := 143) hx hb dX7_cycles_101 (by decide) (by omega) (by omega) (fun h101 => ?_) (fun h101 => ?_)
          · refine lv_aload_n hx hb dX7_cycles_143 rfl (lv_at hl 0 rfl) ?_
            refine lv_aload_n hx hb dX7_cycles_144 rfl (lv_at hl 0 rfl) ?_
            refine va_get (D := Z.1) (ci := 7) (v := .int (nI tn)) (C := RX7) (T := TX7) (N := 29) hx hb hts iX7 hown hK hP 0 rfl rfl 23 (Nat.le_of_ble_eq_true rfl) qq_697 (fun _ h9 => h9) rfl dX7_cycles_145 ?_
            refine ln_const 1 hx hb dX7_cycles_148 (by decide) ?_
            refine ln_iadd (tn + 1) hx hb dX7_cycles_149 (by first | rfl | omega) ?_
            refine ln_sipush 242 hx hb dX7_cycles_150 (by decide) ?_
            refine ln_irem ((tn + 1) % 242) hx hb dX7_cycles_153 (by omega) (by omega) (by omega) (by first | rfl | omega) ?_
            refine va_put (D := Z.1) (ci := 7) (v := .int (nI ((tn + 1) % 242))) (ty := tyX7 23) (C := RX7) (T := TX7) (N := 29) hx hb hts iX7 tyX7 tyX7_ok nmX7 hown hK hP hD hS 0 rfl rfl 23 (Nat.le_of_ble_eq_true rfl) qq_697 (fun _ h9 => h9) rfl (tyX7_ok 23 (Nat.le_of_ble_eq_true rfl)) rfl rfl (Nat.le_of_ble_eq_true rfl) dX7_cycles_154 (fun H locs hP hD hS => ?_)
            have hP : va_P Z.1 vwCl [(mx, .inr (7, [.int (nI th), .ref c0, .int (nI nl), .ref c1, .ref c2, .ref c3, .ref c4, .int (nI now), .ref c5, .ref c6, .ref c7, .int (nI pq), .int (nI pu), .int (nI pf), .int (nI pg), .int (nI bg), .int (nI ln), .ref c8, .int (nI sl), .ref c9, .int (nI ((fb + 1) % 80001)), .int (nI n2), .ref c10, .int (nI ((tn + 1) % 242)), .int (nI 0), .ref c11, .int (nI tp), .int (nI tl), .int (nI tr)])), (c0, xI Z 4 v), (c1, xI Z 24 op), (c2, xI Z 24 wk), (c3, xI Z 24 on), (c4, xI Z 24 iz), (c5, xJ Z 6 wr), (c6, xI Z 6 wy), (c7, xI Z 6 gs), (c8, xI Z 700 gw), (c9, xI Z 700 sv), (c10, xI Z 80001 gb2), (c11, xI Z 6 mk2)] H := hP
            have hD : va_D A [(mx, .inr (7, [.int (nI th), .ref c0, .int (nI nl), .ref c1, .ref c2, .ref c3, .ref c4, .int (nI now), .ref c5, .ref c6, .ref c7, .int (nI pq), .int (nI pu), .int (nI pf), .int (nI pg), .int (nI bg), .int (nI ln), .ref c8, .int (nI sl), .ref c9, .int (nI ((fb + 1) % 80001)), .int (nI n2), .ref c10, .int (nI ((tn + 1) % 242)), .int (nI 0), .ref c11, .int (nI tp), .int (nI tl), .int (nI tr)])), (c0, xI Z 4 v), (c1, xI Z 24 op), (c2, xI Z 24 wk), (c3, xI Z 24 on), (c4, xI Z 24 iz), (c5, xJ Z 6 wr), (c6, xI Z 6 wy), (c7, xI Z 6 gs), (c8, xI Z 700 gw), (c9, xI Z 700 sv), (c10, xI Z 80001 gb2), (c11, xI Z 6 mk2)] := hD
            refine ln_const 1 hx hb dX7_cycles_157 (by decide) ?_
            rw [show n2 = 121 * B.length - tn % 121 - 1 + 121 * PL.length by omega] at hG hP hD
            obtain ⟨en1, en2, en3⟩ := bq_end b1 b6 hG
            rw [en1, en2] at hP hD
            exact x_zret hC hr rfl hk hP hD hS dX7_cycles_158 (Or.inr ⟨bpass (B ++ PL, tn), _, gb2, 0, mk2, by rw [hPL, List.append_nil]; exact bstep_0 hst h0, en3, rfl, rfl⟩)
          · refine ln_const 0 hx hb dX7_cycles_104 (by decide) ?_
            refine lv_istore_n (lv' := [(3, .int (nI 0)), (0, .ref mx), (2, .int (nI j))]) hx hb dX7_cycles_105 rfl hl (by decide) rfl (fun ls hl => ?_)
            have hloop106 : ∀ (nn106 : Nat) (k n3 : Nat) (gb3 : Nat → Nat) (H : Heap) (locs : List Loc) (ls : Array Slot) (hk1 : k ≤ 121) (hG3 : BQ ((fb + 1) % 80001) gb3 n3 (fun i => bitf (B ++ PL) (i + tn % 121 + 1))) (hn3 : n3 = mn - 1 + 121 * j + k) (hmu106 : 121 - k < nn106) (hP : va_P Z.1 vwCl [(mx, .inr (7, [.int (nI th), .ref c0, .int (nI nl), .ref c1, .ref c2, .ref c3, .ref c4, .int (nI now), .ref c5, .ref c6, .ref c7, .int (nI pq), .int (nI pu), .int (nI pf), .int (nI pg), .int (nI bg), .int (nI ln), .ref c8, .int (nI sl), .ref c9, .int (nI ((fb + 1) % 80001)), .int (nI n3), .ref c10, .int (nI tn), .int (nI 0), .ref c11, .int (nI tp), .int (nI tl), .int (nI tr)])), (c0, xI Z 4 v), (c1, xI Z 24 op), (c2, xI Z 24 wk), (c3, xI Z 24 on), (c4, xI Z 24 iz), (c5, xJ Z 6 wr), (c6, xI Z 6 wy), (c7, xI Z 6 gs), (c8, xI Z 700 gw), (c9, xI Z 700 sv), (c10, xI Z 80001 gb3), (c11, xI Z 6 mk2)] H) (hD : va_D A [(mx, .inr (7, [.int (nI th), .ref c0, .int (nI nl), .ref c1, .ref c2, .ref c3, .ref c4, .int (nI now), .ref c5, .ref c6, .ref c7, .int (nI pq), .int (nI pu), .int (nI pf), .int (nI pg), .int (nI bg), .int (nI ln), .ref c8, .int (nI sl), .ref c9, .int (nI ((fb + 1) % 80001)), .int (nI n3), .ref c10, .int (nI tn), .int (nI 0), .ref c11, .int (nI tp), .int (nI tl), .int (nI tr)])), (c0, xI Z 4 v), (c1, xI Z 24 op), (c2, xI Z 24 wk), (c3, xI Z 24 on), (c4, xI Z 24 iz), (c5, xJ Z 6 wr), (c6, xI Z 6 wy), (c7, xI Z 6 gs), (c8, xI Z 700 gw), (c9, xI Z 700 sv), (c10, xI Z 80001 gb3), (c11, xI Z 6 mk2)]) (hS : va_S A s.heap H locs) (hl : lv_has ls 4 [(0, .ref mx), (2, .int (nI j)), (3, .int (nI k))]), W p l e ({ frames := 6, cells := 0, slots := 0, locals := 133 } : Room) s m args below meth c H locs 0 0 (MQ below (va_Qi (fun r w9 => (bstep R (B, tn) = none ∧ r = nI 0 ∧ ∃ md2 mk2, w9 = [(mx, .inr (7, [.int (nI th), .ref c0, .int (nI nl), .ref c1, .ref c2, .ref c3, .ref c4, .int (nI now), .ref c5, .ref c6, .ref c7, .int (nI pq), .int (nI pu), .int (nI pf), .int (nI pg), .int (nI bg), .int (nI ln), .ref c8, .int (nI sl), .ref c9, .int (nI fb), .int (nI mn), .ref c10, .int (nI tn), .int (nI md2), .ref c11, .int (nI tp), .int (nI tl), .int (nI tr)])), (c0, xI Z 4 v), (c1, xI Z 24 op), (c2, xI Z 24 wk), (c3, xI Z 24 on), (c4, xI Z 24 iz), (c5, xJ Z 6 wr), (c6, xI Z 6 wy), (c7, xI Z 6 gs), (c8, xI Z 700 gw), (c9, xI Z 700 sv), (c10, xI Z 80001 gb), (c11, xI Z 6 mk2)]) ∨ (∃ P fb2 gb2 md2 mk2, bstep R (B, tn) = some P ∧ BQ fb2 gb2 (bmany P) (BF P) ∧ r = nI 1 ∧ w9 = [(mx, .inr (7, [.int (nI th), .ref c0, .int (nI nl), .ref c1, .ref c2, .ref c3, .ref c4, .int (nI now), .ref c5, .ref c6, .ref c7, .int (nI pq), .int (nI pu), .int (nI pf), .int (nI pg), .int (nI bg), .int (nI ln), .ref c8, .int (nI sl), .ref c9, .int (nI fb2), .int (nI (bmany P)), .ref c10, .int (nI P.2), .int (nI md2), .ref c11, .int (nI tp), .int (nI tl), .int (nI tr)])), (c0, xI Z 4 v), (c1, xI Z 24 op), (c2, xI Z 24 wk), (c3, xI Z 24 on), (c4, xI Z 24 iz), (c5, xJ Z 6 wr), (c6, xI Z 6 wy), (c7, xI Z 6 gs), (c8, xI Z 700 gw), (c9, xI Z 700 sv), (c10, xI Z 80001 gb2), (c11, xI Z 6 mk2)])) (xB Z A) A) args s ({ frames := 6, cells := 0, slots := 0, locals := 133 } : Room).cells ({ frames := 6, cells := 0, slots := 0, locals := 133 } : Room).slots A) (F0 m 106 ls []) := by
              intro nn106
              induction nn106 with
              | zero => intro k n3 gb3 H locs ls hk1 hG3 hn3 hmu106; exact absurd hmu106 (Nat.not_lt_zero _)
              | succ nn106 ih106 =>
                intro k n3 gb3 H locs ls hk1 hG3 hn3 hmu106 hP hD hS hl
                refine lv_iload_n hx hb dX7_cycles_106 rfl (lv_at hl 2 rfl) ?_
                refine ln_bipush 121 hx hb dX7_cycles_107 (by decide) ?_
                refine ln_icmp_ge (tgt := 137) hx hb dX7_cycles_109 (by decide) (by omega) (by omega) (fun h109 => ?_) (fun h109 => ?_)
                · refine ln_iinc (k0 := 1) (k := 1) (j + 1) (lv' := [(2, .int (nI (j + 1))), (0, .ref mx), (3, .int (nI k))]) hx hb dX7_cycles_137 hl rfl rfl (by first | rfl | omega) (by decide) rfl (fun ls hl => ?_)
                  refine lv_goto (tgt := 96) hx hb dX7_cycles_140 (by decide) ?_
                  exact ih  (j + 1) n3 gb3 _ _ _ (by omega) hG3 (by omega) (by omega) hP hD hS (lv_sub hl [1, 0] rfl)
                · refine lv_aload_n hx hb dX7_cycles_112 rfl (lv_at hl 0 rfl) ?_
                  refine lv_aload_n hx hb dX7_cycles_113 rfl (lv_at hl 0 rfl) ?_
                  refine va_get (D := Z.1) (ci := 7) (v := .ref c11) (C := RX7) (T := TX7) (N := 29) hx hb hts iX7 hown hK hP 0 rfl rfl 25 (Nat.le_of_ble_eq_true rfl) qq_699 (fun _ h9 => h9) rfl dX7_cycles_114 ?_
                  refine lv_iload_n hx hb dX7_cycles_117 rfl (lv_at hl 1 rfl) ?_
                  have hz9 := hPLz _ (getD_mem (w := PL) (i := j) (by omega))
                  refine ln_iald hx hb hK hP 12 rfl (by omega) (by omega) dX7_cycles_118 ?_
                  refine ln_top (y := nI (PL.getD j 0)) (by rw [hPM2.2 j (by omega)]) ?_
                  refine lv_iload_n hx hb dX7_cycles_119 rfl (lv_at hl 2 rfl) ?_
                  refine ln_icmp_ne (tgt := 127) hx hb dX7_cycles_120 (by decide) (by omega) (by omega) (fun h120 => ?_) (fun h120 => ?_)
                  · refine ln_const 0 hx hb dX7_cycles_127 (by decide) ?_
                    refine x_Vv (y := yX7_putBit) (As := [.int (nI 0)]) (wc := [(mx, .inr (7, [.int (nI th), .ref c0, .int (nI nl), .ref c1, .ref c2, .ref c3, .ref c4, .int (nI now), .ref c5, .ref c6, .ref c7, .int (nI pq), .int (nI pu), .int (nI pf), .int (nI pg), .int (nI bg), .int (nI ln), .ref c8, .int (nI sl), .ref c9, .int (nI ((fb + 1) % 80001)), .int (nI n3), .ref c10, .int (nI tn), .int (nI 0), .ref c11, .int (nI tp), .int (nI tl), .int (nI tr)])), (c0, xI Z 4 v), (c1, xI Z 24 op), (c2, xI Z 24 wk), (c3, xI Z 24 on), (c4, xI Z 24 iz), (c5, xJ Z 6 wr), (c6, xI Z 6 wy), (c7, xI Z 6 gs), (c8, xI Z 700 gw), (c9, xI Z 700 sv), (c10, xI Z 80001 gb3), (c11, xI Z 6 mk2)]) (wr := []) hC hP hD hS (c_X7_putBit l Z mx c0 c1 c2 c3 c4 c5 c6 c7 c8 c9 c10 c11 th nl now pq pu pf pg bg ln sl ((fb + 1) % 80001) n3 tn 0 tp tl tr v op wk on iz wy gs gw sv gb3 mk2 wr (fun i => bitf (B ++ PL) (i + tn % 121 + 1)) hG3 (by omega) 0 (by show bitf (B ++ PL) (n3 + tn % 121 + 1) = _; rw [show n3 + tn % 121 + 1 = 121 * (B.length + j) + k by omega, bitf_new (by omega), if_neg h120])) (gV wq_921 wq_918 wq_920 wq_26 wq_45) rfl kv_X7_putBit rfl rfl ⟨rfl, rfl⟩ rfl hl.1 rfl ⟨Nat.le_of_ble_eq_true rfl, Nat.le_of_ble_eq_true rfl⟩ [0, 1, 2, 3, 4, 5, 6, 7, 8, 9, 10, 11, 12] ([] : List Nat) rfl rfl (by decide) (by decide) (by decide) rfl dX7_cycles_128 (fun w1 H locs hw hP hD hS => ?_)
                    obtain ⟨gb4, hgb4, rfl⟩ := hw
                    have hP : va_P Z.1 vwCl [(mx, .inr (7, [.int (nI th), .ref c0, .int (nI nl), .ref c1, .ref c2, .ref c3, .ref c4, .int (nI now), .ref c5, .ref c6, .ref c7, .int (nI pq), .int (nI pu), .int (nI pf), .int (nI pg), .int (nI bg), .int (nI ln), .ref c8, .int (nI sl), .ref c9, .int (nI ((fb + 1) % 80001)), .int (nI (n3 + 1)), .ref c10, .int (nI tn), .int (nI 0), .ref c11, .int (nI tp), .int (nI tl), .int (nI tr)])), (c0, xI Z 4 v), (c1, xI Z 24 op), (c2, xI Z 24 wk), (c3, xI Z 24 on), (c4, xI Z 24 iz), (c5, xJ Z 6 wr), (c6, xI Z 6 wy), (c7, xI Z 6 gs), (c8, xI Z 700 gw), (c9, xI Z 700 sv), (c10, xI Z 80001 gb4), (c11, xI Z 6 mk2)] H := hP
                    have hD : va_D A [(mx, .inr (7, [.int (nI th), .ref c0, .int (nI nl), .ref c1, .ref c2, .ref c3, .ref c4, .int (nI now), .ref c5, .ref c6, .ref c7, .int (nI pq), .int (nI pu), .int (nI pf), .int (nI pg), .int (nI bg), .int (nI ln), .ref c8, .int (nI sl), .ref c9, .int (nI ((fb + 1) % 80001)), .int (nI (n3 + 1)), .ref c10, .int (nI tn), .int (nI 0), .ref c11, .int (nI tp), .int (nI tl), .int (nI tr)])), (c0, xI Z 4 v), (c1, xI Z 24 op), (c2, xI Z 24 wk), (c3, xI Z 24 on), (c4, xI Z 24 iz), (c5, xJ Z 6 wr), (c6, xI Z 6 wy), (c7, xI Z 6 gs), (c8, xI Z 700 gw), (c9, xI Z 700 sv), (c10, xI Z 80001 gb4), (c11, xI Z 6 mk2)] := hD
                    refine ln_iinc (k0 := 2) (k := 1) (k + 1) (lv' := [(3, .int (nI (k + 1))), (0, .ref mx), (2, .int (nI j))]) hx hb dX7_cycles_131 hl rfl rfl (by first | rfl | omega) (by decide) rfl (fun ls hl => ?_)
                    refine lv_goto (tgt := 106) hx hb dX7_cycles_134 (by decide) ?_
                    exact ih106  (k + 1) (n3 + 1) gb4 _ _ _ (by omega) hgb4 (by omega) (by omega) hP hD hS (lv_sub hl [1, 2, 0] rfl)
                  · refine ln_const 1 hx hb dX7_cycles_123 (by decide) ?_
                    refine lv_goto (tgt := 128) hx hb dX7_cycles_124 (by decide) ?_
                    refine x_Vv (y := yX7_putBit) (As := [.int (nI 1)]) (wc := [(mx, .inr (7, [.int (nI th), .ref c0, .int (nI nl), .ref c1, .ref c2, .ref c3, .ref c4, .int (nI now), .ref c5, .ref c6, .ref c7, .int (nI pq), .int (nI pu), .int (nI pf), .int (nI pg), .int (nI bg), .int (nI ln), .ref c8, .int (nI sl), .ref c9, .int (nI ((fb + 1) % 80001)), .int (nI n3), .ref c10, .int (nI tn), .int (nI 0), .ref c11, .int (nI tp), .int (nI tl), .int (nI tr)])), (c0, xI Z 4 v), (c1, xI Z 24 op), (c2, xI Z 24 wk), (c3, xI Z 24 on), (c4, xI Z 24 iz), (c5, xJ Z 6 wr), (c6, xI Z 6 wy), (c7, xI Z 6 gs), (c8, xI Z 700 gw), (c9, xI Z 700 sv), (c10, xI Z 80001 gb3), (c11, xI Z 6 mk2)]) (wr := []) hC hP hD hS (c_X7_putBit l Z mx c0 c1 c2 c3 c4 c5 c6 c7 c8 c9 c10 c11 th nl now pq pu pf pg bg ln sl ((fb + 1) % 80001) n3 tn 0 tp tl tr v op wk on iz wy gs gw sv gb3 mk2 wr (fun i => bitf (B ++ PL) (i + tn % 121 + 1)) hG3 (by omega) 1 (by show bitf (B ++ PL) (n3 + tn % 121 + 1) = _; rw [show n3 + tn % 121 + 1 = 121 * (B.length + j) + k by omega, bitf_new (by omega), if_pos h120])) (gV wq_921 wq_918 wq_920 wq_26 wq_45) rfl kv_X7_putBit rfl rfl ⟨rfl, rfl⟩ rfl hl.1 rfl ⟨Nat.le_of_ble_eq_true rfl, Nat.le_of_ble_eq_true rfl⟩ [0, 1, 2, 3, 4, 5, 6, 7, 8, 9, 10, 11, 12] ([] : List Nat) rfl rfl (by decide) (by decide) (by decide) rfl dX7_cycles_128 (fun w1 H locs hw hP hD hS => ?_)
                    obtain ⟨gb4, hgb4, rfl⟩ := hw
                    have hP : va_P Z.1 vwCl [(mx, .inr (7, [.int (nI th), .ref c0, .int (nI nl), .ref c1, .ref c2, .ref c3, .ref c4, .int (nI now), .ref c5, .ref c6, .ref c7, .int (nI pq), .int (nI pu), .int (nI pf), .int (nI pg), .int (nI bg), .int (nI ln), .ref c8, .int (nI sl), .ref c9, .int (nI ((fb + 1) % 80001)), .int (nI (n3 + 1)), .ref c10, .int (nI tn), .int (nI 0), .ref c11, .int (nI tp), .int (nI tl), .int (nI tr)])), (c0, xI Z 4 v), (c1, xI Z 24 op), (c2, xI Z 24 wk), (c3, xI Z 24 on), (c4, xI Z 24 iz), (c5, xJ Z 6 wr), (c6, xI Z 6 wy), (c7, xI Z 6 gs), (c8, xI Z 700 gw), (c9, xI Z 700 sv), (c10, xI Z 80001 gb4), (c11, xI Z 6 mk2)] H := hP
                    have hD : va_D A [(mx, .inr (7, [.int (nI th), .ref c0, .int (nI nl), .ref c1, .ref c2, .ref c3, .ref c4, .int (nI now), .ref c5, .ref c6, .ref c7, .int (nI pq), .int (nI pu), .int (nI pf), .int (nI pg), .int (nI bg), .int (nI ln), .ref c8, .int (nI sl), .ref c9, .int (nI ((fb + 1) % 80001)), .int (nI (n3 + 1)), .ref c10, .int (nI tn), .int (nI 0), .ref c11, .int (nI tp), .int (nI tl), .int (nI tr)])), (c0, xI Z 4 v), (c1, xI Z 24 op), (c2, xI Z 24 wk), (c3, xI Z 24 on), (c4, xI Z 24 iz), (c5, xJ Z 6 wr), (c6, xI Z 6 wy), (c7, xI Z 6 gs), (c8, xI Z 700 gw), (c9, xI Z 700 sv), (c10, xI Z 80001 gb4), (c11, xI Z 6 mk2)] := hD
                    refine ln_iinc (k0 := 2) (k := 1) (k + 1) (lv' := [(3, .int (nI (k + 1))), (0, .ref mx), (2, .int (nI j))]) hx hb dX7_cycles_131 hl rfl rfl (by first | rfl | omega) (by decide) rfl (fun ls hl => ?_)
                    refine lv_goto (tgt := 106) hx hb dX7_cycles_134 (by decide) ?_
                    exact ih106  (k + 1) (n3 + 1) gb4 _ _ _ (by omega) hgb4 (by omega) (by omega) hP hD hS (lv_sub hl [1, 2, 0] rfl)
            exact hloop106 ((121 - 0) + 1) 0 n2 gb2 _ _ _ (Nat.zero_le _) hG (by omega) (Nat.lt_succ_self _) hP hD hS (lv_sub hl [1, 2, 0] rfl)
      exact hloop96 ((PL.length - 0) + 1) 0 (mn - 1) gb _ _ _ (Nat.zero_le _) ((hBQ.drop1 (by omega)).congr (fun i hi => by show bitf (B ++ PL) (i + tn % 121 + 1) = bitf B (i + 1 + tn % 121); rw [bitf_app (by omega), show i + tn % 121 + 1 = i + 1 + tn % 121 by omega])) (by omega) (Nat.lt_succ_self _) hP hD hS (lv_sub hl [2, 0] rfl)
    · have h0 : B.getD 0 0 = tn % 121 := by
        rw [hbit] at h15
        split at h15
        · assumption
        · omega
      refine ln_const 1 hx hb dX7_cycles_18 (by decide) ?_
      refine lv_goto (tgt := 23) hx hb dX7_cycles_19 (by decide) ?_
      refine lv_istore_n (lv' := [(1, .int (nI 1)), (0, .ref mx)]) hx hb dX7_cycles_23 rfl hl (by decide) rfl (fun ls hl => ?_)
      refine lv_aload_n hx hb dX7_cycles_24 rfl (lv_at hl 1 rfl) ?_
      refine ln_const 0 hx hb dX7_cycles_25 (by decide) ?_
      refine va_put (D := Z.1) (ci := 7) (v := .int (nI 0)) (ty := tyX7 24) (C := RX7) (T := TX7) (N := 29) hx hb hts iX7 tyX7 tyX7_ok nmX7 hown hK hP hD hS 0 rfl rfl 24 (Nat.le_of_ble_eq_true rfl) qq_698 (fun _ h9 => h9) rfl (tyX7_ok 24 (Nat.le_of_ble_eq_true rfl)) rfl rfl (Nat.le_of_ble_eq_true rfl) dX7_cycles_26 (fun H locs hP hD hS => ?_)
      have hP : va_P Z.1 vwCl [(mx, .inr (7, [.int (nI th), .ref c0, .int (nI nl), .ref c1, .ref c2, .ref c3, .ref c4, .int (nI now), .ref c5, .ref c6, .ref c7, .int (nI pq), .int (nI pu), .int (nI pf), .int (nI pg), .int (nI bg), .int (nI ln), .ref c8, .int (nI sl), .ref c9, .int (nI fb), .int (nI mn), .ref c10, .int (nI tn), .int (nI 0), .ref c11, .int (nI tp), .int (nI tl), .int (nI tr)])), (c0, xI Z 4 v), (c1, xI Z 24 op), (c2, xI Z 24 wk), (c3, xI Z 24 on), (c4, xI Z 24 iz), (c5, xJ Z 6 wr), (c6, xI Z 6 wy), (c7, xI Z 6 gs), (c8, xI Z 700 gw), (c9, xI Z 700 sv), (c10, xI Z 80001 gb), (c11, xI Z 6 mk2)] H := hP
      have hD : va_D A [(mx, .inr (7, [.int (nI th), .ref c0, .int (nI nl), .ref c1, .ref c2, .ref c3, .ref c4, .int (nI now), .ref c5, .ref c6, .ref c7, .int (nI pq), .int (nI pu), .int (nI pf), .int (nI pg), .int (nI bg), .int (nI ln), .ref c8, .int (nI sl), .ref c9, .int (nI fb), .int (nI mn), .ref c10, .int (nI tn), .int (nI 0), .ref c11, .int (nI tp), .int (nI tl), .int (nI tr)])), (c0, xI Z 4 v), (c1, xI Z 24 op), (c2, xI Z 24 wk), (c3, xI Z 24 on), (c4, xI Z 24 iz), (c5, xJ Z 6 wr), (c6, xI Z 6 wy), (c7, xI Z 6 gs), (c8, xI Z 700 gw), (c9, xI Z 700 sv), (c10, xI Z 80001 gb), (c11, xI Z 6 mk2)] := hD
      refine lv_iload_n hx hb dX7_cycles_29 rfl (lv_at hl 0 rfl) ?_
      refine ln_if_eq (tgt := 50) hx hb dX7_cycles_30 (by decide) (by omega) (fun h30 => False.elim (by omega)) (fun h30 => ?_)
      refine lv_aload_n hx hb dX7_cycles_33 rfl (lv_at hl 1 rfl) ?_
      refine va_get (D := Z.1) (ci := 7) (v := .int (nI tn)) (C := RX7) (T := TX7) (N := 29) hx hb hts iX7 hown hK hP 0 rfl rfl 23 (Nat.le_of_ble_eq_true rfl) qq_697 (fun _ h9 => h9) rfl dX7_cycles_34 ?_
      refine ln_bipush 121 hx hb dX7_cycles_37 (by decide) ?_
      refine ln_icmp_ge (tgt := 50) hx hb dX7_cycles_39 (by decide) (by omega) (by omega) (fun h39 => ?_) (fun h39 => ?_)
      · obtain ⟨PL, hPL⟩ : ∃ z : List Nat, z = bapp R tn := ⟨_, rfl⟩
        have hPM2 : PM 0 mk2 PL := by rw [hPL]; unfold bapp; rw [if_neg (by omega)]; exact PM0 mk2
        have hPL4 : PL.length ≤ 4 := by rw [hPL]; exact bapp_le hRV tn
        have hpm1 := hPM2.1
        have hPLz : ∀ z ∈ PL, z < 121 := by rw [hPL]; exact bapp_121 hRV tn
        refine lv_aload_n hx hb dX7_cycles_50 rfl (lv_at hl 1 rfl) ?_
        refine va_get (D := Z.1) (ci := 7) (v := .int (nI mn)) (C := RX7) (T := TX7) (N := 29) hx hb hts iX7 hown hK hP 0 rfl rfl 21 (Nat.le_of_ble_eq_true rfl) qq_695 (fun _ h9 => h9) rfl dX7_cycles_51 ?_
        refine ln_const 1 hx hb dX7_cycles_54 (by decide) ?_
        refine ln_isub (mn - 1) hx hb dX7_cycles_55 (by omega) (by first | rfl | omega) ?_
        refine ln_bipush 121 hx hb dX7_cycles_56 (by decide) ?_
        refine lv_aload_n hx hb dX7_cycles_58 rfl (lv_at hl 1 rfl) ?_
        refine va_get (D := Z.1) (ci := 7) (v := .int (nI 0)) (C := RX7) (T := TX7) (N := 29) hx hb hts iX7 hown hK hP 0 rfl rfl 24 (Nat.le_of_ble_eq_true rfl) qq_698 (fun _ h9 => h9) rfl dX7_cycles_59 ?_
        refine ln_imul 0 hx hb dX7_cycles_62 (by first | rfl | omega) ?_
        refine ln_iadd ((mn - 1) + 0) hx hb dX7_cycles_63 (by first | rfl | omega) ?_
        refine lv_ldc (v := nI 80000) hx hb hown qq_917 dX7_cycles_64 ?_
        refine ln_icmp_le (tgt := 71) hx hb dX7_cycles_66 (by decide) (by omega) (by omega) (fun h66 => ?_) (fun h66 => ?_)
        · refine lv_aload_n hx hb dX7_cycles_71 rfl (lv_at hl 1 rfl) ?_
          refine lv_aload_n hx hb dX7_cycles_72 rfl (lv_at hl 1 rfl) ?_
          refine va_get (D := Z.1) (ci := 7) (v := .int (nI fb)) (C := RX7) (T := TX7) (N := 29) hx hb hts iX7 hown hK hP 0 rfl rfl 20 (Nat.le_of_ble_eq_true rfl) qq_694 (fun _ h9 => h9) rfl dX7_cycles_73 ?_
          refine ln_const 1 hx hb dX7_cycles_76 (by decide) ?_
          refine ln_iadd (fb + 1) hx hb dX7_cycles_77 (by first | rfl | omega) ?_
          refine lv_ldc (v := nI 80001) hx hb hown qq_673 dX7_cycles_78 ?_
          refine ln_irem ((fb + 1) % 80001) hx hb dX7_cycles_80 (by omega) (by omega) (by omega) (by first | rfl | omega) ?_
          refine va_put (D := Z.1) (ci := 7) (v := .int (nI ((fb + 1) % 80001))) (ty := tyX7 20) (C := RX7) (T := TX7) (N := 29) hx hb hts iX7 tyX7 tyX7_ok nmX7 hown hK hP hD hS 0 rfl rfl 20 (Nat.le_of_ble_eq_true rfl) qq_694 (fun _ h9 => h9) rfl (tyX7_ok 20 (Nat.le_of_ble_eq_true rfl)) rfl rfl (Nat.le_of_ble_eq_true rfl) dX7_cycles_81 (fun H locs hP hD hS => ?_)
          have hP : va_P Z.1 vwCl [(mx, .inr (7, [.int (nI th), .ref c0, .int (nI nl), .ref c1, .ref c2, .ref c3, .ref c4, .int (nI now), .ref c5, .ref c6, .ref c7, .int (nI pq), .int (nI pu), .int (nI pf), .int (nI pg), .int (nI bg), .int (nI ln), .ref c8, .int (nI sl), .ref c9, .int (nI ((fb + 1) % 80001)), .int (nI mn), .ref c10, .int (nI tn), .int (nI 0), .ref c11, .int (nI tp), .int (nI tl), .int (nI tr)])), (c0, xI Z 4 v), (c1, xI Z 24 op), (c2, xI Z 24 wk), (c3, xI Z 24 on), (c4, xI Z 24 iz), (c5, xJ Z 6 wr), (c6, xI Z 6 wy), (c7, xI Z 6 gs), (c8, xI Z 700 gw), (c9, xI Z 700 sv), (c10, xI Z 80001 gb), (c11, xI Z 6 mk2)] H := hP
          have hD : va_D A [(mx, .inr (7, [.int (nI th), .ref c0, .int (nI nl), .ref c1, .ref c2, .ref c3, .ref c4, .int (nI now), .ref c5, .ref c6, .ref c7, .int (nI pq), .int (nI pu), .int (nI pf), .int (nI pg), .int (nI bg), .int (nI ln), .ref c8, .int (nI sl), .ref c9, .int (nI ((fb + 1) % 80001)), .int (nI mn), .ref c10, .int (nI tn), .int (nI 0), .ref c11, .int (nI tp), .int (nI tl), .int (nI tr)])), (c0, xI Z 4 v), (c1, xI Z 24 op), (c2, xI Z 24 wk), (c3, xI Z 24 on), (c4, xI Z 24 iz), (c5, xJ Z 6 wr), (c6, xI Z 6 wy), (c7, xI Z 6 gs), (c8, xI Z 700 gw), (c9, xI Z 700 sv), (c10, xI Z 80001 gb), (c11, xI Z 6 mk2)] := hD
          refine lv_aload_n hx hb dX7_cycles_84 rfl (lv_at hl 1 rfl) ?_
          refine lv_dup hx hb dX7_cycles_85 rfl ?_
          refine va_get (D := Z.1) (ci := 7) (v := .int (nI mn)) (C := RX7) (T := TX7) (N := 29) hx hb hts iX7 hown hK hP 0 rfl rfl 21 (Nat.le_of_ble_eq_true rfl) qq_695 (fun _ h9 => h9) rfl dX7_cycles_86 ?_
          refine ln_const 1 hx hb dX7_cycles_89 (by decide) ?_
          refine ln_isub (mn - 1) hx hb dX7_cycles_90 (by omega) (by first | rfl | omega) ?_
          refine va_put (D := Z.1) (ci := 7) (v := .int (nI (mn - 1))) (ty := tyX7 21) (C := RX7) (T := TX7) (N := 29) hx hb hts iX7 tyX7 tyX7_ok nmX7 hown hK hP hD hS 0 rfl rfl 21 (Nat.le_of_ble_eq_true rfl) qq_695 (fun _ h9 => h9) rfl (tyX7_ok 21 (Nat.le_of_ble_eq_true rfl)) rfl rfl (Nat.le_of_ble_eq_true rfl) dX7_cycles_91 (fun H locs hP hD hS => ?_)
          have hP : va_P Z.1 vwCl [(mx, .inr (7, [.int (nI th), .ref c0, .int (nI nl), .ref c1, .ref c2, .ref c3, .ref c4, .int (nI now), .ref c5, .ref c6, .ref c7, .int (nI pq), .int (nI pu), .int (nI pf), .int (nI pg), .int (nI bg), .int (nI ln), .ref c8, .int (nI sl), .ref c9, .int (nI ((fb + 1) % 80001)), .int (nI (mn - 1)), .ref c10, .int (nI tn), .int (nI 0), .ref c11, .int (nI tp), .int (nI tl), .int (nI tr)])), (c0, xI Z 4 v), (c1, xI Z 24 op), (c2, xI Z 24 wk), (c3, xI Z 24 on), (c4, xI Z 24 iz), (c5, xJ Z 6 wr), (c6, xI Z 6 wy), (c7, xI Z 6 gs), (c8, xI Z 700 gw), (c9, xI Z 700 sv), (c10, xI Z 80001 gb), (c11, xI Z 6 mk2)] H := hP
          have hD : va_D A [(mx, .inr (7, [.int (nI th), .ref c0, .int (nI nl), .ref c1, .ref c2, .ref c3, .ref c4, .int (nI now), .ref c5, .ref c6, .ref c7, .int (nI pq), .int (nI pu), .int (nI pf), .int (nI pg), .int (nI bg), .int (nI ln), .ref c8, .int (nI sl), .ref c9, .int (nI ((fb + 1) % 80001)), .int (nI (mn - 1)), .ref c10, .int (nI tn), .int (nI 0), .ref c11, .int (nI tp), .int (nI tl), .int (nI tr)])), (c0, xI Z 4 v), (c1, xI Z 24 op), (c2, xI Z 24 wk), (c3, xI Z 24 on), (c4, xI Z 24 iz), (c5, xJ Z 6 wr), (c6, xI Z 6 wy), (c7, xI Z 6 gs), (c8, xI Z 700 gw), (c9, xI Z 700 sv), (c10, xI Z 80001 gb), (c11, xI Z 6 mk2)] := hD
          refine ln_const 0 hx hb dX7_cycles_94 (by decide) ?_
          refine lv_istore_n (lv' := [(2, .int (nI 0)), (1, .int (nI 1)), (0, .ref mx)]) hx hb dX7_cycles_95 rfl hl (by decide) rfl (fun ls hl => ?_)
          have hloop96 : ∀ (nn : Nat) (j n2 : Nat) (gb2 : Nat → Nat) (H : Heap) (locs : List Loc) (ls : Array Slot) (hj : j ≤ PL.length) (hG : BQ ((fb + 1) % 80001) gb2 n2 (fun i => bitf (B ++ PL) (i + tn % 121 + 1))) (hn2 : n2 = mn - 1 + 121 * j) (hmu : PL.length - j < nn) (hP : va_P Z.1 vwCl [(mx, .inr (7, [.int (nI th), .ref c0, .int (nI nl), .ref c1, .ref c2, .ref c3, .ref c4, .int (nI now), .ref c5, .ref c6, .ref c7, .int (nI pq), .int (nI pu), .int (nI pf), .int (nI pg), .int (nI bg), .int (nI ln), .ref c8, .int (nI sl), .ref c9, .int (nI ((fb + 1) % 80001)), .int (nI n2), .ref c10, .int (nI tn), .int (nI 0), .ref c11, .int (nI tp), .int (nI tl), .int (nI tr)])), (c0, xI Z 4 v), (c1, xI Z 24 op), (c2, xI Z 24 wk), (c3, xI Z 24 on), (c4, xI Z 24 iz), (c5, xJ Z 6 wr), (c6, xI Z 6 wy), (c7, xI Z 6 gs), (c8, xI Z 700 gw), (c9, xI Z 700 sv), (c10, xI Z 80001 gb2), (c11, xI Z 6 mk2)] H) (hD : va_D A [(mx, .inr (7, [.int (nI th), .ref c0, .int (nI nl), .ref c1, .ref c2, .ref c3, .ref c4, .int (nI now), .ref c5, .ref c6, .ref c7, .int (nI pq), .int (nI pu), .int (nI pf), .int (nI pg), .int (nI bg), .int (nI ln), .ref c8, .int (nI sl), .ref c9, .int (nI ((fb + 1) % 80001)), .int (nI n2), .ref c10, .int (nI tn), .int (nI 0), .ref c11, .int (nI tp), .int (nI tl), .int (nI tr)])), (c0, xI Z 4 v), (c1, xI Z 24 op), (c2, xI Z 24 wk), (c3, xI Z 24 on), (c4, xI Z 24 iz), (c5, xJ Z 6 wr), (c6, xI Z 6 wy), (c7, xI Z 6 gs), (c8, xI Z 700 gw), (c9, xI Z 700 sv), (c10, xI Z 80001 gb2), (c11, xI Z 6 mk2)]) (hS : va_S A s.heap H locs) (hl : lv_has ls 4 [(0, .ref mx), (2, .int (nI j))]), W p l e ({ frames := 6, cells := 0, slots := 0, locals := 133 } : Room) s m args below meth c H locs 0 0 (MQ below (va_Qi (fun r w9 => (bstep R (B, tn) = none ∧ r = nI 0 ∧ ∃ md2 mk2, w9 = [(mx, .inr (7, [.int (nI th), .ref c0, .int (nI nl), .ref c1, .ref c2, .ref c3, .ref c4, .int (nI now), .ref c5, .ref c6, .ref c7, .int (nI pq), .int (nI pu), .int (nI pf), .int (nI pg), .int (nI bg), .int (nI ln), .ref c8, .int (nI sl), .ref c9, .int (nI fb), .int (nI mn), .ref c10, .int (nI tn), .int (nI md2), .ref c11, .int (nI tp), .int (nI tl), .int (nI tr)])), (c0, xI Z 4 v), (c1, xI Z 24 op), (c2, xI Z 24 wk), (c3, xI Z 24 on), (c4, xI Z 24 iz), (c5, xJ Z 6 wr), (c6, xI Z 6 wy), (c7, xI Z 6 gs), (c8, xI Z 700 gw), (c9, xI Z 700 sv), (c10, xI Z 80001 gb), (c11, xI Z 6 mk2)]) ∨ (∃ P fb2 gb2 md2 mk2, bstep R (B, tn) = some P ∧ BQ fb2 gb2 (bmany P) (BF P) ∧ r = nI 1 ∧ w9 = [(mx, .inr (7, [.int (nI th), .ref c0, .int (nI nl), .ref c1, .ref c2, .ref c3, .ref c4, .int (nI now), .ref c5, .ref c6, .ref c7, .int (nI pq), .int (nI pu), .int (nI pf), .int (nI pg), .int (nI bg), .int (nI ln), .ref c8, .int (nI sl), .ref c9, .int (nI fb2), .int (nI (bmany P)), .ref c10, .int (nI P.2), .int (nI md2), .ref c11, .int (nI tp), .int (nI tl), .int (nI tr)])), (c0, xI Z 4 v), (c1, xI Z 24 op), (c2, xI Z 24 wk), (c3, xI Z 24 on), (c4, xI Z 24 iz), (c5, xJ Z 6 wr), (c6, xI Z 6 wy), (c7, xI Z 6 gs), (c8, xI Z 700 gw), (c9, xI Z 700 sv), (c10, xI Z 80001 gb2), (c11, xI Z 6 mk2)])) (xB Z A) A) args s ({ frames := 6, cells := 0, slots := 0, locals := 133 } : Room).cells ({ frames := 6, cells := 0, slots := 0, locals := 133 } : Room).slots A) (F0 m 96 ls []) := by
            intro nn
            induction nn with
            | zero => intro j n2 gb2 H locs ls hj hG hn2 hmu; exact absurd hmu (Nat.not_lt_zero _)
            | succ nn ih =>
              intro j n2 gb2 H locs ls hj hG hn2 hmu hP hD hS hl
              refine lv_iload_n hx hb dX7_cycles_96 rfl (lv_at hl 1 rfl) ?_
              refine lv_aload_n hx hb dX7_cycles_97 rfl (lv_at hl 0 rfl) ?_
              refine va_get (D := Z.1) (ci := 7) (v := .int (nI 0)) (C := RX7) (T := TX7) (N := 29) hx hb hts iX7 hown hK hP 0 rfl rfl 24 (Nat.le_of_ble_eq_true rfl) qq_698 (fun _ h9 => h9) rfl dX7_cycles_98 ?_
              refine ln_icmp_ge (tgt := 143) hx hb dX7_cycles_101 (by decide) (by omega) (by omega) (fun h101 => ?_) (fun h101 => ?_)
              · refine lv_aload_n hx hb dX7_cycles_143 rfl (lv_at hl 0 rfl) ?_
                refine lv_aload_n hx hb dX7_cycles_144 rfl (lv_at hl 0 rfl) ?_
                refine va_get (D := Z.1) (ci := 7) (v := .int (nI tn)) (C := RX7) (T := TX7) (N := 29) hx hb hts iX7 hown hK hP 0 rfl rfl 23 (Nat.le_of_ble_eq_true rfl) qq_697 (fun _ h9 => h9) rfl dX7_cycles_145 ?_
                refine ln_const 1 hx hb dX7_cycles_148 (by decide) ?_
                refine ln_iadd (tn + 1) hx hb dX7_cycles_149 (by first | rfl | omega) ?_
                refine ln_sipush 242 hx hb dX7_cycles_150 (by decide) ?_
                refine ln_irem ((tn + 1) % 242) hx hb dX7_cycles_153 (by omega) (by omega) (by omega) (by first | rfl | omega) ?_
                refine va_put (D := Z.1) (ci := 7) (v := .int (nI ((tn + 1) % 242))) (ty := tyX7 23) (C := RX7) (T := TX7) (N := 29) hx hb hts iX7 tyX7 tyX7_ok nmX7 hown hK hP hD hS 0 rfl rfl 23 (Nat.le_of_ble_eq_true rfl) qq_697 (fun _ h9 => h9) rfl (tyX7_ok 23 (Nat.le_of_ble_eq_true rfl)) rfl rfl (Nat.le_of_ble_eq_true rfl) dX7_cycles_154 (fun H locs hP hD hS => ?_)
                have hP : va_P Z.1 vwCl [(mx, .inr (7, [.int (nI th), .ref c0, .int (nI nl), .ref c1, .ref c2, .ref c3, .ref c4, .int (nI now), .ref c5, .ref c6, .ref c7, .int (nI pq), .int (nI pu), .int (nI pf), .int (nI pg), .int (nI bg), .int (nI ln), .ref c8, .int (nI sl), .ref c9, .int (nI ((fb + 1) % 80001)), .int (nI n2), .ref c10, .int (nI ((tn + 1) % 242)), .int (nI 0), .ref c11, .int (nI tp), .int (nI tl), .int (nI tr)])), (c0, xI Z 4 v), (c1, xI Z 24 op), (c2, xI Z 24 wk), (c3, xI Z 24 on), (c4, xI Z 24 iz), (c5, xJ Z 6 wr), (c6, xI Z 6 wy), (c7, xI Z 6 gs), (c8, xI Z 700 gw), (c9, xI Z 700 sv), (c10, xI Z 80001 gb2), (c11, xI Z 6 mk2)] H := hP
                have hD : va_D A [(mx, .inr (7, [.int (nI th), .ref c0, .int (nI nl), .ref c1, .ref c2, .ref c3, .ref c4, .int (nI now), .ref c5, .ref c6, .ref c7, .int (nI pq), .int (nI pu), .int (nI pf), .int (nI pg), .int (nI bg), .int (nI ln), .ref c8, .int (nI sl), .ref c9, .int (nI ((fb + 1) % 80001)), .int (nI n2), .ref c10, .int (nI ((tn + 1) % 242)), .int (nI 0), .ref c11, .int (nI tp), .int (nI tl), .int (nI tr)])), (c0, xI Z 4 v), (c1, xI Z 24 op), (c2, xI Z 24 wk), (c3, xI Z 24 on), (c4, xI Z 24 iz), (c5, xJ Z 6 wr), (c6, xI Z 6 wy), (c7, xI Z 6 gs), (c8, xI Z 700 gw), (c9, xI Z 700 sv), (c10, xI Z 80001 gb2), (c11, xI Z 6 mk2)] := hD
                refine ln_const 1 hx hb dX7_cycles_157 (by decide) ?_
                rw [show n2 = 121 * B.length - tn % 121 - 1 + 121 * PL.length by omega] at hG hP hD
                obtain ⟨en1, en2, en3⟩ := bq_end b1 b6 hG
                rw [en1, en2] at hP hD
                exact x_zret hC hr rfl hk hP hD hS dX7_cycles_158 (Or.inr ⟨bpass (B ++ PL, tn), _, gb2, 0, mk2, by unfold bstep; dsimp only; rw [if_neg (show ¬ (tn = 0 ∧ (B.length < 2 ∨ (xprod R (B.getD 0 0)).length = 0)) from hst), if_pos h0, if_neg (by rw [← hPL]; omega), hPL], en3, rfl, rfl⟩)
              · refine ln_const 0 hx hb dX7_cycles_104 (by decide) ?_
                refine lv_istore_n (lv' := [(3, .int (nI 0)), (0, .ref mx), (2, .int (nI j))]) hx hb dX7_cycles_105 rfl hl (by decide) rfl (fun ls hl => ?_)
                have hloop106 : ∀ (nn106 : Nat) (k n3 : Nat) (gb3 : Nat → Nat) (H : Heap) (locs : List Loc) (ls : Array Slot) (hk1 : k ≤ 121) (hG3 : BQ ((fb + 1) % 80001) gb3 n3 (fun i => bitf (B ++ PL) (i + tn % 121 + 1))) (hn3 : n3 = mn - 1 + 121 * j + k) (hmu106 : 121 - k < nn106) (hP : va_P Z.1 vwCl [(mx, .inr (7, [.int (nI th), .ref c0, .int (nI nl), .ref c1, .ref c2, .ref c3, .ref c4, .int (nI now), .ref c5, .ref c6, .ref c7, .int (nI pq), .int (nI pu), .int (nI pf), .int (nI pg), .int (nI bg), .int (nI ln), .ref c8, .int (nI sl), .ref c9, .int (nI ((fb + 1) % 80001)), .int (nI n3), .ref c10, .int (nI tn), .int (nI 0), .ref c11, .int (nI tp), .int (nI tl), .int (nI tr)])), (c0, xI Z 4 v), (c1, xI Z 24 op), (c2, xI Z 24 wk), (c3, xI Z 24 on), (c4, xI Z 24 iz), (c5, xJ Z 6 wr), (c6, xI Z 6 wy), (c7, xI Z 6 gs), (c8, xI Z 700 gw), (c9, xI Z 700 sv), (c10, xI Z 80001 gb3), (c11, xI Z 6 mk2)] H) (hD : va_D A [(mx, .inr (7, [.int (nI th), .ref c0, .int (nI nl), .ref c1, .ref c2, .ref c3, .ref c4, .int (nI now), .ref c5, .ref c6, .ref c7, .int (nI pq), .int (nI pu), .int (nI pf), .int (nI pg), .int (nI bg), .int (nI ln), .ref c8, .int (nI sl), .ref c9, .int (nI ((fb + 1) % 80001)), .int (nI n3), .ref c10, .int (nI tn), .int (nI 0), .ref c11, .int (nI tp), .int (nI tl), .int (nI tr)])), (c0, xI Z 4 v), (c1, xI Z 24 op), (c2, xI Z 24 wk), (c3, xI Z 24 on), (c4, xI Z 24 iz), (c5, xJ Z 6 wr), (c6, xI Z 6 wy), (c7, xI Z 6 gs), (c8, xI Z 700 gw), (c9, xI Z 700 sv), (c10, xI Z 80001 gb3), (c11, xI Z 6 mk2)]) (hS : va_S A s.heap H locs) (hl : lv_has ls 4 [(0, .ref mx), (2, .int (nI j)), (3, .int (nI k))]), W p l e ({ frames := 6, cells := 0, slots := 0, locals := 133 } : Room) s m args below meth c H locs 0 0 (MQ below (va_Qi (fun r w9 => (bstep R (B, tn) = none ∧ r = nI 0 ∧ ∃ md2 mk2, w9 = [(mx, .inr (7, [.int (nI th), .ref c0, .int (nI nl), .ref c1, .ref c2, .ref c3, .ref c4, .int (nI now), .ref c5, .ref c6, .ref c7, .int (nI pq), .int (nI pu), .int (nI pf), .int (nI pg), .int (nI bg), .int (nI ln), .ref c8, .int (nI sl), .ref c9, .int (nI fb), .int (nI mn), .ref c10, .int (nI tn), .int (nI md2), .ref c11, .int (nI tp), .int (nI tl), .int (nI tr)])), (c0, xI Z 4 v), (c1, xI Z 24 op), (c2, xI Z 24 wk), (c3, xI Z 24 on), (c4, xI Z 24 iz), (c5, xJ Z 6 wr), (c6, xI Z 6 wy), (c7, xI Z 6 gs), (c8, xI Z 700 gw), (c9, xI Z 700 sv), (c10, xI Z 80001 gb), (c11, xI Z 6 mk2)]) ∨ (∃ P fb2 gb2 md2 mk2, bstep R (B, tn) = some P ∧ BQ fb2 gb2 (bmany P) (BF P) ∧ r = nI 1 ∧ w9 = [(mx, .inr (7, [.int (nI th), .ref c0, .int (nI nl), .ref c1, .ref c2, .ref c3, .ref c4, .int (nI now), .ref c5, .ref c6, .ref c7, .int (nI pq), .int (nI pu), .int (nI pf), .int (nI pg), .int (nI bg), .int (nI ln), .ref c8, .int (nI sl), .ref c9, .int (nI fb2), .int (nI (bmany P)), .ref c10, .int (nI P.2), .int (nI md2), .ref c11, .int (nI tp), .int (nI tl), .int (nI tr)])), (c0, xI Z 4 v), (c1, xI Z 24 op), (c2, xI Z 24 wk), (c3, xI Z 24 on), (c4, xI Z 24 iz), (c5, xJ Z 6 wr), (c6, xI Z 6 wy), (c7, xI Z 6 gs), (c8, xI Z 700 gw), (c9, xI Z 700 sv), (c10, xI Z 80001 gb2), (c11, xI Z 6 mk2)])) (xB Z A) A) args s ({ frames := 6, cells := 0, slots := 0, locals := 133 } : Room).cells ({ frames := 6, cells := 0, slots := 0, locals := 133 } : Room).slots A) (F0 m 106 ls []) := by
                  intro nn106
                  induction nn106 with
                  | zero => intro k n3 gb3 H locs ls hk1 hG3 hn3 hmu106; exact absurd hmu106 (Nat.not_lt_zero _)
                  | succ nn106 ih106 =>
                    intro k n3 gb3 H locs ls hk1 hG3 hn3 hmu106 hP hD hS hl
                    refine lv_iload_n hx hb dX7_cycles_106 rfl (lv_at hl 2 rfl) ?_
                    refine ln_bipush 121 hx hb dX7_cycles_107 (by decide) ?_
                    refine ln_icmp_ge (tgt := 137) hx hb dX7_cycles_109 (by decide) (by omega) (by omega) (fun h109 => ?_) (fun h109 => ?_)
                    · refine ln_iinc (k0 := 1) (k := 1) (j + 1) (lv' := [(2, .int (nI (j + 1))), (0, .ref mx), (3, .int (nI k))]) hx hb dX7_cycles_137 hl rfl rfl (by first | rfl | omega) (by decide) rfl (fun ls hl => ?_)
                      refine lv_goto (tgt := 96) hx hb dX7_cycles_140 (by decide) ?_
                      exact ih  (j + 1) n3 gb3 _ _ _ (by omega) hG3 (by omega) (by omega) hP hD hS (lv_sub hl [1, 0] rfl)
                    · refine lv_aload_n hx hb dX7_cycles_112 rfl (lv_at hl 0 rfl) ?_
                      refine lv_aload_n hx hb dX7_cycles_113 rfl (lv_at hl 0 rfl) ?_
                      refine va_get (D := Z.1) (ci := 7) (v := .ref c11) (C := RX7) (T := TX7) (N := 29) hx hb hts iX7 hown hK hP 0 rfl rfl 25 (Nat.le_of_ble_eq_true rfl) qq_699 (fun _ h9 => h9) rfl dX7_cycles_114 ?_
                      refine lv_iload_n hx hb dX7_cycles_117 rfl (lv_at hl 1 rfl) ?_
                      have hz9 := hPLz _ (getD_mem (w := PL) (i := j) (by omega))
                      refine ln_iald hx hb hK hP 12 rfl (by omega) (by omega) dX7_cycles_118 ?_
                      refine ln_top (y := nI (PL.getD j 0)) (by rw [hPM2.2 j (by omega)]) ?_
                      refine lv_iload_n hx hb dX7_cycles_119 rfl (lv_at hl 2 rfl) ?_
                      refine ln_icmp_ne (tgt := 127) hx hb dX7_cycles_120 (by decide) (by omega) (by omega) (fun h120 => ?_) (fun h120 => ?_)
                      · refine ln_const 0 hx hb dX7_cycles_127 (by decide) ?_
                        refine x_Vv (y := yX7_putBit) (As := [.int (nI 0)]) (wc := [(mx, .inr (7, [.int (nI th), .ref c0, .int (nI nl), .ref c1, .ref c2, .ref c3, .ref c4, .int (nI now), .ref c5, .ref c6, .ref c7, .int (nI pq), .int (nI pu), .int (nI pf), .int (nI pg), .int (nI bg), .int (nI ln), .ref c8, .int (nI sl), .ref c9, .int (nI ((fb + 1) % 80001)), .int (nI n3), .ref c10, .int (nI tn), .int (nI 0), .ref c11, .int (nI tp), .int (nI tl), .int (nI tr)])), (c0, xI Z 4 v), (c1, xI Z 24 op), (c2, xI Z 24 wk), (c3, xI Z 24 on), (c4, xI Z 24 iz), (c5, xJ Z 6 wr), (c6, xI Z 6 wy), (c7, xI Z 6 gs), (c8, xI Z 700 gw), (c9, xI Z 700 sv), (c10, xI Z 80001 gb3), (c11, xI Z 6 mk2)]) (wr := []) hC hP hD hS (c_X7_putBit l Z mx c0 c1 c2 c3 c4 c5 c6 c7 c8 c9 c10 c11 th nl now pq pu pf pg bg ln sl ((fb + 1) % 80001) n3 tn 0 tp tl tr v op wk on iz wy gs gw sv gb3 mk2 wr (fun i => bitf (B ++ PL) (i + tn % 121 + 1)) hG3 (by omega) 0 (by show bitf (B ++ PL) (n3 + tn % 121 + 1) = _; rw [show n3 + tn % 121 + 1 = 121 * (B.length + j) + k by omega, bitf_new (by omega), if_neg h120])) (gV wq_921 wq_918 wq_920 wq_26 wq_45) rfl kv_X7_putBit rfl rfl ⟨rfl, rfl⟩ rfl hl.1 rfl ⟨Nat.le_of_ble_eq_true rfl, Nat.le_of_ble_eq_true rfl⟩ [0, 1, 2, 3, 4, 5, 6, 7, 8, 9, 10, 11, 12] ([] : List Nat) rfl rfl (by decide) (by decide) (by decide) rfl dX7_cycles_128 (fun w1 H locs hw hP hD hS => ?_)
                        obtain ⟨gb4, hgb4, rfl⟩ := hw
                        have hP : va_P Z.1 vwCl [(mx, .inr (7, [.int (nI th), .ref c0, .int (nI nl), .ref c1, .ref c2, .ref c3, .ref c4, .int (nI now), .ref c5, .ref c6, .ref c7, .int (nI pq), .int (nI pu), .int (nI pf), .int (nI pg), .int (nI bg), .int (nI ln), .ref c8, .int (nI sl), .ref c9, .int (nI ((fb + 1) % 80001)), .int (nI (n3 + 1)), .ref c10, .int (nI tn), .int (nI 0), .ref c11, .int (nI tp), .int (nI tl), .int (nI tr)])), (c0, xI Z 4 v), (c1, xI Z 24 op), (c2, xI Z 24 wk), (c3, xI Z 24 on), (c4, xI Z 24 iz), (c5, xJ Z 6 wr), (c6, xI Z 6 wy), (c7, xI Z 6 gs), (c8, xI Z 700 gw), (c9, xI Z 700 sv), (c10, xI Z 80001 gb4), (c11, xI Z 6 mk2)] H := hP
                        have hD : va_D A [(mx, .inr (7, [.int (nI th), .ref c0, .int (nI nl), .ref c1, .ref c2, .ref c3, .ref c4, .int (nI now), .ref c5, .ref c6, .ref c7, .int (nI pq), .int (nI pu), .int (nI pf), .int (nI pg), .int (nI bg), .int (nI ln), .ref c8, .int (nI sl), .ref c9, .int (nI ((fb + 1) % 80001)), .int (nI (n3 + 1)), .ref c10, .int (nI tn), .int (nI 0), .ref c11, .int (nI tp), .int (nI tl), .int (nI tr)])), (c0, xI Z 4 v), (c1, xI Z 24 op), (c2, xI Z 24 wk), (c3, xI Z 24 on), (c4, xI Z 24 iz), (c5, xJ Z 6 wr), (c6, xI Z 6 wy), (c7, xI Z 6 gs), (c8, xI Z 700 gw), (c9, xI Z 700 sv), (c10, xI Z 80001 gb4), (c11, xI Z 6 mk2)] := hD
                        refine ln_iinc (k0 := 2) (k := 1) (k + 1) (lv' := [(3, .int (nI (k + 1))), (0, .ref mx), (2, .int (nI j))]) hx hb dX7_cycles_131 hl rfl rfl (by first | rfl | omega) (by decide) rfl (fun ls hl => ?_)
                        refine lv_goto (tgt := 106) hx hb dX7_cycles_134 (by decide) ?_
                        exact ih106  (k + 1) (n3 + 1) gb4 _ _ _ (by omega) hgb4 (by omega) (by omega) hP hD hS (lv_sub hl [1, 2, 0] rfl)
                      · refine ln_const 1 hx hb dX7_cycles_123 (by decide) ?_
                        refine lv_goto (tgt := 128) hx hb dX7_cycles_124 (by decide) ?_
                        refine x_Vv (y := yX7_putBit) (As := [.int (nI 1)]) (wc := [(mx, .inr (7, [.int (nI th), .ref c0, .int (nI nl), .ref c1, .ref c2, .ref c3, .ref c4, .int (nI now), .ref c5, .ref c6, .ref c7, .int (nI pq), .int (nI pu), .int (nI pf), .int (nI pg), .int (nI bg), .int (nI ln), .ref c8, .int (nI sl), .ref c9, .int (nI ((fb + 1) % 80001)), .int (nI n3), .ref c10, .int (nI tn), .int (nI 0), .ref c11, .int (nI tp), .int (nI tl), .int (nI tr)])), (c0, xI Z 4 v), (c1, xI Z 24 op), (c2, xI Z 24 wk), (c3, xI Z 24 on), (c4, xI Z 24 iz), (c5, xJ Z 6 wr), (c6, xI Z 6 wy), (c7, xI Z 6 gs), (c8, xI Z 700 gw), (c9, xI Z 700 sv), (c10, xI Z 80001 gb3), (c11, xI Z 6 mk2)]) (wr := []) hC hP hD hS (c_X7_putBit l Z mx c0 c1 c2 c3 c4 c5 c6 c7 c8 c9 c10 c11 th nl now pq pu pf pg bg ln sl ((fb + 1) % 80001) n3 tn 0 tp tl tr v op wk on iz wy gs gw sv gb3 mk2 wr (fun i => bitf (B ++ PL) (i + tn % 121 + 1)) hG3 (by omega) 1 (by show bitf (B ++ PL) (n3 + tn % 121 + 1) = _; rw [show n3 + tn % 121 + 1 = 121 * (B.length + j) + k by omega, bitf_new (by omega), if_pos h120])) (gV wq_921 wq_918 wq_920 wq_26 wq_45) rfl kv_X7_putBit rfl rfl ⟨rfl, rfl⟩ rfl hl.1 rfl ⟨Nat.le_of_ble_eq_true rfl, Nat.le_of_ble_eq_true rfl⟩ [0, 1, 2, 3, 4, 5, 6, 7, 8, 9, 10, 11, 12] ([] : List Nat) rfl rfl (by decide) (by decide) (by decide) rfl dX7_cycles_128 (fun w1 H locs hw hP hD hS => ?_)
                        obtain ⟨gb4, hgb4, rfl⟩ := hw
                        have hP : va_P Z.1 vwCl [(mx, .inr (7, [.int (nI th), .ref c0, .int (nI nl), .ref c1, .ref c2, .ref c3, .ref c4, .int (nI now), .ref c5, .ref c6, .ref c7, .int (nI pq), .int (nI pu), .int (nI pf), .int (nI pg), .int (nI bg), .int (nI ln), .ref c8, .int (nI sl), .ref c9, .int (nI ((fb + 1) % 80001)), .int (nI (n3 + 1)), .ref c10, .int (nI tn), .int (nI 0), .ref c11, .int (nI tp), .int (nI tl), .int (nI tr)])), (c0, xI Z 4 v), (c1, xI Z 24 op), (c2, xI Z 24 wk), (c3, xI Z 24 on), (c4, xI Z 24 iz), (c5, xJ Z 6 wr), (c6, xI Z 6 wy), (c7, xI Z 6 gs), (c8, xI Z 700 gw), (c9, xI Z 700 sv), (c10, xI Z 80001 gb4), (c11, xI Z 6 mk2)] H := hP
                        have hD : va_D A [(mx, .inr (7, [.int (nI th), .ref c0, .int (nI nl), .ref c1, .ref c2, .ref c3, .ref c4, .int (nI now), .ref c5, .ref c6, .ref c7, .int (nI pq), .int (nI pu), .int (nI pf), .int (nI pg), .int (nI bg), .int (nI ln), .ref c8, .int (nI sl), .ref c9, .int (nI ((fb + 1) % 80001)), .int (nI (n3 + 1)), .ref c10, .int (nI tn), .int (nI 0), .ref c11, .int (nI tp), .int (nI tl), .int (nI tr)])), (c0, xI Z 4 v), (c1, xI Z 24 op), (c2, xI Z 24 wk), (c3, xI Z 24 on), (c4, xI Z 24 iz), (c5, xJ Z 6 wr), (c6, xI Z 6 wy), (c7, xI Z 6 gs), (c8, xI Z 700 gw), (c9, xI Z 700 sv), (c10, xI Z 80001 gb4), (c11, xI Z 6 mk2)] := hD
                        refine ln_iinc (k0 := 2) (k := 1) (k + 1) (lv' := [(3, .int (nI (k + 1))), (0, .ref mx), (2, .int (nI j))]) hx hb dX7_cycles_131 hl rfl rfl (by first | rfl | omega) (by decide) rfl (fun ls hl => ?_)
                        refine lv_goto (tgt := 106) hx hb dX7_cycles_134 (by decide) ?_
                        exact ih106  (k + 1) (n3 + 1) gb4 _ _ _ (by omega) hgb4 (by omega) (by omega) hP hD hS (lv_sub hl [1, 2, 0] rfl)
                exact hloop106 ((121 - 0) + 1) 0 n2 gb2 _ _ _ (Nat.zero_le _) hG (by omega) (Nat.lt_succ_self _) hP hD hS (lv_sub hl [1, 2, 0] rfl)
          exact hloop96 ((PL.length - 0) + 1) 0 (mn - 1) gb _ _ _ (Nat.zero_le _) ((hBQ.drop1 (by omega)).congr (fun i hi => by show bitf (B ++ PL) (i + tn % 121 + 1) = bitf B (i + 1 + tn % 121); rw [bitf_app (by omega), show i + tn % 121 + 1 = i + 1 + tn % 121 by omega])) (by omega) (Nat.lt_succ_self _) hP hD hS (lv_sub hl [2, 0] rfl)
        · refine ln_const 0 hx hb dX7_cycles_69 (by decide) ?_
          exact x_zret hC hr rfl hk hP hD hS dX7_cycles_70 (Or.inl ⟨by unfold bstep; dsimp only; rw [if_neg (show ¬ (tn = 0 ∧ (B.length < 2 ∨ (xprod R (B.getD 0 0)).length = 0)) from hst), if_pos h0, if_pos (by rw [← hPL]; omega)], rfl, 0, mk2, rfl⟩)
      · refine lv_aload_n hx hb dX7_cycles_42 rfl (lv_at hl 1 rfl) ?_
        refine lv_aload_n hx hb dX7_cycles_43 rfl (lv_at hl 1 rfl) ?_
        refine va_get (D := Z.1) (ci := 7) (v := .int (nI tn)) (C := RX7) (T := TX7) (N := 29) hx hb hts iX7 hown hK hP 0 rfl rfl 23 (Nat.le_of_ble_eq_true rfl) qq_697 (fun _ h9 => h9) rfl dX7_cycles_44 ?_
        have hx4 := (xprod_ok hRV h39).1
        refine x_Vv (y := yX7_produce) (As := [.int (nI tn)]) (wc := [(mx, .inr (7, [.int (nI th), .ref c0, .int (nI nl), .ref c1, .ref c2, .ref c3, .ref c4, .int (nI now), .ref c5, .ref c6, .ref c7, .int (nI pq), .int (nI pu), .int (nI pf), .int (nI pg), .int (nI bg), .int (nI ln), .ref c8, .int (nI sl), .ref c9, .int (nI fb), .int (nI mn), .ref c10, .int (nI tn), .int (nI 0), .ref c11, .int (nI tp), .int (nI tl), .int (nI tr)])), (c0, xI Z 4 v), (c1, xI Z 24 op), (c2, xI Z 24 wk), (c3, xI Z 24 on), (c4, xI Z 24 iz), (c5, xJ Z 6 wr), (c6, xI Z 6 wy), (c7, xI Z 6 gs), (c8, xI Z 700 gw), (c9, xI Z 700 sv), (c10, xI Z 80001 gb), (c11, xI Z 6 mk2)]) (wr := []) hC hP hD hS (c_X7_produce l Z mx c0 c1 c2 c3 c4 c5 c6 c7 c8 c9 c10 c11 th nl now pq pu pf pg bg ln sl fb mn tn 0 tp tl tr v op wk on iz wy gs gw sv gb mk2 wr R hM7 hRV tn (by omega)) (gV wq_839 wq_836 wq_838 wq_17 wq_45) rfl kv_X7_produce rfl rfl ⟨rfl, rfl⟩ rfl hl.1 rfl ⟨Nat.le_of_ble_eq_true rfl, Nat.le_of_ble_eq_true rfl⟩ [0, 1, 2, 3, 4, 5, 6, 7, 8, 9, 10, 11, 12] ([] : List Nat) rfl rfl (by decide) (by decide) (by decide) rfl dX7_cycles_47 (fun w1 H locs hw hP hD hS => ?_)
        obtain ⟨md3, mk3, hPM, rfl⟩ := hw
        have hP : va_P Z.1 vwCl [(mx, .inr (7, [.int (nI th), .ref c0, .int (nI nl), .ref c1, .ref c2, .ref c3, .ref c4, .int (nI now), .ref c5, .ref c6, .ref c7, .int (nI pq), .int (nI pu), .int (nI pf), .int (nI pg), .int (nI bg), .int (nI ln), .ref c8, .int (nI sl), .ref c9, .int (nI fb), .int (nI mn), .ref c10, .int (nI tn), .int (nI md3), .ref c11, .int (nI tp), .int (nI tl), .int (nI tr)])), (c0, xI Z 4 v), (c1, xI Z 24 op), (c2, xI Z 24 wk), (c3, xI Z 24 on), (c4, xI Z 24 iz), (c5, xJ Z 6 wr), (c6, xI Z 6 wy), (c7, xI Z 6 gs), (c8, xI Z 700 gw), (c9, xI Z 700 sv), (c10, xI Z 80001 gb), (c11, xI Z 6 mk3)] H := hP
        have hD : va_D A [(mx, .inr (7, [.int (nI th), .ref c0, .int (nI nl), .ref c1, .ref c2, .ref c3, .ref c4, .int (nI now), .ref c5, .ref c6, .ref c7, .int (nI pq), .int (nI pu), .int (nI pf), .int (nI pg), .int (nI bg), .int (nI ln), .ref c8, .int (nI sl), .ref c9, .int (nI fb), .int (nI mn), .ref c10, .int (nI tn), .int (nI md3), .ref c11, .int (nI tp), .int (nI tl), .int (nI tr)])), (c0, xI Z 4 v), (c1, xI Z 24 op), (c2, xI Z 24 wk), (c3, xI Z 24 on), (c4, xI Z 24 iz), (c5, xJ Z 6 wr), (c6, xI Z 6 wy), (c7, xI Z 6 gs), (c8, xI Z 700 gw), (c9, xI Z 700 sv), (c10, xI Z 80001 gb), (c11, xI Z 6 mk3)] := hD
        obtain ⟨PL, hPL⟩ : ∃ z : List Nat, z = bapp R tn := ⟨_, rfl⟩
        have hPM2 : PM md3 mk3 PL := by rw [hPL]; unfold bapp; rw [if_pos h39]; exact hPM
        have hPL4 : PL.length ≤ 4 := by rw [hPL]; exact bapp_le hRV tn
        have hpm1 := hPM2.1
        have hPLz : ∀ z ∈ PL, z < 121 := by rw [hPL]; exact bapp_121 hRV tn
        refine lv_aload_n hx hb dX7_cycles_50 rfl (lv_at hl 1 rfl) ?_
        refine va_get (D := Z.1) (ci := 7) (v := .int (nI mn)) (C := RX7) (T := TX7) (N := 29) hx hb hts iX7 hown hK hP 0 rfl rfl 21 (Nat.le_of_ble_eq_true rfl) qq_695 (fun _ h9 => h9) rfl dX7_cycles_51 ?_
        refine ln_const 1 hx hb dX7_cycles_54 (by decide) ?_
        refine ln_isub (mn - 1) hx hb dX7_cycles_55 (by omega) (by first | rfl | omega) ?_
        refine ln_bipush 121 hx hb dX7_cycles_56 (by decide) ?_
        refine lv_aload_n hx hb dX7_cycles_58 rfl (lv_at hl 1 rfl) ?_
        refine va_get (D := Z.1) (ci := 7) (v := .int (nI md3)) (C := RX7) (T := TX7) (N := 29) hx hb hts iX7 hown hK hP 0 rfl rfl 24 (Nat.le_of_ble_eq_true rfl) qq_698 (fun _ h9 => h9) rfl dX7_cycles_59 ?_
        refine ln_imul (121 * md3) hx hb dX7_cycles_62 (by first | rfl | omega) ?_
        refine ln_iadd ((mn - 1) + (121 * md3)) hx hb dX7_cycles_63 (by first | rfl | omega) ?_
        refine lv_ldc (v := nI 80000) hx hb hown qq_917 dX7_cycles_64 ?_
        refine ln_icmp_le (tgt := 71) hx hb dX7_cycles_66 (by decide) (by omega) (by omega) (fun h66 => ?_) (fun h66 => ?_)
        · refine lv_aload_n hx hb dX7_cycles_71 rfl (lv_at hl 1 rfl) ?_
          refine lv_aload_n hx hb dX7_cycles_72 rfl (lv_at hl 1 rfl) ?_
          refine va_get (D := Z.1) (ci := 7) (v := .int (nI fb)) (C := RX7) (T := TX7) (N := 29) hx hb hts iX7 hown hK hP 0 rfl rfl 20 (Nat.le_of_ble_eq_true rfl) qq_694 (fun _ h9 => h9) rfl dX7_cycles_73 ?_
          refine ln_const 1 hx hb dX7_cycles_76 (by decide) ?_
          refine ln_iadd (fb + 1) hx hb dX7_cycles_77 (by first | rfl | omega) ?_
          refine lv_ldc (v := nI 80001) hx hb hown qq_673 dX7_cycles_78 ?_
          refine ln_irem ((fb + 1) % 80001) hx hb dX7_cycles_80 (by omega) (by omega) (by omega) (by first | rfl | omega) ?_
          refine va_put (D := Z.1) (ci := 7) (v := .int (nI ((fb + 1) % 80001))) (ty := tyX7 20) (C := RX7) (T := TX7) (N := 29) hx hb hts iX7 tyX7 tyX7_ok nmX7 hown hK hP hD hS 0 rfl rfl 20 (Nat.le_of_ble_eq_true rfl) qq_694 (fun _ h9 => h9) rfl (tyX7_ok 20 (Nat.le_of_ble_eq_true rfl)) rfl rfl (Nat.le_of_ble_eq_true rfl) dX7_cycles_81 (fun H locs hP hD hS => ?_)
          have hP : va_P Z.1 vwCl [(mx, .inr (7, [.int (nI th), .ref c0, .int (nI nl), .ref c1, .ref c2, .ref c3, .ref c4, .int (nI now), .ref c5, .ref c6, .ref c7, .int (nI pq), .int (nI pu), .int (nI pf), .int (nI pg), .int (nI bg), .int (nI ln), .ref c8, .int (nI sl), .ref c9, .int (nI ((fb + 1) % 80001)), .int (nI mn), .ref c10, .int (nI tn), .int (nI md3), .ref c11, .int (nI tp), .int (nI tl), .int (nI tr)])), (c0, xI Z 4 v), (c1, xI Z 24 op), (c2, xI Z 24 wk), (c3, xI Z 24 on), (c4, xI Z 24 iz), (c5, xJ Z 6 wr), (c6, xI Z 6 wy), (c7, xI Z 6 gs), (c8, xI Z 700 gw), (c9, xI Z 700 sv), (c10, xI Z 80001 gb), (c11, xI Z 6 mk3)] H := hP
          have hD : va_D A [(mx, .inr (7, [.int (nI th), .ref c0, .int (nI nl), .ref c1, .ref c2, .ref c3, .ref c4, .int (nI now), .ref c5, .ref c6, .ref c7, .int (nI pq), .int (nI pu), .int (nI pf), .int (nI pg), .int (nI bg), .int (nI ln), .ref c8, .int (nI sl), .ref c9, .int (nI ((fb + 1) % 80001)), .int (nI mn), .ref c10, .int (nI tn), .int (nI md3), .ref c11, .int (nI tp), .int (nI tl), .int (nI tr)])), (c0, xI Z 4 v), (c1, xI Z 24 op), (c2, xI Z 24 wk), (c3, xI Z 24 on), (c4, xI Z 24 iz), (c5, xJ Z 6 wr), (c6, xI Z 6 wy), (c7, xI Z 6 gs), (c8, xI Z 700 gw), (c9, xI Z 700 sv), (c10, xI Z 80001 gb), (c11, xI Z 6 mk3)] := hD
          refine lv_aload_n hx hb dX7_cycles_84 rfl (lv_at hl 1 rfl) ?_
          refine lv_dup hx hb dX7_cycles_85 rfl ?_
          refine va_get (D := Z.1) (ci := 7) (v := .int (nI mn)) (C := RX7) (T := TX7) (N := 29) hx hb hts iX7 hown hK hP 0 rfl rfl 21 (Nat.le_of_ble_eq_true rfl) qq_695 (fun _ h9 => h9) rfl dX7_cycles_86 ?_
          refine ln_const 1 hx hb dX7_cycles_89 (by decide) ?_
          refine ln_isub (mn - 1) hx hb dX7_cycles_90 (by omega) (by first | rfl | omega) ?_
          refine va_put (D := Z.1) (ci := 7) (v := .int (nI (mn - 1))) (ty := tyX7 21) (C := RX7) (T := TX7) (N := 29) hx hb hts iX7 tyX7 tyX7_ok nmX7 hown hK hP hD hS 0 rfl rfl 21 (Nat.le_of_ble_eq_true rfl) qq_695 (fun _ h9 => h9) rfl (tyX7_ok 21 (Nat.le_of_ble_eq_true rfl)) rfl rfl (Nat.le_of_ble_eq_true rfl) dX7_cycles_91 (fun H locs hP hD hS => ?_)
          have hP : va_P Z.1 vwCl [(mx, .inr (7, [.int (nI th), .ref c0, .int (nI nl), .ref c1, .ref c2, .ref c3, .ref c4, .int (nI now), .ref c5, .ref c6, .ref c7, .int (nI pq), .int (nI pu), .int (nI pf), .int (nI pg), .int (nI bg), .int (nI ln), .ref c8, .int (nI sl), .ref c9, .int (nI ((fb + 1) % 80001)), .int (nI (mn - 1)), .ref c10, .int (nI tn), .int (nI md3), .ref c11, .int (nI tp), .int (nI tl), .int (nI tr)])), (c0, xI Z 4 v), (c1, xI Z 24 op), (c2, xI Z 24 wk), (c3, xI Z 24 on), (c4, xI Z 24 iz), (c5, xJ Z 6 wr), (c6, xI Z 6 wy), (c7, xI Z 6 gs), (c8, xI Z 700 gw), (c9, xI Z 700 sv), (c10, xI Z 80001 gb), (c11, xI Z 6 mk3)] H := hP
          have hD : va_D A [(mx, .inr (7, [.int (nI th), .ref c0, .int (nI nl), .ref c1, .ref c2, .ref c3, .ref c4, .int (nI now), .ref c5, .ref c6, .ref c7, .int (nI pq), .int (nI pu), .int (nI pf), .int (nI pg), .int (nI bg), .int (nI ln), .ref c8, .int (nI sl), .ref c9, .int (nI ((fb + 1) % 80001)), .int (nI (mn - 1)), .ref c10, .int (nI tn), .int (nI md3), .ref c11, .int (nI tp), .int (nI tl), .int (nI tr)])), (c0, xI Z 4 v), (c1, xI Z 24 op), (c2, xI Z 24 wk), (c3, xI Z 24 on), (c4, xI Z 24 iz), (c5, xJ Z 6 wr), (c6, xI Z 6 wy), (c7, xI Z 6 gs), (c8, xI Z 700 gw), (c9, xI Z 700 sv), (c10, xI Z 80001 gb), (c11, xI Z 6 mk3)] := hD
          refine ln_const 0 hx hb dX7_cycles_94 (by decide) ?_
          refine lv_istore_n (lv' := [(2, .int (nI 0)), (1, .int (nI 1)), (0, .ref mx)]) hx hb dX7_cycles_95 rfl hl (by decide) rfl (fun ls hl => ?_)
          have hloop96 : ∀ (nn : Nat) (j n2 : Nat) (gb2 : Nat → Nat) (H : Heap) (locs : List Loc) (ls : Array Slot) (hj : j ≤ PL.length) (hG : BQ ((fb + 1) % 80001) gb2 n2 (fun i => bitf (B ++ PL) (i + tn % 121 + 1))) (hn2 : n2 = mn - 1 + 121 * j) (hmu : PL.length - j < nn) (hP : va_P Z.1 vwCl [(mx, .inr (7, [.int (nI th), .ref c0, .int (nI nl), .ref c1, .ref c2, .ref c3, .ref c4, .int (nI now), .ref c5, .ref c6, .ref c7, .int (nI pq), .int (nI pu), .int (nI pf), .int (nI pg), .int (nI bg), .int (nI ln), .ref c8, .int (nI sl), .ref c9, .int (nI ((fb + 1) % 80001)), .int (nI n2), .ref c10, .int (nI tn), .int (nI md3), .ref c11, .int (nI tp), .int (nI tl), .int (nI tr)])), (c0, xI Z 4 v), (c1, xI Z 24 op), (c2, xI Z 24 wk), (c3, xI Z 24 on), (c4, xI Z 24 iz), (c5, xJ Z 6 wr), (c6, xI Z 6 wy), (c7, xI Z 6 gs), (c8, xI Z 700 gw), (c9, xI Z 700 sv), (c10, xI Z 80001 gb2), (c11, xI Z 6 mk3)] H) (hD : va_D A [(mx, .inr (7, [.int (nI th), .ref c0, .int (nI nl), .ref c1, .ref c2, .ref c3, .ref c4, .int (nI now), .ref c5, .ref c6, .ref c7, .int (nI pq), .int (nI pu), .int (nI pf), .int (nI pg), .int (nI bg), .int (nI ln), .ref c8, .int (nI sl), .ref c9, .int (nI ((fb + 1) % 80001)), .int (nI n2), .ref c10, .int (nI tn), .int (nI md3), .ref c11, .int (nI tp), .int (nI tl), .int (nI tr)])), (c0, xI Z 4 v), (c1, xI Z 24 op), (c2, xI Z 24 wk), (c3, xI Z 24 on), (c4, xI Z 24 iz), (c5, xJ Z 6 wr), (c6, xI Z 6 wy), (c7, xI Z 6 gs), (c8, xI Z 700 gw), (c9, xI Z 700 sv), (c10, xI Z 80001 gb2), (c11, xI Z 6 mk3)]) (hS : va_S A s.heap H locs) (hl : lv_has ls 4 [(0, .ref mx), (2, .int (nI j))]), W p l e ({ frames := 6, cells := 0, slots := 0, locals := 133 } : Room) s m args below meth c H locs 0 0 (MQ below (va_Qi (fun r w9 => (bstep R (B, tn) = none ∧ r = nI 0 ∧ ∃ md2 mk2, w9 = [(mx, .inr (7, [.int (nI th), .ref c0, .int (nI nl), .ref c1, .ref c2, .ref c3, .ref c4, .int (nI now), .ref c5, .ref c6, .ref c7, .int (nI pq), .int (nI pu), .int (nI pf), .int (nI pg), .int (nI bg), .int (nI ln), .ref c8, .int (nI sl), .ref c9, .int (nI fb), .int (nI mn), .ref c10, .int (nI tn), .int (nI md2), .ref c11, .int (nI tp), .int (nI tl), .int (nI tr)])), (c0, xI Z 4 v), (c1, xI Z 24 op), (c2, xI Z 24 wk), (c3, xI Z 24 on), (c4, xI Z 24 iz), (c5, xJ Z 6 wr), (c6, xI Z 6 wy), (c7, xI Z 6 gs), (c8, xI Z 700 gw), (c9, xI Z 700 sv), (c10, xI Z 80001 gb), (c11, xI Z 6 mk2)]) ∨ (∃ P fb2 gb2 md2 mk2, bstep R (B, tn) = some P ∧ BQ fb2 gb2 (bmany P) (BF P) ∧ r = nI 1 ∧ w9 = [(mx, .inr (7, [.int (nI th), .ref c0, .int (nI nl), .ref c1, .ref c2, .ref c3, .ref c4, .int (nI now), .ref c5, .ref c6, .ref c7, .int (nI pq), .int (nI pu), .int (nI pf), .int (nI pg), .int (nI bg), .int (nI ln), .ref c8, .int (nI sl), .ref c9, .int (nI fb2), .int (nI (bmany P)), .ref c10, .int (nI P.2), .int (nI md2), .ref c11, .int (nI tp), .int (nI tl), .int (nI tr)])), (c0, xI Z 4 v), (c1, xI Z 24 op), (c2, xI Z 24 wk), (c3, xI Z 24 on), (c4, xI Z 24 iz), (c5, xJ Z 6 wr), (c6, xI Z 6 wy), (c7, xI Z 6 gs), (c8, xI Z 700 gw), (c9, xI Z 700 sv), (c10, xI Z 80001 gb2), (c11, xI Z 6 mk2)])) (xB Z A) A) args s ({ frames := 6, cells := 0, slots := 0, locals := 133 } : Room).cells ({ frames := 6, cells := 0, slots := 0, locals := 133 } : Room).slots A) (F0 m 96 ls []) := by
            intro nn
            induction nn with
            | zero => intro j n2 gb2 H locs ls hj hG hn2 hmu; exact absurd hmu (Nat.not_lt_zero _)
            | succ nn ih =>
              intro j n2 gb2 H locs ls hj hG hn2 hmu hP hD hS hl
              refine lv_iload_n hx hb dX7_cycles_96 rfl (lv_at hl 1 rfl) ?_
              refine lv_aload_n hx hb dX7_cycles_97 rfl (lv_at hl 0 rfl) ?_
              refine va_get (D := Z.1) (ci := 7) (v := .int (nI md3)) (C := RX7) (T := TX7) (N := 29) hx hb hts iX7 hown hK hP 0 rfl rfl 24 (Nat.le_of_ble_eq_true rfl) qq_698 (fun _ h9 => h9) rfl dX7_cycles_98 ?_
              refine ln_icmp_ge (tgt := 143) hx hb dX7_cycles_101 (by decide) (by omega) (by omega) (fun h101 => ?_) (fun h101 => ?_)
              · refine lv_aload_n hx hb dX7_cycles_143 rfl (lv_at hl 0 rfl) ?_
                refine lv_aload_n hx hb dX7_cycles_144 rfl (lv_at hl 0 rfl) ?_
                refine va_get (D := Z.1) (ci := 7) (v := .int (nI tn)) (C := RX7) (T := TX7) (N := 29) hx hb hts iX7 hown hK hP 0 rfl rfl 23 (Nat.le_of_ble_eq_true rfl) qq_697 (fun _ h9 => h9) rfl dX7_cycles_145 ?_
                refine ln_const 1 hx hb dX7_cycles_148 (by decide) ?_
                refine ln_iadd (tn + 1) hx hb dX7_cycles_149 (by first | rfl | omega) ?_
                refine ln_sipush 242 hx hb dX7_cycles_150 (by decide) ?_
                refine ln_irem ((tn + 1) % 242) hx hb dX7_cycles_153 (by omega) (by omega) (by omega) (by first | rfl | omega) ?_
                refine va_put (D := Z.1) (ci := 7) (v := .int (nI ((tn + 1) % 242))) (ty := tyX7 23) (C := RX7) (T := TX7) (N := 29) hx hb hts iX7 tyX7 tyX7_ok nmX7 hown hK hP hD hS 0 rfl rfl 23 (Nat.le_of_ble_eq_true rfl) qq_697 (fun _ h9 => h9) rfl (tyX7_ok 23 (Nat.le_of_ble_eq_true rfl)) rfl rfl (Nat.le_of_ble_eq_true rfl) dX7_cycles_154 (fun H locs hP hD hS => ?_)
                have hP : va_P Z.1 vwCl [(mx, .inr (7, [.int (nI th), .ref c0, .int (nI nl), .ref c1, .ref c2, .ref c3, .ref c4, .int (nI now), .ref c5, .ref c6, .ref c7, .int (nI pq), .int (nI pu), .int (nI pf), .int (nI pg), .int (nI bg), .int (nI ln), .ref c8, .int (nI sl), .ref c9, .int (nI ((fb + 1) % 80001)), .int (nI n2), .ref c10, .int (nI ((tn + 1) % 242)), .int (nI md3), .ref c11, .int (nI tp), .int (nI tl), .int (nI tr)])), (c0, xI Z 4 v), (c1, xI Z 24 op), (c2, xI Z 24 wk), (c3, xI Z 24 on), (c4, xI Z 24 iz), (c5, xJ Z 6 wr), (c6, xI Z 6 wy), (c7, xI Z 6 gs), (c8, xI Z 700 gw), (c9, xI Z 700 sv), (c10, xI Z 80001 gb2), (c11, xI Z 6 mk3)] H := hP
                have hD : va_D A [(mx, .inr (7, [.int (nI th), .ref c0, .int (nI nl), .ref c1, .ref c2, .ref c3, .ref c4, .int (nI now), .ref c5, .ref c6, .ref c7, .int (nI pq), .int (nI pu), .int (nI pf), .int (nI pg), .int (nI bg), .int (nI ln), .ref c8, .int (nI sl), .ref c9, .int (nI ((fb + 1) % 80001)), .int (nI n2), .ref c10, .int (nI ((tn + 1) % 242)), .int (nI md3), .ref c11, .int (nI tp), .int (nI tl), .int (nI tr)])), (c0, xI Z 4 v), (c1, xI Z 24 op), (c2, xI Z 24 wk), (c3, xI Z 24 on), (c4, xI Z 24 iz), (c5, xJ Z 6 wr), (c6, xI Z 6 wy), (c7, xI Z 6 gs), (c8, xI Z 700 gw), (c9, xI Z 700 sv), (c10, xI Z 80001 gb2), (c11, xI Z 6 mk3)] := hD
                refine ln_const 1 hx hb dX7_cycles_157 (by decide) ?_
                rw [show n2 = 121 * B.length - tn % 121 - 1 + 121 * PL.length by omega] at hG hP hD
                obtain ⟨en1, en2, en3⟩ := bq_end b1 b6 hG
                rw [en1, en2] at hP hD
                exact x_zret hC hr rfl hk hP hD hS dX7_cycles_158 (Or.inr ⟨bpass (B ++ PL, tn), _, gb2, md3, mk3, by unfold bstep; dsimp only; rw [if_neg (show ¬ (tn = 0 ∧ (B.length < 2 ∨ (xprod R (B.getD 0 0)).length = 0)) from hst), if_pos h0, if_neg (by rw [← hPL]; omega), hPL], en3, rfl, rfl⟩)
              · refine ln_const 0 hx hb dX7_cycles_104 (by decide) ?_
                refine lv_istore_n (lv' := [(3, .int (nI 0)), (0, .ref mx), (2, .int (nI j))]) hx hb dX7_cycles_105 rfl hl (by decide) rfl (fun ls hl => ?_)
                have hloop106 : ∀ (nn106 : Nat) (k n3 : Nat) (gb3 : Nat → Nat) (H : Heap) (locs : List Loc) (ls : Array Slot) (hk1 : k ≤ 121) (hG3 : BQ ((fb + 1) % 80001) gb3 n3 (fun i => bitf (B ++ PL) (i + tn % 121 + 1))) (hn3 : n3 = mn - 1 + 121 * j + k) (hmu106 : 121 - k < nn106) (hP : va_P Z.1 vwCl [(mx, .inr (7, [.int (nI th), .ref c0, .int (nI nl), .ref c1, .ref c2, .ref c3, .ref c4, .int (nI now), .ref c5, .ref c6, .ref c7, .int (nI pq), .int (nI pu), .int (nI pf), .int (nI pg), .int (nI bg), .int (nI ln), .ref c8, .int (nI sl), .ref c9, .int (nI ((fb + 1) % 80001)), .int (nI n3), .ref c10, .int (nI tn), .int (nI md3), .ref c11, .int (nI tp), .int (nI tl), .int (nI tr)])), (c0, xI Z 4 v), (c1, xI Z 24 op), (c2, xI Z 24 wk), (c3, xI Z 24 on), (c4, xI Z 24 iz), (c5, xJ Z 6 wr), (c6, xI Z 6 wy), (c7, xI Z 6 gs), (c8, xI Z 700 gw), (c9, xI Z 700 sv), (c10, xI Z 80001 gb3), (c11, xI Z 6 mk3)] H) (hD : va_D A [(mx, .inr (7, [.int (nI th), .ref c0, .int (nI nl), .ref c1, .ref c2, .ref c3, .ref c4, .int (nI now), .ref c5, .ref c6, .ref c7, .int (nI pq), .int (nI pu), .int (nI pf), .int (nI pg), .int (nI bg), .int (nI ln), .ref c8, .int (nI sl), .ref c9, .int (nI ((fb + 1) % 80001)), .int (nI n3), .ref c10, .int (nI tn), .int (nI md3), .ref c11, .int (nI tp), .int (nI tl), .int (nI tr)])), (c0, xI Z 4 v), (c1, xI Z 24 op), (c2, xI Z 24 wk), (c3, xI Z 24 on), (c4, xI Z 24 iz), (c5, xJ Z 6 wr), (c6, xI Z 6 wy), (c7, xI Z 6 gs), (c8, xI Z 700 gw), (c9, xI Z 700 sv), (c10, xI Z 80001 gb3), (c11, xI Z 6 mk3)]) (hS : va_S A s.heap H locs) (hl : lv_has ls 4 [(0, .ref mx), (2, .int (nI j)), (3, .int (nI k))]), W p l e ({ frames := 6, cells := 0, slots := 0, locals := 133 } : Room) s m args below meth c H locs 0 0 (MQ below (va_Qi (fun r w9 => (bstep R (B, tn) = none ∧ r = nI 0 ∧ ∃ md2 mk2, w9 = [(mx, .inr (7, [.int (nI th), .ref c0, .int (nI nl), .ref c1, .ref c2, .ref c3, .ref c4, .int (nI now), .ref c5, .ref c6, .ref c7, .int (nI pq), .int (nI pu), .int (nI pf), .int (nI pg), .int (nI bg), .int (nI ln), .ref c8, .int (nI sl), .ref c9, .int (nI fb), .int (nI mn), .ref c10, .int (nI tn), .int (nI md2), .ref c11, .int (nI tp), .int (nI tl), .int (nI tr)])), (c0, xI Z 4 v), (c1, xI Z 24 op), (c2, xI Z 24 wk), (c3, xI Z 24 on), (c4, xI Z 24 iz), (c5, xJ Z 6 wr), (c6, xI Z 6 wy), (c7, xI Z 6 gs), (c8, xI Z 700 gw), (c9, xI Z 700 sv), (c10, xI Z 80001 gb), (c11, xI Z 6 mk2)]) ∨ (∃ P fb2 gb2 md2 mk2, bstep R (B, tn) = some P ∧ BQ fb2 gb2 (bmany P) (BF P) ∧ r = nI 1 ∧ w9 = [(mx, .inr (7, [.int (nI th), .ref c0, .int (nI nl), .ref c1, .ref c2, .ref c3, .ref c4, .int (nI now), .ref c5, .ref c6, .ref c7, .int (nI pq), .int (nI pu), .int (nI pf), .int (nI pg), .int (nI bg), .int (nI ln), .ref c8, .int (nI sl), .ref c9, .int (nI fb2), .int (nI (bmany P)), .ref c10, .int (nI P.2), .int (nI md2), .ref c11, .int (nI tp), .int (nI tl), .int (nI tr)])), (c0, xI Z 4 v), (c1, xI Z 24 op), (c2, xI Z 24 wk), (c3, xI Z 24 on), (c4, xI Z 24 iz), (c5, xJ Z 6 wr), (c6, xI Z 6 wy), (c7, xI Z 6 gs), (c8, xI Z 700 gw), (c9, xI Z 700 sv), (c10, xI Z 80001 gb2), (c11, xI Z 6 mk2)])) (xB Z A) A) args s ({ frames := 6, cells := 0, slots := 0, locals := 133 } : Room).cells ({ frames := 6, cells := 0, slots := 0, locals := 133 } : Room).slots A) (F0 m 106 ls []) := by
                  intro nn106
                  induction nn106 with
                  | zero => intro k n3 gb3 H locs ls hk1 hG3 hn3 hmu106; exact absurd hmu106 (Nat.not_lt_zero _)
                  | succ nn106 ih106 =>
                    intro k n3 gb3 H locs ls hk1 hG3 hn3 hmu106 hP hD hS hl
                    refine lv_iload_n hx hb dX7_cycles_106 rfl (lv_at hl 2 rfl) ?_
                    refine ln_bipush 121 hx hb dX7_cycles_107 (by decide) ?_
                    refine ln_icmp_ge (tgt := 137) hx hb dX7_cycles_109 (by decide) (by omega) (by omega) (fun h109 => ?_) (fun h109 => ?_)
                    · refine ln_iinc (k0 := 1) (k := 1) (j + 1) (lv' := [(2, .int (nI (j + 1))), (0, .ref mx), (3, .int (nI k))]) hx hb dX7_cycles_137 hl rfl rfl (by first | rfl | omega) (by decide) rfl (fun ls hl => ?_)
                      refine lv_goto (tgt := 96) hx hb dX7_cycles_140 (by decide) ?_
                      exact ih  (j + 1) n3 gb3 _ _ _ (by omega) hG3 (by omega) (by omega) hP hD hS (lv_sub hl [1, 0] rfl)
                    · refine lv_aload_n hx hb dX7_cycles_112 rfl (lv_at hl 0 rfl) ?_
                      refine lv_aload_n hx hb dX7_cycles_113 rfl (lv_at hl 0 rfl) ?_
                      refine va_get (D := Z.1) (ci := 7) (v := .ref c11) (C := RX7) (T := TX7) (N := 29) hx hb hts iX7 hown hK hP 0 rfl rfl 25 (Nat.le_of_ble_eq_true rfl) qq_699 (fun _ h9 => h9) rfl dX7_cycles_114 ?_
                      refine lv_iload_n hx hb dX7_cycles_117 rfl (lv_at hl 1 rfl) ?_
                      have hz9 := hPLz _ (getD_mem (w := PL) (i := j) (by omega))
                      refine ln_iald hx hb hK hP 12 rfl (by omega) (by omega) dX7_cycles_118 ?_
                      refine ln_top (y := nI (PL.getD j 0)) (by rw [hPM2.2 j (by omega)]) ?_
                      refine lv_iload_n hx hb dX7_cycles_119 rfl (lv_at hl 2 rfl) ?_
                      refine ln_icmp_ne (tgt := 127) hx hb dX7_cycles_120 (by decide) (by omega) (by omega) (fun h120 => ?_) (fun h120 => ?_)
                      · refine ln_const 0 hx hb dX7_cycles_127 (by decide) ?_
                        refine x_Vv (y := yX7_putBit) (As := [.int (nI 0)]) (wc := [(mx, .inr (7, [.int (nI th), .ref c0, .int (nI nl), .ref c1, .ref c2, .ref c3, .ref c4, .int (nI now), .ref c5, .ref c6, .ref c7, .int (nI pq), .int (nI pu), .int (nI pf), .int (nI pg), .int (nI bg), .int (nI ln), .ref c8, .int (nI sl), .ref c9, .int (nI ((fb + 1) % 80001)), .int (nI n3), .ref c10, .int (nI tn), .int (nI md3), .ref c11, .int (nI tp), .int (nI tl), .int (nI tr)])), (c0, xI Z 4 v), (c1, xI Z 24 op), (c2, xI Z 24 wk), (c3, xI Z 24 on), (c4, xI Z 24 iz), (c5, xJ Z 6 wr), (c6, xI Z 6 wy), (c7, xI Z 6 gs), (c8, xI Z 700 gw), (c9, xI Z 700 sv), (c10, xI Z 80001 gb3), (c11, xI Z 6 mk3)]) (wr := []) hC hP hD hS (c_X7_putBit l Z mx c0 c1 c2 c3 c4 c5 c6 c7 c8 c9 c10 c11 th nl now pq pu pf pg bg ln sl ((fb + 1) % 80001) n3 tn md3 tp tl tr v op wk on iz wy gs gw sv gb3 mk3 wr (fun i => bitf (B ++ PL) (i + tn % 121 + 1)) hG3 (by omega) 0 (by show bitf (B ++ PL) (n3 + tn % 121 + 1) = _; rw [show n3 + tn % 121 + 1 = 121 * (B.length + j) + k by omega, bitf_new (by omega), if_neg h120])) (gV wq_921 wq_918 wq_920 wq_26 wq_45) rfl kv_X7_putBit rfl rfl ⟨rfl, rfl⟩ rfl hl.1 rfl ⟨Nat.le_of_ble_eq_true rfl, Nat.le_of_ble_eq_true rfl⟩ [0, 1, 2, 3, 4, 5, 6, 7, 8, 9, 10, 11, 12] ([] : List Nat) rfl rfl (by decide) (by decide) (by decide) rfl dX7_cycles_128 (fun w1 H locs hw hP hD hS => ?_)
                        obtain ⟨gb4, hgb4, rfl⟩ := hw
                        have hP : va_P Z.1 vwCl [(mx, .inr (7, [.int (nI th), .ref c0, .int (nI nl), .ref c1, .ref c2, .ref c3, .ref c4, .int (nI now), .ref c5, .ref c6, .ref c7, .int (nI pq), .int (nI pu), .int (nI pf), .int (nI pg), .int (nI bg), .int (nI ln), .ref c8, .int (nI sl), .ref c9, .int (nI ((fb + 1) % 80001)), .int (nI (n3 + 1)), .ref c10, .int (nI tn), .int (nI md3), .ref c11, .int (nI tp), .int (nI tl), .int (nI tr)])), (c0, xI Z 4 v), (c1, xI Z 24 op), (c2, xI Z 24 wk), (c3, xI Z 24 on), (c4, xI Z 24 iz), (c5, xJ Z 6 wr), (c6, xI Z 6 wy), (c7, xI Z 6 gs), (c8, xI Z 700 gw), (c9, xI Z 700 sv), (c10, xI Z 80001 gb4), (c11, xI Z 6 mk3)] H := hP
                        have hD : va_D A [(mx, .inr (7, [.int (nI th), .ref c0, .int (nI nl), .ref c1, .ref c2, .ref c3, .ref c4, .int (nI now), .ref c5, .ref c6, .ref c7, .int (nI pq), .int (nI pu), .int (nI pf), .int (nI pg), .int (nI bg), .int (nI ln), .ref c8, .int (nI sl), .ref c9, .int (nI ((fb + 1) % 80001)), .int (nI (n3 + 1)), .ref c10, .int (nI tn), .int (nI md3), .ref c11, .int (nI tp), .int (nI tl), .int (nI tr)])), (c0, xI Z 4 v), (c1, xI Z 24 op), (c2, xI Z 24 wk), (c3, xI Z 24 on), (c4, xI Z 24 iz), (c5, xJ Z 6 wr), (c6, xI Z 6 wy), (c7, xI Z 6 gs), (c8, xI Z 700 gw), (c9, xI Z 700 sv), (c10, xI Z 80001 gb4), (c11, xI Z 6 mk3)] := hD
                        refine ln_iinc (k0 := 2) (k := 1) (k + 1) (lv' := [(3, .int (nI (k + 1))), (0, .ref mx), (2, .int (nI j))]) hx hb dX7_cycles_131 hl rfl rfl (by first | rfl | omega) (by decide) rfl (fun ls hl => ?_)
                        refine lv_goto (tgt := 106) hx hb dX7_cycles_134 (by decide) ?_
                        exact ih106  (k + 1) (n3 + 1) gb4 _ _ _ (by omega) hgb4 (by omega) (by omega) hP hD hS (lv_sub hl [1, 2, 0] rfl)
                      · refine ln_const 1 hx hb dX7_cycles_123 (by decide) ?_
                        refine lv_goto (tgt := 128) hx hb dX7_cycles_124 (by decide) ?_
                        refine x_Vv (y := yX7_putBit) (As := [.int (nI 1)]) (wc := [(mx, .inr (7, [.int (nI th), .ref c0, .int (nI nl), .ref c1, .ref c2, .ref c3, .ref c4, .int (nI now), .ref c5, .ref c6, .ref c7, .int (nI pq), .int (nI pu), .int (nI pf), .int (nI pg), .int (nI bg), .int (nI ln), .ref c8, .int (nI sl), .ref c9, .int (nI ((fb + 1) % 80001)), .int (nI n3), .ref c10, .int (nI tn), .int (nI md3), .ref c11, .int (nI tp), .int (nI tl), .int (nI tr)])), (c0, xI Z 4 v), (c1, xI Z 24 op), (c2, xI Z 24 wk), (c3, xI Z 24 on), (c4, xI Z 24 iz), (c5, xJ Z 6 wr), (c6, xI Z 6 wy), (c7, xI Z 6 gs), (c8, xI Z 700 gw), (c9, xI Z 700 sv), (c10, xI Z 80001 gb3), (c11, xI Z 6 mk3)]) (wr := []) hC hP hD hS (c_X7_putBit l Z mx c0 c1 c2 c3 c4 c5 c6 c7 c8 c9 c10 c11 th nl now pq pu pf pg bg ln sl ((fb + 1) % 80001) n3 tn md3 tp tl tr v op wk on iz wy gs gw sv gb3 mk3 wr (fun i => bitf (B ++ PL) (i + tn % 121 + 1)) hG3 (by omega) 1 (by show bitf (B ++ PL) (n3 + tn % 121 + 1) = _; rw [show n3 + tn % 121 + 1 = 121 * (B.length + j) + k by omega, bitf_new (by omega), if_pos h120])) (gV wq_921 wq_918 wq_920 wq_26 wq_45) rfl kv_X7_putBit rfl rfl ⟨rfl, rfl⟩ rfl hl.1 rfl ⟨Nat.le_of_ble_eq_true rfl, Nat.le_of_ble_eq_true rfl⟩ [0, 1, 2, 3, 4, 5, 6, 7, 8, 9, 10, 11, 12] ([] : List Nat) rfl rfl (by decide) (by decide) (by decide) rfl dX7_cycles_128 (fun w1 H locs hw hP hD hS => ?_)
                        obtain ⟨gb4, hgb4, rfl⟩ := hw
                        have hP : va_P Z.1 vwCl [(mx, .inr (7, [.int (nI th), .ref c0, .int (nI nl), .ref c1, .ref c2, .ref c3, .ref c4, .int (nI now), .ref c5, .ref c6, .ref c7, .int (nI pq), .int (nI pu), .int (nI pf), .int (nI pg), .int (nI bg), .int (nI ln), .ref c8, .int (nI sl), .ref c9, .int (nI ((fb + 1) % 80001)), .int (nI (n3 + 1)), .ref c10, .int (nI tn), .int (nI md3), .ref c11, .int (nI tp), .int (nI tl), .int (nI tr)])), (c0, xI Z 4 v), (c1, xI Z 24 op), (c2, xI Z 24 wk), (c3, xI Z 24 on), (c4, xI Z 24 iz), (c5, xJ Z 6 wr), (c6, xI Z 6 wy), (c7, xI Z 6 gs), (c8, xI Z 700 gw), (c9, xI Z 700 sv), (c10, xI Z 80001 gb4), (c11, xI Z 6 mk3)] H := hP
                        have hD : va_D A [(mx, .inr (7, [.int (nI th), .ref c0, .int (nI nl), .ref c1, .ref c2, .ref c3, .ref c4, .int (nI now), .ref c5, .ref c6, .ref c7, .int (nI pq), .int (nI pu), .int (nI pf), .int (nI pg), .int (nI bg), .int (nI ln), .ref c8, .int (nI sl), .ref c9, .int (nI ((fb + 1) % 80001)), .int (nI (n3 + 1)), .ref c10, .int (nI tn), .int (nI md3), .ref c11, .int (nI tp), .int (nI tl), .int (nI tr)])), (c0, xI Z 4 v), (c1, xI Z 24 op), (c2, xI Z 24 wk), (c3, xI Z 24 on), (c4, xI Z 24 iz), (c5, xJ Z 6 wr), (c6, xI Z 6 wy), (c7, xI Z 6 gs), (c8, xI Z 700 gw), (c9, xI Z 700 sv), (c10, xI Z 80001 gb4), (c11, xI Z 6 mk3)] := hD
                        refine ln_iinc (k0 := 2) (k := 1) (k + 1) (lv' := [(3, .int (nI (k + 1))), (0, .ref mx), (2, .int (nI j))]) hx hb dX7_cycles_131 hl rfl rfl (by first | rfl | omega) (by decide) rfl (fun ls hl => ?_)
                        refine lv_goto (tgt := 106) hx hb dX7_cycles_134 (by decide) ?_
                        exact ih106  (k + 1) (n3 + 1) gb4 _ _ _ (by omega) hgb4 (by omega) (by omega) hP hD hS (lv_sub hl [1, 2, 0] rfl)
                exact hloop106 ((121 - 0) + 1) 0 n2 gb2 _ _ _ (Nat.zero_le _) hG (by omega) (Nat.lt_succ_self _) hP hD hS (lv_sub hl [1, 2, 0] rfl)
          exact hloop96 ((PL.length - 0) + 1) 0 (mn - 1) gb _ _ _ (Nat.zero_le _) ((hBQ.drop1 (by omega)).congr (fun i hi => by show bitf (B ++ PL) (i + tn % 121 + 1) = bitf B (i + 1 + tn % 121); rw [bitf_app (by omega), show i + tn % 121 + 1 = i + 1 + tn % 121 by omega])) (by omega) (Nat.lt_succ_self _) hP hD hS (lv_sub hl [2, 0] rfl)
        · refine ln_const 0 hx hb dX7_cycles_69 (by decide) ?_
          exact x_zret hC hr rfl hk hP hD hS dX7_cycles_70 (Or.inl ⟨by unfold bstep; dsimp only; rw [if_neg (show ¬ (tn = 0 ∧ (B.length < 2 ∨ (xprod R (B.getD 0 0)).length = 0)) from hst), if_pos h0, if_pos (by rw [← hPL]; omega)], rfl, md3, mk3, rfl⟩)

def TI (L : List Nat) (q j ir tl tr : Nat) : Prop := (∀ i, i < 2 * j → L.getD i 0 = xlf q tl i) ∧ ir ≤ 1 ∧ (ir = 0 → tr = 0 ∧ ((j = 0 ∧ tl = 0) ∨ j = tl + 1)) ∧ (ir = 1 → j = tl + tr + 2)
theorem TI.first {L : List Nat} {q ir tl tr : Nat} (h : TI L q 0 ir tl tr) (h0 : L.getD 0 0 = xof q 0) (h1 : L.getD 1 0 = 0) : TI L q 1 ir tl tr ∧ ir = 0 := by
  obtain ⟨a, b, c, d⟩ := h
  have e : ir = 0 := by
    rcases (show ir = 0 ∨ ir = 1 by omega) with e | e
    · exact e
    · have := d e; omega
  have c1 := c e
  refine ⟨⟨fun i hi => ?_, b, fun _ => by omega, fun q => by omega⟩, e⟩
  rcases (show i = 0 ∨ i = 1 by omega) with rfl | rfl
  · rw [h0]; unfold xlf; rw [if_neg (by decide), if_pos rfl]
  · rw [h1]; unfold xlf; rw [if_pos (by decide)]
theorem TI.mid {L : List Nat} {q j tl tr : Nat} (h : TI L q j 0 tl tr) (hj : 0 < j) (h0 : L.getD (2 * j) 0 = xof q 4) (h1 : L.getD (2 * j + 1) 0 = 0) : TI L q (j + 1) 1 tl tr := by
  obtain ⟨a, b, c, d⟩ := h
  have c1 := c rfl
  refine ⟨fun i hi => ?_, by omega, fun q => by omega, fun _ => by omega⟩
  rcases (show i < 2 * j ∨ i = 2 * j ∨ i = 2 * j + 1 by omega) with e | e | e
  · exact a i e
  · rw [e, h0]; unfold xlf; rw [if_neg (by omega), if_neg (by omega), if_neg (by omega), if_pos (by omega)]
  · rw [e, h1]; unfold xlf; rw [if_pos (by omega)]
theorem TI.left {L : List Nat} {q j tl tr : Nat} (h : TI L q j 0 tl tr) (hj : 0 < j) (h0 : L.getD (2 * j) 0 = xof q 1) (h1 : L.getD (2 * j + 1) 0 = 0) : TI L q (j + 1) 0 (tl + 1) (tr + 0) := by
  obtain ⟨a, b, c, d⟩ := h
  have c1 := c rfl
  refine ⟨fun i hi => ?_, by omega, fun _ => by omega, fun q => by omega⟩
  rcases (show i < 2 * j ∨ i = 2 * j ∨ i = 2 * j + 1 by omega) with e | e | e
  · rw [a i e]
    unfold xlf
    by_cases o : i % 2 = 1
    · rw [if_pos o, if_pos o]
    · rw [if_neg o, if_neg o]
      by_cases z : i = 0
      · rw [if_pos z, if_pos z]
      · rw [if_neg z, if_neg z, if_pos (by omega), if_pos (by omega)]
  · rw [e, h0]; unfold xlf; rw [if_neg (by omega), if_neg (by omega), if_pos (by omega)]
  · rw [e, h1]; unfold xlf; rw [if_pos (by omega)]
theorem TI.right {L : List Nat} {q j tl tr : Nat} (h : TI L q j 1 tl tr) (h0 : L.getD (2 * j) 0 = xof q 5) (h1 : L.getD (2 * j + 1) 0 = 0) : TI L q (j + 1) 1 (tl + 0) (tr + 1) := by
  obtain ⟨a, b, c, d⟩ := h
  have d1 := d rfl
  refine ⟨fun i hi => ?_, by omega, fun q => by omega, fun _ => by omega⟩
  rcases (show i < 2 * j ∨ i = 2 * j ∨ i = 2 * j + 1 by omega) with e | e | e
  · exact a i e
  · rw [e, h0]; unfold xlf; rw [if_neg (by omega), if_neg (by omega), if_neg (by omega), if_neg (by omega)]
  · rw [e, h1]; unfold xlf; rw [if_pos (by omega)]
theorem pl_q {L : List Nat} {q q2 f g : Nat} (e : L = xlay q2 f g) (h0 : L.getD 0 0 = xof q 0) : q2 = q := by
  have : L.getD 0 0 = xlf q2 f 0 := by rw [e]; exact xlay_at (by omega)
  rw [h0] at this
  unfold xlf xof at this
  rw [if_neg (by decide), if_pos rfl] at this
  omega
theorem xlf_B (q f : Nat) : xlf q f (2 * f + 2) = xof q 4 := by
  unfold xlf
  rw [if_neg (by omega), if_neg (by omega), if_neg (by omega), if_pos rfl]
theorem TI.bad {L : List Nat} {q j ir tl tr : Nat} (h : TI L q j ir tl tr) (hj : 0 < j) (hl : 2 * j < L.length) (h0 : L.getD 0 0 = xof q 0) (ha : ir = 0 → L.getD (2 * j) 0 ≠ xof q 4 ∧ L.getD (2 * j) 0 ≠ xof q 1) (hb : ir = 1 → L.getD (2 * j) 0 ≠ xof q 5) : ¬ isPl L := by
  rintro ⟨q2, f, g, hq, e⟩
  have eq := pl_q e h0
  subst eq
  obtain ⟨a, b, c, d⟩ := h
  have el : L.length = 4 + 2 * f + 2 * g := by rw [e, xlay_len]
  have at' : ∀ i, i < L.length → L.getD i 0 = xlf q2 f i := fun i hi => by rw [e]; exact xlay_at (by omega)
  rcases (show ir = 0 ∨ ir = 1 by omega) with z | z
  · obtain ⟨c1, c2⟩ := c z
    obtain ⟨n1, n2⟩ := ha z
    have hj2 : j = tl + 1 := by omega
    rcases Nat.lt_or_ge f j with hf | hf
    · -- the B stands at 2 f + 2
      rcases (show f = tl ∨ f < tl by omega) with hf2 | hf2
      · apply n1
        rw [at' _ hl]
        unfold xlf
        rw [if_neg (by omega), if_neg (by omega), if_neg (by omega), if_pos (by omega)]
      · have h1 := a (2 * f + 2) (by omega)
        rw [at' _ (by omega)] at h1
        unfold xlf xof at h1
        rw [if_neg (by omega), if_neg (by omega), if_neg (by omega), if_pos (by omega), if_neg (by omega), if_neg (by omega), if_pos (by omega)] at h1
        omega
    · apply n2
      rw [at' _ hl]
      unfold xlf
      rw [if_neg (by omega), if_neg (by omega), if_pos (by omega)]
  · have d1 := d z
    have hf : f = tl := by
      have h1 := a (2 * tl + 2) (by omega)
      rw [at' _ (by omega), xlf_B] at h1
      unfold xlf xof at h1
      rw [if_neg (by omega), if_neg (by omega)] at h1
      split at h1
      · omega
      · split at h1
        · omega
        · omega
    apply hb z
    rw [at' _ hl]
    unfold xlf
    rw [if_neg (by omega), if_neg (by omega), if_neg (by omega), if_neg (by omega)]
theorem TI.odd {L : List Nat} {j : Nat} (hl : 2 * j + 1 < L.length) (h1 : ¬ L.getD (2 * j + 1) 0 = 0) : ¬ isPl L := by
  rintro ⟨q2, f, g, hq, e⟩
  apply h1
  have el : L.length = 4 + 2 * f + 2 * g := by rw [e, xlay_len]
  rw [e, xlay_at (by omega)]
  unfold xlf
  rw [if_pos (by omega)]
theorem TI.end1 {L : List Nat} {q j tl tr : Nat} (h : TI L q j 1 tl tr) (hl : L.length = 2 * j) : L = xlay q tl tr := by
  have := h.2.2.2 rfl
  exact xlay_of (by omega) (fun i hi => h.1 i (by omega))
theorem TI.end0 {L : List Nat} {q j tl tr : Nat} (h : TI L q j 0 tl tr) (hl : L.length = 2 * j) (h4 : 4 ≤ L.length) (h0 : L.getD 0 0 = xof q 0) : ¬ isPl L := by
  rintro ⟨q2, f, g, hq, e⟩
  have eq := pl_q e h0
  subst eq
  obtain ⟨a, b, c, d⟩ := h
  obtain ⟨c1, c2⟩ := c rfl
  have el : L.length = 4 + 2 * f + 2 * g := by rw [e, xlay_len]
  have h1 := a (2 * f + 2) (by omega)
  have h2 : L.getD (2 * f + 2) 0 = xlf q2 f (2 * f + 2) := by rw [e]; exact xlay_at (by omega)
  rw [h2] at h1
  unfold xlf xof at h1
  rw [if_neg (by omega), if_neg (by omega), if_neg (by omega), if_pos (by omega), if_neg (by omega), if_neg (by omega), if_pos (by omega)] at h1
  omega
theorem npl_len {L : List Nat} (h : L.length < 4) : ¬ isPl L := by
  rintro ⟨q2, f, g, hq, e⟩
  have el : L.length = 4 + 2 * f + 2 * g := by rw [e, xlay_len]
  omega
theorem npl_odd {L : List Nat} (h : L.length % 2 = 1) : ¬ isPl L := by
  rintro ⟨q2, f, g, hq, e⟩
  have el : L.length = 4 + 2 * f + 2 * g := by rw [e, xlay_len]
  omega
theorem npl_0 {L : List Nat} (h : L.getD 0 0 = 0 ∨ ¬ (L.getD 0 0 - 1) % 20 = 0) : ¬ isPl L := by
  rintro ⟨q2, f, g, hq, e⟩
  have : L.getD 0 0 = xlf q2 f 0 := by rw [e]; exact xlay_at (by omega)
  unfold xlf xof at this
  rw [if_neg (by decide), if_pos rfl] at this
  omega

set_option maxHeartbeats 4000000 in
set_option maxRecDepth 100000 in
theorem c_X7_tells (l : Launch) (Z : xZ) (mx c0 c1 c2 c3 c4 c5 c6 c7 c8 c9 c10 c11 th nl now pq pu pf pg bg ln sl fb mn tn md tp tl tr : Nat) (v op wk on iz wy gs gw sv gb mk : Nat → Nat) (wr : Nat → Int32) (L : List Nat) (hRL : RR 700 bg gw L) (hln : ln = L.length) (hW : WV L) : xMi l Z yX7_tells vX7_tells ({ frames := 1, cells := 0, slots := 0, locals := 21 } : Room) [.ref mx] [(mx, .inr (7, [.int (nI th), .ref c0, .int (nI nl), .ref c1, .ref c2, .ref c3, .ref c4, .int (nI now), .ref c5, .ref c6, .ref c7, .int (nI pq), .int (nI pu), .int (nI pf), .int (nI pg), .int (nI bg), .int (nI ln), .ref c8, .int (nI sl), .ref c9, .int (nI fb), .int (nI mn), .ref c10, .int (nI tn), .int (nI md), .ref c11, .int (nI tp), .int (nI tl), .int (nI tr)])), (c0, xI Z 4 v), (c1, xI Z 24 op), (c2, xI Z 24 wk), (c3, xI Z 24 on), (c4, xI Z 24 iz), (c5, xJ Z 6 wr), (c6, xI Z 6 wy), (c7, xI Z 6 gs), (c8, xI Z 700 gw), (c9, xI Z 700 sv), (c10, xI Z 80001 gb), (c11, xI Z 6 mk)] (fun r w9 => (∃ q f1 g1, q < 6 ∧ L = xlay q f1 g1 ∧ r = nI 1 ∧ w9 = [(mx, .inr (7, [.int (nI th), .ref c0, .int (nI nl), .ref c1, .ref c2, .ref c3, .ref c4, .int (nI now), .ref c5, .ref c6, .ref c7, .int (nI pq), .int (nI pu), .int (nI pf), .int (nI pg), .int (nI bg), .int (nI ln), .ref c8, .int (nI sl), .ref c9, .int (nI fb), .int (nI mn), .ref c10, .int (nI tn), .int (nI md), .ref c11, .int (nI q), .int (nI f1), .int (nI g1)])), (c0, xI Z 4 v), (c1, xI Z 24 op), (c2, xI Z 24 wk), (c3, xI Z 24 on), (c4, xI Z 24 iz), (c5, xJ Z 6 wr), (c6, xI Z 6 wy), (c7, xI Z 6 gs), (c8, xI Z 700 gw), (c9, xI Z 700 sv), (c10, xI Z 80001 gb), (c11, xI Z 6 mk)]) ∨ (¬ isPl L ∧ r = nI 0 ∧ ∃ tp2 tl2 tr2, w9 = [(mx, .inr (7, [.int (nI th), .ref c0, .int (nI nl), .ref c1, .ref c2, .ref c3, .ref c4, .int (nI now), .ref c5, .ref c6, .ref c7, .int (nI pq), .int (nI pu), .int (nI pf), .int (nI pg), .int (nI bg), .int (nI ln), .ref c8, .int (nI sl), .ref c9, .int (nI fb), .int (nI mn), .ref c10, .int (nI tn), .int (nI md), .ref c11, .int (nI tp2), .int (nI tl2), .int (nI tr2)])), (c0, xI Z 4 v), (c1, xI Z 24 op), (c2, xI Z 24 wk), (c3, xI Z 24 on), (c4, xI Z 24 iz), (c5, xJ Z 6 wr), (c6, xI Z 6 wy), (c7, xI Z 6 gs), (c8, xI Z 700 gw), (c9, xI Z 700 sv), (c10, xI Z 80001 gb), (c11, xI Z 6 mk)])) := by
  refine x_i (by decide) rfl (Nat.le_of_ble_eq_true rfl) ?_
  intro p e s m args below meth c ls A hC hr hk hl hP hD hS
  have hx := hC.1.1
  have hb := hC.1.2.1
  have hml := hC.1.2.2.1
  have hown : s.vm.findClass RX7 = some m.cls := hC.1.2.2.2.1
  have hts := hC.1.2.2.2.2
  have hK := hC.2.1
  have qq_690 := hts (Cond.fieldLink RX7 126 "TagTowerModel" "length" "I") (List.mem_cons_of_mem _ wq_690)
  have iX7 : ∀ w ∈ wsX70, w ∈ vX7_tells := fun w h => List.mem_cons_of_mem _ (wi_X7 w h)
  have qq_700 := hts (Cond.fieldLink RX7 141 "TagTowerModel" "toldPair" "I") (List.mem_cons_of_mem _ wq_700)
  have qq_701 := hts (Cond.fieldLink RX7 144 "TagTowerModel" "toldLeft" "I") (List.mem_cons_of_mem _ wq_701)
  have qq_702 := hts (Cond.fieldLink RX7 147 "TagTowerModel" "toldRight" "I") (List.mem_cons_of_mem _ wq_702)
  have hl : lv_has ls 4 [(0, .ref mx)] := hl
  have hP : va_P Z.1 vwCl [(mx, .inr (7, [.int (nI th), .ref c0, .int (nI nl), .ref c1, .ref c2, .ref c3, .ref c4, .int (nI now), .ref c5, .ref c6, .ref c7, .int (nI pq), .int (nI pu), .int (nI pf), .int (nI pg), .int (nI bg), .int (nI ln), .ref c8, .int (nI sl), .ref c9, .int (nI fb), .int (nI mn), .ref c10, .int (nI tn), .int (nI md), .ref c11, .int (nI tp), .int (nI tl), .int (nI tr)])), (c0, xI Z 4 v), (c1, xI Z 24 op), (c2, xI Z 24 wk), (c3, xI Z 24 on), (c4, xI Z 24 iz), (c5, xJ Z 6 wr), (c6, xI Z 6 wy), (c7, xI Z 6 gs), (c8, xI Z 700 gw), (c9, xI Z 700 sv), (c10, xI Z 80001 gb), (c11, xI Z 6 mk)] s.heap := hP
  have hD : va_D A [(mx, .inr (7, [.int (nI th), .ref c0, .int (nI nl), .ref c1, .ref c2, .ref c3, .ref c4, .int (nI now), .ref c5, .ref c6, .ref c7, .int (nI pq), .int (nI pu), .int (nI pf), .int (nI pg), .int (nI bg), .int (nI ln), .ref c8, .int (nI sl), .ref c9, .int (nI fb), .int (nI mn), .ref c10, .int (nI tn), .int (nI md), .ref c11, .int (nI tp), .int (nI tl), .int (nI tr)])), (c0, xI Z 4 v), (c1, xI Z 24 op), (c2, xI Z 24 wk), (c3, xI Z 24 on), (c4, xI Z 24 iz), (c5, xJ Z 6 wr), (c6, xI Z 6 wy), (c7, xI Z 6 gs), (c8, xI Z 700 gw), (c9, xI Z 700 sv), (c10, xI Z 80001 gb), (c11, xI Z 6 mk)] := hD
  have hR1 := hRL.1
  have hW1 := hW.1
  refine lv_aload_n hx hb dX7_tells_0 rfl (lv_at hl 0 rfl) ?_
  refine va_get (D := Z.1) (ci := 7) (v := .int (nI ln)) (C := RX7) (T := TX7) (N := 29) hx hb hts iX7 hown hK hP 0 rfl rfl 16 (Nat.le_of_ble_eq_true rfl) qq_690 (fun _ h9 => h9) rfl dX7_tells_1 ?_
  refine ln_const 4 hx hb dX7_tells_4 (by decide) ?_
  refine ln_icmp_lt (tgt := 39) hx hb dX7_tells_5 (by decide) (by omega) (by omega) (fun h5 => ?_) (fun h5 => ?_)
  · refine ln_const 0 hx hb dX7_tells_39 (by decide) ?_
    exact x_zret hC hr rfl hk hP hD hS dX7_tells_40 (Or.inr ⟨npl_len (by omega), rfl, tp, tl, tr, rfl⟩)
  · refine lv_aload_n hx hb dX7_tells_8 rfl (lv_at hl 0 rfl) ?_
    refine va_get (D := Z.1) (ci := 7) (v := .int (nI ln)) (C := RX7) (T := TX7) (N := 29) hx hb hts iX7 hown hK hP 0 rfl rfl 16 (Nat.le_of_ble_eq_true rfl) qq_690 (fun _ h9 => h9) rfl dX7_tells_9 ?_
    refine ln_const 2 hx hb dX7_tells_12 (by decide) ?_
    refine ln_irem (ln % 2) hx hb dX7_tells_13 (by omega) (by omega) (by omega) (by first | rfl | omega) ?_
    refine ln_const 1 hx hb dX7_tells_14 (by decide) ?_
    refine ln_icmp_eq (tgt := 39) hx hb dX7_tells_15 (by decide) (by omega) (by omega) (fun h15 => ?_) (fun h15 => ?_)
    · refine ln_const 0 hx hb dX7_tells_39 (by decide) ?_
      exact x_zret hC hr rfl hk hP hD hS dX7_tells_40 (Or.inr ⟨npl_odd (by omega), rfl, tp, tl, tr, rfl⟩)
    · refine lv_aload_n hx hb dX7_tells_18 rfl (lv_at hl 0 rfl) ?_
      refine ln_const 0 hx hb dX7_tells_19 (by decide) ?_
      refine x_Vi (y := yX7_letterAt) (As := [.int (nI 0)]) (wc := [(mx, .inr (7, [.int (nI th), .ref c0, .int (nI nl), .ref c1, .ref c2, .ref c3, .ref c4, .int (nI now), .ref c5, .ref c6, .ref c7, .int (nI pq), .int (nI pu), .int (nI pf), .int (nI pg), .int (nI bg), .int (nI ln), .ref c8, .int (nI sl), .ref c9, .int (nI fb), .int (nI mn), .ref c10, .int (nI tn), .int (nI md), .ref c11, .int (nI tp), .int (nI tl), .int (nI tr)])), (c0, xI Z 4 v), (c1, xI Z 24 op), (c2, xI Z 24 wk), (c3, xI Z 24 on), (c4, xI Z 24 iz), (c5, xJ Z 6 wr), (c6, xI Z 6 wy), (c7, xI Z 6 gs), (c8, xI Z 700 gw), (c9, xI Z 700 sv), (c10, xI Z 80001 gb), (c11, xI Z 6 mk)]) (wr := []) hC hP hD hS (c_X7_letterAt l Z mx c0 c1 c2 c3 c4 c5 c6 c7 c8 c9 c10 c11 th nl now pq pu pf pg bg ln sl fb mn tn md tp tl tr v op wk on iz wy gs gw sv gb mk wr L hRL (hln) (by omega) 0 (by omega)) (gV wq_882 wq_879 wq_881 wq_23 wq_45) rfl kv_X7_letterAt rfl rfl ⟨rfl, rfl⟩ rfl hl.1 rfl ⟨Nat.le_of_ble_eq_true rfl, Nat.le_of_ble_eq_true rfl⟩ [0, 1, 2, 3, 4, 5, 6, 7, 8, 9, 10, 11, 12] ([] : List Nat) rfl rfl (by decide) (by decide) (by decide) rfl dX7_tells_20 (fun r20 w1 H locs hw hP hD hS => ?_)
      obtain ⟨rfl, rfl⟩ := hw
      have hP : va_P Z.1 vwCl [(mx, .inr (7, [.int (nI th), .ref c0, .int (nI nl), .ref c1, .ref c2, .ref c3, .ref c4, .int (nI now), .ref c5, .ref c6, .ref c7, .int (nI pq), .int (nI pu), .int (nI pf), .int (nI pg), .int (nI bg), .int (nI ln), .ref c8, .int (nI sl), .ref c9, .int (nI fb), .int (nI mn), .ref c10, .int (nI tn), .int (nI md), .ref c11, .int (nI tp), .int (nI tl), .int (nI tr)])), (c0, xI Z 4 v), (c1, xI Z 24 op), (c2, xI Z 24 wk), (c3, xI Z 24 on), (c4, xI Z 24 iz), (c5, xJ Z 6 wr), (c6, xI Z 6 wy), (c7, xI Z 6 gs), (c8, xI Z 700 gw), (c9, xI Z 700 sv), (c10, xI Z 80001 gb), (c11, xI Z 6 mk)] H := hP
      have hD : va_D A [(mx, .inr (7, [.int (nI th), .ref c0, .int (nI nl), .ref c1, .ref c2, .ref c3, .ref c4, .int (nI now), .ref c5, .ref c6, .ref c7, .int (nI pq), .int (nI pu), .int (nI pf), .int (nI pg), .int (nI bg), .int (nI ln), .ref c8, .int (nI sl), .ref c9, .int (nI fb), .int (nI mn), .ref c10, .int (nI tn), .int (nI md), .ref c11, .int (nI tp), .int (nI tl), .int (nI tr)])), (c0, xI Z 4 v), (c1, xI Z 24 op), (c2, xI Z 24 wk), (c3, xI Z 24 on), (c4, xI Z 24 iz), (c5, xJ Z 6 wr), (c6, xI Z 6 wy), (c7, xI Z 6 gs), (c8, xI Z 700 gw), (c9, xI Z 700 sv), (c10, xI Z 80001 gb), (c11, xI Z 6 mk)] := hD
      have hc0 := hW.at0 (i := 0) (by omega)
      refine ln_if_eq (tgt := 39) hx hb dX7_tells_23 (by decide) (by omega) (fun h23 => ?_) (fun h23 => ?_)
      · refine ln_const 0 hx hb dX7_tells_39 (by decide) ?_
        exact x_zret hC hr rfl hk hP hD hS dX7_tells_40 (Or.inr ⟨npl_0 (Or.inl h23), rfl, tp, tl, tr, rfl⟩)
      · refine lv_aload_n hx hb dX7_tells_26 rfl (lv_at hl 0 rfl) ?_
        refine ln_const 0 hx hb dX7_tells_27 (by decide) ?_
        refine x_Vi (y := yX7_letterAt) (As := [.int (nI 0)]) (wc := [(mx, .inr (7, [.int (nI th), .ref c0, .int (nI nl), .ref c1, .ref c2, .ref c3, .ref c4, .int (nI now), .ref c5, .ref c6, .ref c7, .int (nI pq), .int (nI pu), .int (nI pf), .int (nI pg), .int (nI bg), .int (nI ln), .ref c8, .int (nI sl), .ref c9, .int (nI fb), .int (nI mn), .ref c10, .int (nI tn), .int (nI md), .ref c11, .int (nI tp), .int (nI tl), .int (nI tr)])), (c0, xI Z 4 v), (c1, xI Z 24 op), (c2, xI Z 24 wk), (c3, xI Z 24 on), (c4, xI Z 24 iz), (c5, xJ Z 6 wr), (c6, xI Z 6 wy), (c7, xI Z 6 gs), (c8, xI Z 700 gw), (c9, xI Z 700 sv), (c10, xI Z 80001 gb), (c11, xI Z 6 mk)]) (wr := []) hC hP hD hS (c_X7_letterAt l Z mx c0 c1 c2 c3 c4 c5 c6 c7 c8 c9 c10 c11 th nl now pq pu pf pg bg ln sl fb mn tn md tp tl tr v op wk on iz wy gs gw sv gb mk wr L hRL (hln) (by omega) 0 (by omega)) (gV wq_882 wq_879 wq_881 wq_23 wq_45) rfl kv_X7_letterAt rfl rfl ⟨rfl, rfl⟩ rfl hl.1 rfl ⟨Nat.le_of_ble_eq_true rfl, Nat.le_of_ble_eq_true rfl⟩ [0, 1, 2, 3, 4, 5, 6, 7, 8, 9, 10, 11, 12] ([] : List Nat) rfl rfl (by decide) (by decide) (by decide) rfl dX7_tells_28 (fun r28 w1 H locs hw hP hD hS => ?_)
        obtain ⟨rfl, rfl⟩ := hw
        have hP : va_P Z.1 vwCl [(mx, .inr (7, [.int (nI th), .ref c0, .int (nI nl), .ref c1, .ref c2, .ref c3, .ref c4, .int (nI now), .ref c5, .ref c6, .ref c7, .int (nI pq), .int (nI pu), .int (nI pf), .int (nI pg), .int (nI bg), .int (nI ln), .ref c8, .int (nI sl), .ref c9, .int (nI fb), .int (nI mn), .ref c10, .int (nI tn), .int (nI md), .ref c11, .int (nI tp), .int (nI tl), .int (nI tr)])), (c0, xI Z 4 v), (c1, xI Z 24 op), (c2, xI Z 24 wk), (c3, xI Z 24 on), (c4, xI Z 24 iz), (c5, xJ Z 6 wr), (c6, xI Z 6 wy), (c7, xI Z 6 gs), (c8, xI Z 700 gw), (c9, xI Z 700 sv), (c10, xI Z 80001 gb), (c11, xI Z 6 mk)] H := hP
        have hD : va_D A [(mx, .inr (7, [.int (nI th), .ref c0, .int (nI nl), .ref c1, .ref c2, .ref c3, .ref c4, .int (nI now), .ref c5, .ref c6, .ref c7, .int (nI pq), .int (nI pu), .int (nI pf), .int (nI pg), .int (nI bg), .int (nI ln), .ref c8, .int (nI sl), .ref c9, .int (nI fb), .int (nI mn), .ref c10, .int (nI tn), .int (nI md), .ref c11, .int (nI tp), .int (nI tl), .int (nI tr)])), (c0, xI Z 4 v), (c1, xI Z 24 op), (c2, xI Z 24 wk), (c3, xI Z 24 on), (c4, xI Z 24 iz), (c5, xJ Z 6 wr), (c6, xI Z 6 wy), (c7, xI Z 6 gs), (c8, xI Z 700 gw), (c9, xI Z 700 sv), (c10, xI Z 80001 gb), (c11, xI Z 6 mk)] := hD
        refine ln_const 1 hx hb dX7_tells_31 (by decide) ?_
        refine ln_isub ((L.getD 0 0) - 1) hx hb dX7_tells_32 (by omega) (by first | rfl | omega) ?_
        refine ln_bipush 20 hx hb dX7_tells_33 (by decide) ?_
        refine ln_irem (((L.getD 0 0) - 1) % 20) hx hb dX7_tells_35 (by omega) (by omega) (by omega) (by first | rfl | omega) ?_
        refine ln_if_eq (tgt := 41) hx hb dX7_tells_36 (by decide) (by omega) (fun h36 => ?_) (fun h36 => ?_)
        · refine lv_aload_n hx hb dX7_tells_41 rfl (lv_at hl 0 rfl) ?_
          refine lv_aload_n hx hb dX7_tells_42 rfl (lv_at hl 0 rfl) ?_
          refine ln_const 0 hx hb dX7_tells_43 (by decide) ?_
          have hq0 : L.getD 0 0 = xof ((L.getD 0 0 - 1) / 20) 0 := by unfold xof; omega
          refine x_Vi (y := yX7_letterAt) (As := [.int (nI 0)]) (wc := [(mx, .inr (7, [.int (nI th), .ref c0, .int (nI nl), .ref c1, .ref c2, .ref c3, .ref c4, .int (nI now), .ref c5, .ref c6, .ref c7, .int (nI pq), .int (nI pu), .int (nI pf), .int (nI pg), .int (nI bg), .int (nI ln), .ref c8, .int (nI sl), .ref c9, .int (nI fb), .int (nI mn), .ref c10, .int (nI tn), .int (nI md), .ref c11, .int (nI tp), .int (nI tl), .int (nI tr)])), (c0, xI Z 4 v), (c1, xI Z 24 op), (c2, xI Z 24 wk), (c3, xI Z 24 on), (c4, xI Z 24 iz), (c5, xJ Z 6 wr), (c6, xI Z 6 wy), (c7, xI Z 6 gs), (c8, xI Z 700 gw), (c9, xI Z 700 sv), (c10, xI Z 80001 gb), (c11, xI Z 6 mk)]) (wr := []) hC hP hD hS (c_X7_letterAt l Z mx c0 c1 c2 c3 c4 c5 c6 c7 c8 c9 c10 c11 th nl now pq pu pf pg bg ln sl fb mn tn md tp tl tr v op wk on iz wy gs gw sv gb mk wr L hRL (hln) (by omega) 0 (by omega)) (gV wq_882 wq_879 wq_881 wq_23 wq_45) rfl kv_X7_letterAt rfl rfl ⟨rfl, rfl⟩ rfl hl.1 rfl ⟨Nat.le_of_ble_eq_true rfl, Nat.le_of_ble_eq_true rfl⟩ [0, 1, 2, 3, 4, 5, 6, 7, 8, 9, 10, 11, 12] ([] : List Nat) rfl rfl (by decide) (by decide) (by decide) rfl dX7_tells_44 (fun r44 w1 H locs hw hP hD hS => ?_)
          obtain ⟨rfl, rfl⟩ := hw
          have hP : va_P Z.1 vwCl [(mx, .inr (7, [.int (nI th), .ref c0, .int (nI nl), .ref c1, .ref c2, .ref c3, .ref c4, .int (nI now), .ref c5, .ref c6, .ref c7, .int (nI pq), .int (nI pu), .int (nI pf), .int (nI pg), .int (nI bg), .int (nI ln), .ref c8, .int (nI sl), .ref c9, .int (nI fb), .int (nI mn), .ref c10, .int (nI tn), .int (nI md), .ref c11, .int (nI tp), .int (nI tl), .int (nI tr)])), (c0, xI Z 4 v), (c1, xI Z 24 op), (c2, xI Z 24 wk), (c3, xI Z 24 on), (c4, xI Z 24 iz), (c5, xJ Z 6 wr), (c6, xI Z 6 wy), (c7, xI Z 6 gs), (c8, xI Z 700 gw), (c9, xI Z 700 sv), (c10, xI Z 80001 gb), (c11, xI Z 6 mk)] H := hP
          have hD : va_D A [(mx, .inr (7, [.int (nI th), .ref c0, .int (nI nl), .ref c1, .ref c2, .ref c3, .ref c4, .int (nI now), .ref c5, .ref c6, .ref c7, .int (nI pq), .int (nI pu), .int (nI pf), .int (nI pg), .int (nI bg), .int (nI ln), .ref c8, .int (nI sl), .ref c9, .int (nI fb), .int (nI mn), .ref c10, .int (nI tn), .int (nI md), .ref c11, .int (nI tp), .int (nI tl), .int (nI tr)])), (c0, xI Z 4 v), (c1, xI Z 24 op), (c2, xI Z 24 wk), (c3, xI Z 24 on), (c4, xI Z 24 iz), (c5, xJ Z 6 wr), (c6, xI Z 6 wy), (c7, xI Z 6 gs), (c8, xI Z 700 gw), (c9, xI Z 700 sv), (c10, xI Z 80001 gb), (c11, xI Z 6 mk)] := hD
          refine ln_const 1 hx hb dX7_tells_47 (by decide) ?_
          refine ln_isub ((L.getD 0 0) - 1) hx hb dX7_tells_48 (by omega) (by first | rfl | omega) ?_
          refine ln_bipush 20 hx hb dX7_tells_49 (by decide) ?_
          refine ln_idiv (((L.getD 0 0) - 1) / 20) hx hb dX7_tells_51 (by omega) (by omega) (by omega) (by first | rfl | omega) ?_
          refine va_put (D := Z.1) (ci := 7) (v := .int (nI (((L.getD 0 0) - 1) / 20))) (ty := tyX7 26) (C := RX7) (T := TX7) (N := 29) hx hb hts iX7 tyX7 tyX7_ok nmX7 hown hK hP hD hS 0 rfl rfl 26 (Nat.le_of_ble_eq_true rfl) qq_700 (fun _ h9 => h9) rfl (tyX7_ok 26 (Nat.le_of_ble_eq_true rfl)) rfl rfl (Nat.le_of_ble_eq_true rfl) dX7_tells_52 (fun H locs hP hD hS => ?_)
          have hP : va_P Z.1 vwCl [(mx, .inr (7, [.int (nI th), .ref c0, .int (nI nl), .ref c1, .ref c2, .ref c3, .ref c4, .int (nI now), .ref c5, .ref c6, .ref c7, .int (nI pq), .int (nI pu), .int (nI pf), .int (nI pg), .int (nI bg), .int (nI ln), .ref c8, .int (nI sl), .ref c9, .int (nI fb), .int (nI mn), .ref c10, .int (nI tn), .int (nI md), .ref c11, .int (nI (((L.getD 0 0) - 1) / 20)), .int (nI tl), .int (nI tr)])), (c0, xI Z 4 v), (c1, xI Z 24 op), (c2, xI Z 24 wk), (c3, xI Z 24 on), (c4, xI Z 24 iz), (c5, xJ Z 6 wr), (c6, xI Z 6 wy), (c7, xI Z 6 gs), (c8, xI Z 700 gw), (c9, xI Z 700 sv), (c10, xI Z 80001 gb), (c11, xI Z 6 mk)] H := hP
          have hD : va_D A [(mx, .inr (7, [.int (nI th), .ref c0, .int (nI nl), .ref c1, .ref c2, .ref c3, .ref c4, .int (nI now), .ref c5, .ref c6, .ref c7, .int (nI pq), .int (nI pu), .int (nI pf), .int (nI pg), .int (nI bg), .int (nI ln), .ref c8, .int (nI sl), .ref c9, .int (nI fb), .int (nI mn), .ref c10, .int (nI tn), .int (nI md), .ref c11, .int (nI (((L.getD 0 0) - 1) / 20)), .int (nI tl), .int (nI tr)])), (c0, xI Z 4 v), (c1, xI Z 24 op), (c2, xI Z 24 wk), (c3, xI Z 24 on), (c4, xI Z 24 iz), (c5, xJ Z 6 wr), (c6, xI Z 6 wy), (c7, xI Z 6 gs), (c8, xI Z 700 gw), (c9, xI Z 700 sv), (c10, xI Z 80001 gb), (c11, xI Z 6 mk)] := hD
          refine lv_aload_n hx hb dX7_tells_55 rfl (lv_at hl 0 rfl) ?_
          refine ln_const 0 hx hb dX7_tells_56 (by decide) ?_
          refine va_put (D := Z.1) (ci := 7) (v := .int (nI 0)) (ty := tyX7 27) (C := RX7) (T := TX7) (N := 29) hx hb hts iX7 tyX7 tyX7_ok nmX7 hown hK hP hD hS 0 rfl rfl 27 (Nat.le_of_ble_eq_true rfl) qq_701 (fun _ h9 => h9) rfl (tyX7_ok 27 (Nat.le_of_ble_eq_true rfl)) rfl rfl (Nat.le_of_ble_eq_true rfl) dX7_tells_57 (fun H locs hP hD hS => ?_)
          have hP : va_P Z.1 vwCl [(mx, .inr (7, [.int (nI th), .ref c0, .int (nI nl), .ref c1, .ref c2, .ref c3, .ref c4, .int (nI now), .ref c5, .ref c6, .ref c7, .int (nI pq), .int (nI pu), .int (nI pf), .int (nI pg), .int (nI bg), .int (nI ln), .ref c8, .int (nI sl), .ref c9, .int (nI fb), .int (nI mn), .ref c10, .int (nI tn), .int (nI md), .ref c11, .int (nI (((L.getD 0 0) - 1) / 20)), .int (nI 0), .int (nI tr)])), (c0, xI Z 4 v), (c1, xI Z 24 op), (c2, xI Z 24 wk), (c3, xI Z 24 on), (c4, xI Z 24 iz), (c5, xJ Z 6 wr), (c6, xI Z 6 wy), (c7, xI Z 6 gs), (c8, xI Z 700 gw), (c9, xI Z 700 sv), (c10, xI Z 80001 gb), (c11, xI Z 6 mk)] H := hP
          have hD : va_D A [(mx, .inr (7, [.int (nI th), .ref c0, .int (nI nl), .ref c1, .ref c2, .ref c3, .ref c4, .int (nI now), .ref c5, .ref c6, .ref c7, .int (nI pq), .int (nI pu), .int (nI pf), .int (nI pg), .int (nI bg), .int (nI ln), .ref c8, .int (nI sl), .ref c9, .int (nI fb), .int (nI mn), .ref c10, .int (nI tn), .int (nI md), .ref c11, .int (nI (((L.getD 0 0) - 1) / 20)), .int (nI 0), .int (nI tr)])), (c0, xI Z 4 v), (c1, xI Z 24 op), (c2, xI Z 24 wk), (c3, xI Z 24 on), (c4, xI Z 24 iz), (c5, xJ Z 6 wr), (c6, xI Z 6 wy), (c7, xI Z 6 gs), (c8, xI Z 700 gw), (c9, xI Z 700 sv), (c10, xI Z 80001 gb), (c11, xI Z 6 mk)] := hD
          refine lv_aload_n hx hb dX7_tells_60 rfl (lv_at hl 0 rfl) ?_
          refine ln_const 0 hx hb dX7_tells_61 (by decide) ?_
          refine va_put (D := Z.1) (ci := 7) (v := .int (nI 0)) (ty := tyX7 28) (C := RX7) (T := TX7) (N := 29) hx hb hts iX7 tyX7 tyX7_ok nmX7 hown hK hP hD hS 0 rfl rfl 28 (Nat.le_of_ble_eq_true rfl) qq_702 (fun _ h9 => h9) rfl (tyX7_ok 28 (Nat.le_of_ble_eq_true rfl)) rfl rfl (Nat.le_of_ble_eq_true rfl) dX7_tells_62 (fun H locs hP hD hS => ?_)
          have hP : va_P Z.1 vwCl [(mx, .inr (7, [.int (nI th), .ref c0, .int (nI nl), .ref c1, .ref c2, .ref c3, .ref c4, .int (nI now), .ref c5, .ref c6, .ref c7, .int (nI pq), .int (nI pu), .int (nI pf), .int (nI pg), .int (nI bg), .int (nI ln), .ref c8, .int (nI sl), .ref c9, .int (nI fb), .int (nI mn), .ref c10, .int (nI tn), .int (nI md), .ref c11, .int (nI (((L.getD 0 0) - 1) / 20)), .int (nI 0), .int (nI 0)])), (c0, xI Z 4 v), (c1, xI Z 24 op), (c2, xI Z 24 wk), (c3, xI Z 24 on), (c4, xI Z 24 iz), (c5, xJ Z 6 wr), (c6, xI Z 6 wy), (c7, xI Z 6 gs), (c8, xI Z 700 gw), (c9, xI Z 700 sv), (c10, xI Z 80001 gb), (c11, xI Z 6 mk)] H := hP
          have hD : va_D A [(mx, .inr (7, [.int (nI th), .ref c0, .int (nI nl), .ref c1, .ref c2, .ref c3, .ref c4, .int (nI now), .ref c5, .ref c6, .ref c7, .int (nI pq), .int (nI pu), .int (nI pf), .int (nI pg), .int (nI bg), .int (nI ln), .ref c8, .int (nI sl), .ref c9, .int (nI fb), .int (nI mn), .ref c10, .int (nI tn), .int (nI md), .ref c11, .int (nI (((L.getD 0 0) - 1) / 20)), .int (nI 0), .int (nI 0)])), (c0, xI Z 4 v), (c1, xI Z 24 op), (c2, xI Z 24 wk), (c3, xI Z 24 on), (c4, xI Z 24 iz), (c5, xJ Z 6 wr), (c6, xI Z 6 wy), (c7, xI Z 6 gs), (c8, xI Z 700 gw), (c9, xI Z 700 sv), (c10, xI Z 80001 gb), (c11, xI Z 6 mk)] := hD
          refine ln_const 0 hx hb dX7_tells_65 (by decide) ?_
          refine lv_istore_n (lv' := [(1, .int (nI 0)), (0, .ref mx)]) hx hb dX7_tells_66 rfl hl (by decide) rfl (fun ls hl => ?_)
          refine ln_const 0 hx hb dX7_tells_67 (by decide) ?_
          refine lv_istore_n (lv' := [(2, .int (nI 0)), (1, .int (nI 0)), (0, .ref mx)]) hx hb dX7_tells_68 rfl hl (by decide) rfl (fun ls hl => ?_)
          have hloop69 : ∀ (nn : Nat) (j ir tl1 tr1 : Nat) (H : Heap) (locs : List Loc) (ls : Array Slot) (hj : 2 * j ≤ L.length) (hTI : TI L ((L.getD 0 0 - 1) / 20) j ir tl1 tr1) (hmu : L.length - 2 * j < nn) (hP : va_P Z.1 vwCl [(mx, .inr (7, [.int (nI th), .ref c0, .int (nI nl), .ref c1, .ref c2, .ref c3, .ref c4, .int (nI now), .ref c5, .ref c6, .ref c7, .int (nI pq), .int (nI pu), .int (nI pf), .int (nI pg), .int (nI bg), .int (nI ln), .ref c8, .int (nI sl), .ref c9, .int (nI fb), .int (nI mn), .ref c10, .int (nI tn), .int (nI md), .ref c11, .int (nI ((L.getD 0 0 - 1) / 20)), .int (nI tl1), .int (nI tr1)])), (c0, xI Z 4 v), (c1, xI Z 24 op), (c2, xI Z 24 wk), (c3, xI Z 24 on), (c4, xI Z 24 iz), (c5, xJ Z 6 wr), (c6, xI Z 6 wy), (c7, xI Z 6 gs), (c8, xI Z 700 gw), (c9, xI Z 700 sv), (c10, xI Z 80001 gb), (c11, xI Z 6 mk)] H) (hD : va_D A [(mx, .inr (7, [.int (nI th), .ref c0, .int (nI nl), .ref c1, .ref c2, .ref c3, .ref c4, .int (nI now), .ref c5, .ref c6, .ref c7, .int (nI pq), .int (nI pu), .int (nI pf), .int (nI pg), .int (nI bg), .int (nI ln), .ref c8, .int (nI sl), .ref c9, .int (nI fb), .int (nI mn), .ref c10, .int (nI tn), .int (nI md), .ref c11, .int (nI ((L.getD 0 0 - 1) / 20)), .int (nI tl1), .int (nI tr1)])), (c0, xI Z 4 v), (c1, xI Z 24 op), (c2, xI Z 24 wk), (c3, xI Z 24 on), (c4, xI Z 24 iz), (c5, xJ Z 6 wr), (c6, xI Z 6 wy), (c7, xI Z 6 gs), (c8, xI Z 700 gw), (c9, xI Z 700 sv), (c10, xI Z 80001 gb), (c11, xI Z 6 mk)]) (hS : va_S A s.heap H locs) (hl : lv_has ls 4 [(0, .ref mx), (1, .int (nI ir)), (2, .int (nI (2 * j)))]), W p l e ({ frames := 1, cells := 0, slots := 0, locals := 21 } : Room) s m args below meth c H locs 0 0 (MQ below (va_Qi (fun r w9 => (∃ q f1 g1, q < 6 ∧ L = xlay q f1 g1 ∧ r = nI 1 ∧ w9 = [(mx, .inr (7, [.int (nI th), .ref c0, .int (nI nl), .ref c1, .ref c2, .ref c3, .ref c4, .int (nI now), .ref c5, .ref c6, .ref c7, .int (nI pq), .int (nI pu), .int (nI pf), .int (nI pg), .int (nI bg), .int (nI ln), .ref c8, .int (nI sl), .ref c9, .int (nI fb), .int (nI mn), .ref c10, .int (nI tn), .int (nI md), .ref c11, .int (nI q), .int (nI f1), .int (nI g1)])), (c0, xI Z 4 v), (c1, xI Z 24 op), (c2, xI Z 24 wk), (c3, xI Z 24 on), (c4, xI Z 24 iz), (c5, xJ Z 6 wr), (c6, xI Z 6 wy), (c7, xI Z 6 gs), (c8, xI Z 700 gw), (c9, xI Z 700 sv), (c10, xI Z 80001 gb), (c11, xI Z 6 mk)]) ∨ (¬ isPl L ∧ r = nI 0 ∧ ∃ tp2 tl2 tr2, w9 = [(mx, .inr (7, [.int (nI th), .ref c0, .int (nI nl), .ref c1, .ref c2, .ref c3, .ref c4, .int (nI now), .ref c5, .ref c6, .ref c7, .int (nI pq), .int (nI pu), .int (nI pf), .int (nI pg), .int (nI bg), .int (nI ln), .ref c8, .int (nI sl), .ref c9, .int (nI fb), .int (nI mn), .ref c10, .int (nI tn), .int (nI md), .ref c11, .int (nI tp2), .int (nI tl2), .int (nI tr2)])), (c0, xI Z 4 v), (c1, xI Z 24 op), (c2, xI Z 24 wk), (c3, xI Z 24 on), (c4, xI Z 24 iz), (c5, xJ Z 6 wr), (c6, xI Z 6 wy), (c7, xI Z 6 gs), (c8, xI Z 700 gw), (c9, xI Z 700 sv), (c10, xI Z 80001 gb), (c11, xI Z 6 mk)])) (xB Z A) A) args s ({ frames := 1, cells := 0, slots := 0, locals := 21 } : Room).cells ({ frames := 1, cells := 0, slots := 0, locals := 21 } : Room).slots A) (F0 m 69 ls []) := by
            intro nn
            induction nn with
            | zero => intro j ir tl1 tr1 H locs ls hj hTI hmu; exact absurd hmu (Nat.not_lt_zero _)
            | succ nn ih =>
              intro j ir tl1 tr1 H locs ls hj hTI hmu hP hD hS hl
              have hir := hTI.2.1
              have htlr : tl1 + tr1 ≤ j + 0 := by
                rcases (show ir = 0 ∨ ir = 1 by omega) with z | z
                · have := hTI.2.2.1 z; omega
                · have := hTI.2.2.2 z; omega
              refine lv_iload_n hx hb dX7_tells_69 rfl (lv_at hl 2 rfl) ?_
              refine lv_aload_n hx hb dX7_tells_70 rfl (lv_at hl 0 rfl) ?_
              refine va_get (D := Z.1) (ci := 7) (v := .int (nI ln)) (C := RX7) (T := TX7) (N := 29) hx hb hts iX7 hown hK hP 0 rfl rfl 16 (Nat.le_of_ble_eq_true rfl) qq_690 (fun _ h9 => h9) rfl dX7_tells_71 ?_
              refine ln_icmp_ge (tgt := 195) hx hb dX7_tells_74 (by decide) (by omega) (by omega) (fun h74 => ?_) (fun h74 => ?_)
              · rcases (show ir = 0 ∨ ir = 1 by omega) with rfl | rfl
                · refine lv_iload_n hx hb dX7_tells_195 rfl (lv_at hl 1 rfl) ?_
                  exact x_zret hC hr rfl hk hP hD hS dX7_tells_196 (Or.inr ⟨hTI.end0 (by omega) (by omega) hq0, rfl, _, tl1, tr1, rfl⟩)
                · refine lv_iload_n hx hb dX7_tells_195 rfl (lv_at hl 1 rfl) ?_
                  exact x_zret hC hr rfl hk hP hD hS dX7_tells_196 (Or.inl ⟨_, tl1, tr1, by omega, hTI.end1 (by omega), rfl, rfl⟩)
              · refine lv_aload_n hx hb dX7_tells_77 rfl (lv_at hl 0 rfl) ?_
                refine lv_iload_n hx hb dX7_tells_78 rfl (lv_at hl 2 rfl) ?_
                refine x_Vi (y := yX7_letterAt) (As := [.int (nI (2 * j))]) (wc := [(mx, .inr (7, [.int (nI th), .ref c0, .int (nI nl), .ref c1, .ref c2, .ref c3, .ref c4, .int (nI now), .ref c5, .ref c6, .ref c7, .int (nI pq), .int (nI pu), .int (nI pf), .int (nI pg), .int (nI bg), .int (nI ln), .ref c8, .int (nI sl), .ref c9, .int (nI fb), .int (nI mn), .ref c10, .int (nI tn), .int (nI md), .ref c11, .int (nI ((L.getD 0 0 - 1) / 20)), .int (nI tl1), .int (nI tr1)])), (c0, xI Z 4 v), (c1, xI Z 24 op), (c2, xI Z 24 wk), (c3, xI Z 24 on), (c4, xI Z 24 iz), (c5, xJ Z 6 wr), (c6, xI Z 6 wy), (c7, xI Z 6 gs), (c8, xI Z 700 gw), (c9, xI Z 700 sv), (c10, xI Z 80001 gb), (c11, xI Z 6 mk)]) (wr := []) hC hP hD hS (c_X7_letterAt l Z mx c0 c1 c2 c3 c4 c5 c6 c7 c8 c9 c10 c11 th nl now pq pu pf pg bg ln sl fb mn tn md ((L.getD 0 0 - 1) / 20) tl1 tr1 v op wk on iz wy gs gw sv gb mk wr L hRL (hln) (by omega) (2 * j) (by omega)) (gV wq_882 wq_879 wq_881 wq_23 wq_45) rfl kv_X7_letterAt rfl rfl ⟨rfl, rfl⟩ rfl hl.1 rfl ⟨Nat.le_of_ble_eq_true rfl, Nat.le_of_ble_eq_true rfl⟩ [0, 1, 2, 3, 4, 5, 6, 7, 8, 9, 10, 11, 12] ([] : List Nat) rfl rfl (by decide) (by decide) (by decide) rfl dX7_tells_79 (fun r79 w1 H locs hw hP hD hS => ?_)
                obtain ⟨rfl, rfl⟩ := hw
                have hP : va_P Z.1 vwCl [(mx, .inr (7, [.int (nI th), .ref c0, .int (nI nl), .ref c1, .ref c2, .ref c3, .ref c4, .int (nI now), .ref c5, .ref c6, .ref c7, .int (nI pq), .int (nI pu), .int (nI pf), .int (nI pg), .int (nI bg), .int (nI ln), .ref c8, .int (nI sl), .ref c9, .int (nI fb), .int (nI mn), .ref c10, .int (nI tn), .int (nI md), .ref c11, .int (nI ((L.getD 0 0 - 1) / 20)), .int (nI tl1), .int (nI tr1)])), (c0, xI Z 4 v), (c1, xI Z 24 op), (c2, xI Z 24 wk), (c3, xI Z 24 on), (c4, xI Z 24 iz), (c5, xJ Z 6 wr), (c6, xI Z 6 wy), (c7, xI Z 6 gs), (c8, xI Z 700 gw), (c9, xI Z 700 sv), (c10, xI Z 80001 gb), (c11, xI Z 6 mk)] H := hP
                have hD : va_D A [(mx, .inr (7, [.int (nI th), .ref c0, .int (nI nl), .ref c1, .ref c2, .ref c3, .ref c4, .int (nI now), .ref c5, .ref c6, .ref c7, .int (nI pq), .int (nI pu), .int (nI pf), .int (nI pg), .int (nI bg), .int (nI ln), .ref c8, .int (nI sl), .ref c9, .int (nI fb), .int (nI mn), .ref c10, .int (nI tn), .int (nI md), .ref c11, .int (nI ((L.getD 0 0 - 1) / 20)), .int (nI tl1), .int (nI tr1)])), (c0, xI Z 4 v), (c1, xI Z 24 op), (c2, xI Z 24 wk), (c3, xI Z 24 on), (c4, xI Z 24 iz), (c5, xJ Z 6 wr), (c6, xI Z 6 wy), (c7, xI Z 6 gs), (c8, xI Z 700 gw), (c9, xI Z 700 sv), (c10, xI Z 80001 gb), (c11, xI Z 6 mk)] := hD
                have hc2 := hW.at0 (i := 2 * j) (by omega)
                refine lv_istore_n (lv' := [(3, .int (nI (L.getD (2 * j) 0))), (0, .ref mx), (1, .int (nI ir)), (2, .int (nI (2 * j)))]) hx hb dX7_tells_82 rfl hl (by decide) rfl (fun ls hl => ?_)
                refine lv_aload_n hx hb dX7_tells_83 rfl (lv_at hl 1 rfl) ?_
                refine lv_iload_n hx hb dX7_tells_84 rfl (lv_at hl 3 rfl) ?_
                refine ln_const 1 hx hb dX7_tells_85 (by decide) ?_
                refine ln_iadd ((2 * j) + 1) hx hb dX7_tells_86 (by first | rfl | omega) ?_
                refine x_Vi (y := yX7_letterAt) (As := [.int (nI ((2 * j) + 1))]) (wc := [(mx, .inr (7, [.int (nI th), .ref c0, .int (nI nl), .ref c1, .ref c2, .ref c3, .ref c4, .int (nI now), .ref c5, .ref c6, .ref c7, .int (nI pq), .int (nI pu), .int (nI pf), .int (nI pg), .int (nI bg), .int (nI ln), .ref c8, .int (nI sl), .ref c9, .int (nI fb), .int (nI mn), .ref c10, .int (nI tn), .int (nI md), .ref c11, .int (nI ((L.getD 0 0 - 1) / 20)), .int (nI tl1), .int (nI tr1)])), (c0, xI Z 4 v), (c1, xI Z 24 op), (c2, xI Z 24 wk), (c3, xI Z 24 on), (c4, xI Z 24 iz), (c5, xJ Z 6 wr), (c6, xI Z 6 wy), (c7, xI Z 6 gs), (c8, xI Z 700 gw), (c9, xI Z 700 sv), (c10, xI Z 80001 gb), (c11, xI Z 6 mk)]) (wr := []) hC hP hD hS (c_X7_letterAt l Z mx c0 c1 c2 c3 c4 c5 c6 c7 c8 c9 c10 c11 th nl now pq pu pf pg bg ln sl fb mn tn md ((L.getD 0 0 - 1) / 20) tl1 tr1 v op wk on iz wy gs gw sv gb mk wr L hRL (hln) (by omega) ((2 * j) + 1) (by omega)) (gV wq_882 wq_879 wq_881 wq_23 wq_45) rfl kv_X7_letterAt rfl rfl ⟨rfl, rfl⟩ rfl hl.1 rfl ⟨Nat.le_of_ble_eq_true rfl, Nat.le_of_ble_eq_true rfl⟩ [0, 1, 2, 3, 4, 5, 6, 7, 8, 9, 10, 11, 12] ([] : List Nat) rfl rfl (by decide) (by decide) (by decide) rfl dX7_tells_87 (fun r87 w1 H locs hw hP hD hS => ?_)
                obtain ⟨rfl, rfl⟩ := hw
                have hP : va_P Z.1 vwCl [(mx, .inr (7, [.int (nI th), .ref c0, .int (nI nl), .ref c1, .ref c2, .ref c3, .ref c4, .int (nI now), .ref c5, .ref c6, .ref c7, .int (nI pq), .int (nI pu), .int (nI pf), .int (nI pg), .int (nI bg), .int (nI ln), .ref c8, .int (nI sl), .ref c9, .int (nI fb), .int (nI mn), .ref c10, .int (nI tn), .int (nI md), .ref c11, .int (nI ((L.getD 0 0 - 1) / 20)), .int (nI tl1), .int (nI tr1)])), (c0, xI Z 4 v), (c1, xI Z 24 op), (c2, xI Z 24 wk), (c3, xI Z 24 on), (c4, xI Z 24 iz), (c5, xJ Z 6 wr), (c6, xI Z 6 wy), (c7, xI Z 6 gs), (c8, xI Z 700 gw), (c9, xI Z 700 sv), (c10, xI Z 80001 gb), (c11, xI Z 6 mk)] H := hP
                have hD : va_D A [(mx, .inr (7, [.int (nI th), .ref c0, .int (nI nl), .ref c1, .ref c2, .ref c3, .ref c4, .int (nI now), .ref c5, .ref c6, .ref c7, .int (nI pq), .int (nI pu), .int (nI pf), .int (nI pg), .int (nI bg), .int (nI ln), .ref c8, .int (nI sl), .ref c9, .int (nI fb), .int (nI mn), .ref c10, .int (nI tn), .int (nI md), .ref c11, .int (nI ((L.getD 0 0 - 1) / 20)), .int (nI tl1), .int (nI tr1)])), (c0, xI Z 4 v), (c1, xI Z 24 op), (c2, xI Z 24 wk), (c3, xI Z 24 on), (c4, xI Z 24 iz), (c5, xJ Z 6 wr), (c6, xI Z 6 wy), (c7, xI Z 6 gs), (c8, xI Z 700 gw), (c9, xI Z 700 sv), (c10, xI Z 80001 gb), (c11, xI Z 6 mk)] := hD
                have hc3 := hW.at0 (i := 2 * j + 1) (by omega)
                refine ln_if_eq (tgt := 95) hx hb dX7_tells_90 (by decide) (by omega) (fun h90 => ?_) (fun h90 => ?_)
                · refine lv_iload_n hx hb dX7_tells_95 rfl (lv_at hl 3 rfl) ?_
                  refine ln_if_le (tgt := 120) hx hb dX7_tells_96 (by decide) (by omega) (fun h96 => ?_) (fun h96 => ?_)
                  · refine lv_iload_n hx hb dX7_tells_120 rfl (lv_at hl 3 rfl) ?_
                    refine ln_if_le (tgt := 183) hx hb dX7_tells_121 (by decide) (by omega) (fun h121 => ?_) (fun h121 => False.elim (by omega))
                    refine lv_iload_n hx hb dX7_tells_183 rfl (lv_at hl 3 rfl) ?_
                    refine ln_if_le (tgt := 189) hx hb dX7_tells_184 (by decide) (by omega) (fun h184 => ?_) (fun h184 => False.elim (by omega))
                    refine ln_iinc (k0 := 3) (k := 2) (2 * (j + 1)) (lv' := [(2, .int (nI (2 * (j + 1)))), (3, .int (nI (L.getD (2 * j) 0))), (0, .ref mx), (1, .int (nI ir))]) hx hb dX7_tells_189 hl rfl rfl (by first | rfl | omega) (by decide) rfl (fun ls hl => ?_)
                    refine lv_goto (tgt := 69) hx hb dX7_tells_192 (by decide) ?_
                    exact ih  (j + 1) ir tl1 tr1 _ _ _ (by omega) (by have ej : j = 0 := (by omega); subst ej; exact (TI.first hTI hq0 h90).1) (by omega) hP hD hS (lv_sub hl [2, 3, 0] rfl)
                  · refine lv_iload_n hx hb dX7_tells_99 rfl (lv_at hl 0 rfl) ?_
                    refine lv_aload_n hx hb dX7_tells_100 rfl (lv_at hl 1 rfl) ?_
                    refine va_get (D := Z.1) (ci := 7) (v := .int (nI ((L.getD 0 0 - 1) / 20))) (C := RX7) (T := TX7) (N := 29) hx hb hts iX7 hown hK hP 0 rfl rfl 26 (Nat.le_of_ble_eq_true rfl) qq_700 (fun _ h9 => h9) rfl dX7_tells_101 ?_
                    refine ln_const 4 hx hb dX7_tells_104 (by decide) ?_
                    refine x_Si (y := yX7_of) (As := [.int (nI ((L.getD 0 0 - 1) / 20)), .int (nI 4)]) (wc := []) (wr := [(mx, .inr (7, [.int (nI th), .ref c0, .int (nI nl), .ref c1, .ref c2, .ref c3, .ref c4, .int (nI now), .ref c5, .ref c6, .ref c7, .int (nI pq), .int (nI pu), .int (nI pf), .int (nI pg), .int (nI bg), .int (nI ln), .ref c8, .int (nI sl), .ref c9, .int (nI fb), .int (nI mn), .ref c10, .int (nI tn), .int (nI md), .ref c11, .int (nI ((L.getD 0 0 - 1) / 20)), .int (nI tl1), .int (nI tr1)])), (c0, xI Z 4 v), (c1, xI Z 24 op), (c2, xI Z 24 wk), (c3, xI Z 24 on), (c4, xI Z 24 iz), (c5, xJ Z 6 wr), (c6, xI Z 6 wy), (c7, xI Z 6 gs), (c8, xI Z 700 gw), (c9, xI Z 700 sv), (c10, xI Z 80001 gb), (c11, xI Z 6 mk)]) hC hP hD hS (c_X7_of l Z ((L.getD 0 0 - 1) / 20) 4) (gS wq_842 wq_840 wq_841 wq_45) rfl ks_X7_of ⟨rfl, rfl⟩ rfl hl.1 rfl ⟨Nat.le_of_ble_eq_true rfl, Nat.le_of_ble_eq_true rfl⟩ ([] : List Nat) [0, 1, 2, 3, 4, 5, 6, 7, 8, 9, 10, 11, 12] rfl rfl (by decide) (by decide) (by decide) rfl dX7_tells_105 (fun r105 w1 H locs hw hP hD hS => ?_)
                    obtain ⟨rfl, rfl⟩ := hw
                    have hP : va_P Z.1 vwCl [(mx, .inr (7, [.int (nI th), .ref c0, .int (nI nl), .ref c1, .ref c2, .ref c3, .ref c4, .int (nI now), .ref c5, .ref c6, .ref c7, .int (nI pq), .int (nI pu), .int (nI pf), .int (nI pg), .int (nI bg), .int (nI ln), .ref c8, .int (nI sl), .ref c9, .int (nI fb), .int (nI mn), .ref c10, .int (nI tn), .int (nI md), .ref c11, .int (nI ((L.getD 0 0 - 1) / 20)), .int (nI tl1), .int (nI tr1)])), (c0, xI Z 4 v), (c1, xI Z 24 op), (c2, xI Z 24 wk), (c3, xI Z 24 on), (c4, xI Z 24 iz), (c5, xJ Z 6 wr), (c6, xI Z 6 wy), (c7, xI Z 6 gs), (c8, xI Z 700 gw), (c9, xI Z 700 sv), (c10, xI Z 80001 gb), (c11, xI Z 6 mk)] H := hP
                    have hD : va_D A [(mx, .inr (7, [.int (nI th), .ref c0, .int (nI nl), .ref c1, .ref c2, .ref c3, .ref c4, .int (nI now), .ref c5, .ref c6, .ref c7, .int (nI pq), .int (nI pu), .int (nI pf), .int (nI pg), .int (nI bg), .int (nI ln), .ref c8, .int (nI sl), .ref c9, .int (nI fb), .int (nI mn), .ref c10, .int (nI tn), .int (nI md), .ref c11, .int (nI ((L.getD 0 0 - 1) / 20)), .int (nI tl1), .int (nI tr1)])), (c0, xI Z 4 v), (c1, xI Z 24 op), (c2, xI Z 24 wk), (c3, xI Z 24 on), (c4, xI Z 24 iz), (c5, xJ Z 6 wr), (c6, xI Z 6 wy), (c7, xI Z 6 gs), (c8, xI Z 700 gw), (c9, xI Z 700 sv), (c10, xI Z 80001 gb), (c11, xI Z 6 mk)] := hD
                    have hxo : xof ((L.getD 0 0 - 1) / 20) 4 < 1000 := by unfold xof; omega
                    refine ln_icmp_ne (tgt := 120) hx hb dX7_tells_108 (by decide) (by omega) (by omega) (fun h108 => ?_) (fun h108 => ?_)
                    · refine lv_iload_n hx hb dX7_tells_120 rfl (lv_at hl 3 rfl) ?_
                      refine ln_if_le (tgt := 183) hx hb dX7_tells_121 (by decide) (by omega) (fun h121 => False.elim (by omega)) (fun h121 => ?_)
                      refine lv_iload_n hx hb dX7_tells_124 rfl (lv_at hl 0 rfl) ?_
                      refine lv_aload_n hx hb dX7_tells_125 rfl (lv_at hl 1 rfl) ?_
                      refine va_get (D := Z.1) (ci := 7) (v := .int (nI ((L.getD 0 0 - 1) / 20))) (C := RX7) (T := TX7) (N := 29) hx hb hts iX7 hown hK hP 0 rfl rfl 26 (Nat.le_of_ble_eq_true rfl) qq_700 (fun _ h9 => h9) rfl dX7_tells_126 ?_
                      refine lv_iload_n hx hb dX7_tells_129 rfl (lv_at hl 2 rfl) ?_
                      refine ln_if_eq (tgt := 137) hx hb dX7_tells_130 (by decide) (by omega) (fun h130 => ?_) (fun h130 => ?_)
                      · refine ln_const 1 hx hb dX7_tells_137 (by decide) ?_
                        refine x_Si (y := yX7_of) (As := [.int (nI ((L.getD 0 0 - 1) / 20)), .int (nI 1)]) (wc := []) (wr := [(mx, .inr (7, [.int (nI th), .ref c0, .int (nI nl), .ref c1, .ref c2, .ref c3, .ref c4, .int (nI now), .ref c5, .ref c6, .ref c7, .int (nI pq), .int (nI pu), .int (nI pf), .int (nI pg), .int (nI bg), .int (nI ln), .ref c8, .int (nI sl), .ref c9, .int (nI fb), .int (nI mn), .ref c10, .int (nI tn), .int (nI md), .ref c11, .int (nI ((L.getD 0 0 - 1) / 20)), .int (nI tl1), .int (nI tr1)])), (c0, xI Z 4 v), (c1, xI Z 24 op), (c2, xI Z 24 wk), (c3, xI Z 24 on), (c4, xI Z 24 iz), (c5, xJ Z 6 wr), (c6, xI Z 6 wy), (c7, xI Z 6 gs), (c8, xI Z 700 gw), (c9, xI Z 700 sv), (c10, xI Z 80001 gb), (c11, xI Z 6 mk)]) hC hP hD hS (c_X7_of l Z ((L.getD 0 0 - 1) / 20) 1) (gS wq_842 wq_840 wq_841 wq_45) rfl ks_X7_of ⟨rfl, rfl⟩ rfl hl.1 rfl ⟨Nat.le_of_ble_eq_true rfl, Nat.le_of_ble_eq_true rfl⟩ ([] : List Nat) [0, 1, 2, 3, 4, 5, 6, 7, 8, 9, 10, 11, 12] rfl rfl (by decide) (by decide) (by decide) rfl dX7_tells_138 (fun r138 w1 H locs hw hP hD hS => ?_)
                        obtain ⟨rfl, rfl⟩ := hw
                        have hP : va_P Z.1 vwCl [(mx, .inr (7, [.int (nI th), .ref c0, .int (nI nl), .ref c1, .ref c2, .ref c3, .ref c4, .int (nI now), .ref c5, .ref c6, .ref c7, .int (nI pq), .int (nI pu), .int (nI pf), .int (nI pg), .int (nI bg), .int (nI ln), .ref c8, .int (nI sl), .ref c9, .int (nI fb), .int (nI mn), .ref c10, .int (nI tn), .int (nI md), .ref c11, .int (nI ((L.getD 0 0 - 1) / 20)), .int (nI tl1), .int (nI tr1)])), (c0, xI Z 4 v), (c1, xI Z 24 op), (c2, xI Z 24 wk), (c3, xI Z 24 on), (c4, xI Z 24 iz), (c5, xJ Z 6 wr), (c6, xI Z 6 wy), (c7, xI Z 6 gs), (c8, xI Z 700 gw), (c9, xI Z 700 sv), (c10, xI Z 80001 gb), (c11, xI Z 6 mk)] H := hP
                        have hD : va_D A [(mx, .inr (7, [.int (nI th), .ref c0, .int (nI nl), .ref c1, .ref c2, .ref c3, .ref c4, .int (nI now), .ref c5, .ref c6, .ref c7, .int (nI pq), .int (nI pu), .int (nI pf), .int (nI pg), .int (nI bg), .int (nI ln), .ref c8, .int (nI sl), .ref c9, .int (nI fb), .int (nI mn), .ref c10, .int (nI tn), .int (nI md), .ref c11, .int (nI ((L.getD 0 0 - 1) / 20)), .int (nI tl1), .int (nI tr1)])), (c0, xI Z 4 v), (c1, xI Z 24 op), (c2, xI Z 24 wk), (c3, xI Z 24 on), (c4, xI Z 24 iz), (c5, xJ Z 6 wr), (c6, xI Z 6 wy), (c7, xI Z 6 gs), (c8, xI Z 700 gw), (c9, xI Z 700 sv), (c10, xI Z 80001 gb), (c11, xI Z 6 mk)] := hD
                        have hxo5 : xof ((L.getD 0 0 - 1) / 20) 5 < 1000 := by unfold xof; omega
                        have hxo1 : xof ((L.getD 0 0 - 1) / 20) 1 < 1000 := by unfold xof; omega
                        refine ln_icmp_ne (tgt := 183) hx hb dX7_tells_141 (by decide) (by omega) (by omega) (fun h141 => ?_) (fun h141 => ?_)
                        · refine lv_iload_n hx hb dX7_tells_183 rfl (lv_at hl 3 rfl) ?_
                          refine ln_if_le (tgt := 189) hx hb dX7_tells_184 (by decide) (by omega) (fun h184 => False.elim (by omega)) (fun h184 => ?_)
                          refine ln_const 0 hx hb dX7_tells_187 (by decide) ?_
                          exact x_zret hC hr rfl hk hP hD hS dX7_tells_188 (Or.inr ⟨hTI.bad (by omega) (by omega) hq0 (fun q => ⟨h108, h141⟩) (fun q => by omega), rfl, _, tl1, tr1, rfl⟩)
                        · refine lv_aload_n hx hb dX7_tells_144 rfl (lv_at hl 1 rfl) ?_
                          refine lv_dup hx hb dX7_tells_145 rfl ?_
                          refine va_get (D := Z.1) (ci := 7) (v := .int (nI tl1)) (C := RX7) (T := TX7) (N := 29) hx hb hts iX7 hown hK hP 0 rfl rfl 27 (Nat.le_of_ble_eq_true rfl) qq_701 (fun _ h9 => h9) rfl dX7_tells_146 ?_
                          refine lv_iload_n hx hb dX7_tells_149 rfl (lv_at hl 2 rfl) ?_
                          refine ln_if_eq (tgt := 157) hx hb dX7_tells_150 (by decide) (by omega) (fun h150 => ?_) (fun h150 => False.elim (by omega))
                          refine ln_const 1 hx hb dX7_tells_157 (by decide) ?_
                          refine ln_iadd (tl1 + 1) hx hb dX7_tells_158 (by first | rfl | omega) ?_
                          refine va_put (D := Z.1) (ci := 7) (v := .int (nI (tl1 + 1))) (ty := tyX7 27) (C := RX7) (T := TX7) (N := 29) hx hb hts iX7 tyX7 tyX7_ok nmX7 hown hK hP hD hS 0 rfl rfl 27 (Nat.le_of_ble_eq_true rfl) qq_701 (fun _ h9 => h9) rfl (tyX7_ok 27 (Nat.le_of_ble_eq_true rfl)) rfl rfl (Nat.le_of_ble_eq_true rfl) dX7_tells_159 (fun H locs hP hD hS => ?_)
                          have hP : va_P Z.1 vwCl [(mx, .inr (7, [.int (nI th), .ref c0, .int (nI nl), .ref c1, .ref c2, .ref c3, .ref c4, .int (nI now), .ref c5, .ref c6, .ref c7, .int (nI pq), .int (nI pu), .int (nI pf), .int (nI pg), .int (nI bg), .int (nI ln), .ref c8, .int (nI sl), .ref c9, .int (nI fb), .int (nI mn), .ref c10, .int (nI tn), .int (nI md), .ref c11, .int (nI ((L.getD 0 0 - 1) / 20)), .int (nI (tl1 + 1)), .int (nI tr1)])), (c0, xI Z 4 v), (c1, xI Z 24 op), (c2, xI Z 24 wk), (c3, xI Z 24 on), (c4, xI Z 24 iz), (c5, xJ Z 6 wr), (c6, xI Z 6 wy), (c7, xI Z 6 gs), (c8, xI Z 700 gw), (c9, xI Z 700 sv), (c10, xI Z 80001 gb), (c11, xI Z 6 mk)] H := hP
                          have hD : va_D A [(mx, .inr (7, [.int (nI th), .ref c0, .int (nI nl), .ref c1, .ref c2, .ref c3, .ref c4, .int (nI now), .ref c5, .ref c6, .ref c7, .int (nI pq), .int (nI pu), .int (nI pf), .int (nI pg), .int (nI bg), .int (nI ln), .ref c8, .int (nI sl), .ref c9, .int (nI fb), .int (nI mn), .ref c10, .int (nI tn), .int (nI md), .ref c11, .int (nI ((L.getD 0 0 - 1) / 20)), .int (nI (tl1 + 1)), .int (nI tr1)])), (c0, xI Z 4 v), (c1, xI Z 24 op), (c2, xI Z 24 wk), (c3, xI Z 24 on), (c4, xI Z 24 iz), (c5, xJ Z 6 wr), (c6, xI Z 6 wy), (c7, xI Z 6 gs), (c8, xI Z 700 gw), (c9, xI Z 700 sv), (c10, xI Z 80001 gb), (c11, xI Z 6 mk)] := hD
                          refine lv_aload_n hx hb dX7_tells_162 rfl (lv_at hl 1 rfl) ?_
                          refine lv_dup hx hb dX7_tells_163 rfl ?_
                          refine va_get (D := Z.1) (ci := 7) (v := .int (nI tr1)) (C := RX7) (T := TX7) (N := 29) hx hb hts iX7 hown hK hP 0 rfl rfl 28 (Nat.le_of_ble_eq_true rfl) qq_702 (fun _ h9 => h9) rfl dX7_tells_164 ?_
                          refine lv_iload_n hx hb dX7_tells_167 rfl (lv_at hl 2 rfl) ?_
                          refine ln_if_eq (tgt := 175) hx hb dX7_tells_168 (by decide) (by omega) (fun h168 => ?_) (fun h168 => False.elim (by omega))
                          refine ln_const 0 hx hb dX7_tells_175 (by decide) ?_
                          refine ln_iadd (tr1 + 0) hx hb dX7_tells_176 (by first | rfl | omega) ?_
                          refine va_put (D := Z.1) (ci := 7) (v := .int (nI (tr1 + 0))) (ty := tyX7 28) (C := RX7) (T := TX7) (N := 29) hx hb hts iX7 tyX7 tyX7_ok nmX7 hown hK hP hD hS 0 rfl rfl 28 (Nat.le_of_ble_eq_true rfl) qq_702 (fun _ h9 => h9) rfl (tyX7_ok 28 (Nat.le_of_ble_eq_true rfl)) rfl rfl (Nat.le_of_ble_eq_true rfl) dX7_tells_177 (fun H locs hP hD hS => ?_)
                          have hP : va_P Z.1 vwCl [(mx, .inr (7, [.int (nI th), .ref c0, .int (nI nl), .ref c1, .ref c2, .ref c3, .ref c4, .int (nI now), .ref c5, .ref c6, .ref c7, .int (nI pq), .int (nI pu), .int (nI pf), .int (nI pg), .int (nI bg), .int (nI ln), .ref c8, .int (nI sl), .ref c9, .int (nI fb), .int (nI mn), .ref c10, .int (nI tn), .int (nI md), .ref c11, .int (nI ((L.getD 0 0 - 1) / 20)), .int (nI (tl1 + 1)), .int (nI (tr1 + 0))])), (c0, xI Z 4 v), (c1, xI Z 24 op), (c2, xI Z 24 wk), (c3, xI Z 24 on), (c4, xI Z 24 iz), (c5, xJ Z 6 wr), (c6, xI Z 6 wy), (c7, xI Z 6 gs), (c8, xI Z 700 gw), (c9, xI Z 700 sv), (c10, xI Z 80001 gb), (c11, xI Z 6 mk)] H := hP
                          have hD : va_D A [(mx, .inr (7, [.int (nI th), .ref c0, .int (nI nl), .ref c1, .ref c2, .ref c3, .ref c4, .int (nI now), .ref c5, .ref c6, .ref c7, .int (nI pq), .int (nI pu), .int (nI pf), .int (nI pg), .int (nI bg), .int (nI ln), .ref c8, .int (nI sl), .ref c9, .int (nI fb), .int (nI mn), .ref c10, .int (nI tn), .int (nI md), .ref c11, .int (nI ((L.getD 0 0 - 1) / 20)), .int (nI (tl1 + 1)), .int (nI (tr1 + 0))])), (c0, xI Z 4 v), (c1, xI Z 24 op), (c2, xI Z 24 wk), (c3, xI Z 24 on), (c4, xI Z 24 iz), (c5, xJ Z 6 wr), (c6, xI Z 6 wy), (c7, xI Z 6 gs), (c8, xI Z 700 gw), (c9, xI Z 700 sv), (c10, xI Z 80001 gb), (c11, xI Z 6 mk)] := hD
                          refine lv_goto (tgt := 189) hx hb dX7_tells_180 (by decide) ?_
                          refine ln_iinc (k0 := 3) (k := 2) (2 * (j + 1)) (lv' := [(2, .int (nI (2 * (j + 1)))), (3, .int (nI (L.getD (2 * j) 0))), (0, .ref mx), (1, .int (nI ir))]) hx hb dX7_tells_189 hl rfl rfl (by first | rfl | omega) (by decide) rfl (fun ls hl => ?_)
                          refine lv_goto (tgt := 69) hx hb dX7_tells_192 (by decide) ?_
                          exact ih  (j + 1) ir (tl1 + 1) (tr1 + 0) _ _ _ (by omega) (by rw [h130] at hTI ⊢; exact hTI.left (by omega) h141 h90) (by omega) hP hD hS (lv_sub hl [2, 3, 0] rfl)
                      · refine ln_const 5 hx hb dX7_tells_133 (by decide) ?_
                        refine lv_goto (tgt := 138) hx hb dX7_tells_134 (by decide) ?_
                        refine x_Si (y := yX7_of) (As := [.int (nI ((L.getD 0 0 - 1) / 20)), .int (nI 5)]) (wc := []) (wr := [(mx, .inr (7, [.int (nI th), .ref c0, .int (nI nl), .ref c1, .ref c2, .ref c3, .ref c4, .int (nI now), .ref c5, .ref c6, .ref c7, .int (nI pq), .int (nI pu), .int (nI pf), .int (nI pg), .int (nI bg), .int (nI ln), .ref c8, .int (nI sl), .ref c9, .int (nI fb), .int (nI mn), .ref c10, .int (nI tn), .int (nI md), .ref c11, .int (nI ((L.getD 0 0 - 1) / 20)), .int (nI tl1), .int (nI tr1)])), (c0, xI Z 4 v), (c1, xI Z 24 op), (c2, xI Z 24 wk), (c3, xI Z 24 on), (c4, xI Z 24 iz), (c5, xJ Z 6 wr), (c6, xI Z 6 wy), (c7, xI Z 6 gs), (c8, xI Z 700 gw), (c9, xI Z 700 sv), (c10, xI Z 80001 gb), (c11, xI Z 6 mk)]) hC hP hD hS (c_X7_of l Z ((L.getD 0 0 - 1) / 20) 5) (gS wq_842 wq_840 wq_841 wq_45) rfl ks_X7_of ⟨rfl, rfl⟩ rfl hl.1 rfl ⟨Nat.le_of_ble_eq_true rfl, Nat.le_of_ble_eq_true rfl⟩ ([] : List Nat) [0, 1, 2, 3, 4, 5, 6, 7, 8, 9, 10, 11, 12] rfl rfl (by decide) (by decide) (by decide) rfl dX7_tells_138 (fun r138 w1 H locs hw hP hD hS => ?_)
                        obtain ⟨rfl, rfl⟩ := hw
                        have hP : va_P Z.1 vwCl [(mx, .inr (7, [.int (nI th), .ref c0, .int (nI nl), .ref c1, .ref c2, .ref c3, .ref c4, .int (nI now), .ref c5, .ref c6, .ref c7, .int (nI pq), .int (nI pu), .int (nI pf), .int (nI pg), .int (nI bg), .int (nI ln), .ref c8, .int (nI sl), .ref c9, .int (nI fb), .int (nI mn), .ref c10, .int (nI tn), .int (nI md), .ref c11, .int (nI ((L.getD 0 0 - 1) / 20)), .int (nI tl1), .int (nI tr1)])), (c0, xI Z 4 v), (c1, xI Z 24 op), (c2, xI Z 24 wk), (c3, xI Z 24 on), (c4, xI Z 24 iz), (c5, xJ Z 6 wr), (c6, xI Z 6 wy), (c7, xI Z 6 gs), (c8, xI Z 700 gw), (c9, xI Z 700 sv), (c10, xI Z 80001 gb), (c11, xI Z 6 mk)] H := hP
                        have hD : va_D A [(mx, .inr (7, [.int (nI th), .ref c0, .int (nI nl), .ref c1, .ref c2, .ref c3, .ref c4, .int (nI now), .ref c5, .ref c6, .ref c7, .int (nI pq), .int (nI pu), .int (nI pf), .int (nI pg), .int (nI bg), .int (nI ln), .ref c8, .int (nI sl), .ref c9, .int (nI fb), .int (nI mn), .ref c10, .int (nI tn), .int (nI md), .ref c11, .int (nI ((L.getD 0 0 - 1) / 20)), .int (nI tl1), .int (nI tr1)])), (c0, xI Z 4 v), (c1, xI Z 24 op), (c2, xI Z 24 wk), (c3, xI Z 24 on), (c4, xI Z 24 iz), (c5, xJ Z 6 wr), (c6, xI Z 6 wy), (c7, xI Z 6 gs), (c8, xI Z 700 gw), (c9, xI Z 700 sv), (c10, xI Z 80001 gb), (c11, xI Z 6 mk)] := hD
                        have hxo5 : xof ((L.getD 0 0 - 1) / 20) 5 < 1000 := by unfold xof; omega
                        have hxo1 : xof ((L.getD 0 0 - 1) / 20) 1 < 1000 := by unfold xof; omega
                        refine ln_icmp_ne (tgt := 183) hx hb dX7_tells_141 (by decide) (by omega) (by omega) (fun h141 => ?_) (fun h141 => ?_)
                        · refine lv_iload_n hx hb dX7_tells_183 rfl (lv_at hl 3 rfl) ?_
                          refine ln_if_le (tgt := 189) hx hb dX7_tells_184 (by decide) (by omega) (fun h184 => False.elim (by omega)) (fun h184 => ?_)
                          refine ln_const 0 hx hb dX7_tells_187 (by decide) ?_
                          exact x_zret hC hr rfl hk hP hD hS dX7_tells_188 (Or.inr ⟨hTI.bad (by omega) (by omega) hq0 (fun q => absurd q h130) (fun q => h141), rfl, _, tl1, tr1, rfl⟩)
                        · refine lv_aload_n hx hb dX7_tells_144 rfl (lv_at hl 1 rfl) ?_
                          refine lv_dup hx hb dX7_tells_145 rfl ?_
                          refine va_get (D := Z.1) (ci := 7) (v := .int (nI tl1)) (C := RX7) (T := TX7) (N := 29) hx hb hts iX7 hown hK hP 0 rfl rfl 27 (Nat.le_of_ble_eq_true rfl) qq_701 (fun _ h9 => h9) rfl dX7_tells_146 ?_
                          refine lv_iload_n hx hb dX7_tells_149 rfl (lv_at hl 2 rfl) ?_
                          refine ln_if_eq (tgt := 157) hx hb dX7_tells_150 (by decide) (by omega) (fun h150 => False.elim (by omega)) (fun h150 => ?_)
                          refine ln_const 0 hx hb dX7_tells_153 (by decide) ?_
                          refine lv_goto (tgt := 158) hx hb dX7_tells_154 (by decide) ?_
                          refine ln_iadd (tl1 + 0) hx hb dX7_tells_158 (by first | rfl | omega) ?_
                          refine va_put (D := Z.1) (ci := 7) (v := .int (nI (tl1 + 0))) (ty := tyX7 27) (C := RX7) (T := TX7) (N := 29) hx hb hts iX7 tyX7 tyX7_ok nmX7 hown hK hP hD hS 0 rfl rfl 27 (Nat.le_of_ble_eq_true rfl) qq_701 (fun _ h9 => h9) rfl (tyX7_ok 27 (Nat.le_of_ble_eq_true rfl)) rfl rfl (Nat.le_of_ble_eq_true rfl) dX7_tells_159 (fun H locs hP hD hS => ?_)
                          have hP : va_P Z.1 vwCl [(mx, .inr (7, [.int (nI th), .ref c0, .int (nI nl), .ref c1, .ref c2, .ref c3, .ref c4, .int (nI now), .ref c5, .ref c6, .ref c7, .int (nI pq), .int (nI pu), .int (nI pf), .int (nI pg), .int (nI bg), .int (nI ln), .ref c8, .int (nI sl), .ref c9, .int (nI fb), .int (nI mn), .ref c10, .int (nI tn), .int (nI md), .ref c11, .int (nI ((L.getD 0 0 - 1) / 20)), .int (nI (tl1 + 0)), .int (nI tr1)])), (c0, xI Z 4 v), (c1, xI Z 24 op), (c2, xI Z 24 wk), (c3, xI Z 24 on), (c4, xI Z 24 iz), (c5, xJ Z 6 wr), (c6, xI Z 6 wy), (c7, xI Z 6 gs), (c8, xI Z 700 gw), (c9, xI Z 700 sv), (c10, xI Z 80001 gb), (c11, xI Z 6 mk)] H := hP
                          have hD : va_D A [(mx, .inr (7, [.int (nI th), .ref c0, .int (nI nl), .ref c1, .ref c2, .ref c3, .ref c4, .int (nI now), .ref c5, .ref c6, .ref c7, .int (nI pq), .int (nI pu), .int (nI pf), .int (nI pg), .int (nI bg), .int (nI ln), .ref c8, .int (nI sl), .ref c9, .int (nI fb), .int (nI mn), .ref c10, .int (nI tn), .int (nI md), .ref c11, .int (nI ((L.getD 0 0 - 1) / 20)), .int (nI (tl1 + 0)), .int (nI tr1)])), (c0, xI Z 4 v), (c1, xI Z 24 op), (c2, xI Z 24 wk), (c3, xI Z 24 on), (c4, xI Z 24 iz), (c5, xJ Z 6 wr), (c6, xI Z 6 wy), (c7, xI Z 6 gs), (c8, xI Z 700 gw), (c9, xI Z 700 sv), (c10, xI Z 80001 gb), (c11, xI Z 6 mk)] := hD
                          refine lv_aload_n hx hb dX7_tells_162 rfl (lv_at hl 1 rfl) ?_
                          refine lv_dup hx hb dX7_tells_163 rfl ?_
                          refine va_get (D := Z.1) (ci := 7) (v := .int (nI tr1)) (C := RX7) (T := TX7) (N := 29) hx hb hts iX7 hown hK hP 0 rfl rfl 28 (Nat.le_of_ble_eq_true rfl) qq_702 (fun _ h9 => h9) rfl dX7_tells_164 ?_
                          refine lv_iload_n hx hb dX7_tells_167 rfl (lv_at hl 2 rfl) ?_
                          refine ln_if_eq (tgt := 175) hx hb dX7_tells_168 (by decide) (by omega) (fun h168 => False.elim (by omega)) (fun h168 => ?_)
                          refine ln_const 1 hx hb dX7_tells_171 (by decide) ?_
                          refine lv_goto (tgt := 176) hx hb dX7_tells_172 (by decide) ?_
                          refine ln_iadd (tr1 + 1) hx hb dX7_tells_176 (by first | rfl | omega) ?_
                          refine va_put (D := Z.1) (ci := 7) (v := .int (nI (tr1 + 1))) (ty := tyX7 28) (C := RX7) (T := TX7) (N := 29) hx hb hts iX7 tyX7 tyX7_ok nmX7 hown hK hP hD hS 0 rfl rfl 28 (Nat.le_of_ble_eq_true rfl) qq_702 (fun _ h9 => h9) rfl (tyX7_ok 28 (Nat.le_of_ble_eq_true rfl)) rfl rfl (Nat.le_of_ble_eq_true rfl) dX7_tells_177 (fun H locs hP hD hS => ?_)
                          have hP : va_P Z.1 vwCl [(mx, .inr (7, [.int (nI th), .ref c0, .int (nI nl), .ref c1, .ref c2, .ref c3, .ref c4, .int (nI now), .ref c5, .ref c6, .ref c7, .int (nI pq), .int (nI pu), .int (nI pf), .int (nI pg), .int (nI bg), .int (nI ln), .ref c8, .int (nI sl), .ref c9, .int (nI fb), .int (nI mn), .ref c10, .int (nI tn), .int (nI md), .ref c11, .int (nI ((L.getD 0 0 - 1) / 20)), .int (nI (tl1 + 0)), .int (nI (tr1 + 1))])), (c0, xI Z 4 v), (c1, xI Z 24 op), (c2, xI Z 24 wk), (c3, xI Z 24 on), (c4, xI Z 24 iz), (c5, xJ Z 6 wr), (c6, xI Z 6 wy), (c7, xI Z 6 gs), (c8, xI Z 700 gw), (c9, xI Z 700 sv), (c10, xI Z 80001 gb), (c11, xI Z 6 mk)] H := hP
                          have hD : va_D A [(mx, .inr (7, [.int (nI th), .ref c0, .int (nI nl), .ref c1, .ref c2, .ref c3, .ref c4, .int (nI now), .ref c5, .ref c6, .ref c7, .int (nI pq), .int (nI pu), .int (nI pf), .int (nI pg), .int (nI bg), .int (nI ln), .ref c8, .int (nI sl), .ref c9, .int (nI fb), .int (nI mn), .ref c10, .int (nI tn), .int (nI md), .ref c11, .int (nI ((L.getD 0 0 - 1) / 20)), .int (nI (tl1 + 0)), .int (nI (tr1 + 1))])), (c0, xI Z 4 v), (c1, xI Z 24 op), (c2, xI Z 24 wk), (c3, xI Z 24 on), (c4, xI Z 24 iz), (c5, xJ Z 6 wr), (c6, xI Z 6 wy), (c7, xI Z 6 gs), (c8, xI Z 700 gw), (c9, xI Z 700 sv), (c10, xI Z 80001 gb), (c11, xI Z 6 mk)] := hD
                          refine lv_goto (tgt := 189) hx hb dX7_tells_180 (by decide) ?_
                          refine ln_iinc (k0 := 3) (k := 2) (2 * (j + 1)) (lv' := [(2, .int (nI (2 * (j + 1)))), (3, .int (nI (L.getD (2 * j) 0))), (0, .ref mx), (1, .int (nI ir))]) hx hb dX7_tells_189 hl rfl rfl (by first | rfl | omega) (by decide) rfl (fun ls hl => ?_)
                          refine lv_goto (tgt := 69) hx hb dX7_tells_192 (by decide) ?_
                          exact ih  (j + 1) ir (tl1 + 0) (tr1 + 1) _ _ _ (by omega) (by rw [show ir = 1 by omega] at hTI ⊢; exact hTI.right h141 h90) (by omega) hP hD hS (lv_sub hl [2, 3, 0] rfl)
                    · refine lv_iload_n hx hb dX7_tells_111 rfl (lv_at hl 2 rfl) ?_
                      refine ln_if_ne (tgt := 120) hx hb dX7_tells_112 (by decide) (by omega) (fun h112 => ?_) (fun h112 => ?_)
                      · refine lv_iload_n hx hb dX7_tells_120 rfl (lv_at hl 3 rfl) ?_
                        refine ln_if_le (tgt := 183) hx hb dX7_tells_121 (by decide) (by omega) (fun h121 => False.elim (by omega)) (fun h121 => ?_)
                        refine lv_iload_n hx hb dX7_tells_124 rfl (lv_at hl 0 rfl) ?_
                        refine lv_aload_n hx hb dX7_tells_125 rfl (lv_at hl 1 rfl) ?_
                        refine va_get (D := Z.1) (ci := 7) (v := .int (nI ((L.getD 0 0 - 1) / 20))) (C := RX7) (T := TX7) (N := 29) hx hb hts iX7 hown hK hP 0 rfl rfl 26 (Nat.le_of_ble_eq_true rfl) qq_700 (fun _ h9 => h9) rfl dX7_tells_126 ?_
                        refine lv_iload_n hx hb dX7_tells_129 rfl (lv_at hl 2 rfl) ?_
                        refine ln_if_eq (tgt := 137) hx hb dX7_tells_130 (by decide) (by omega) (fun h130 => False.elim (by omega)) (fun h130 => ?_)
                        refine ln_const 5 hx hb dX7_tells_133 (by decide) ?_
                        refine lv_goto (tgt := 138) hx hb dX7_tells_134 (by decide) ?_
                        refine x_Si (y := yX7_of) (As := [.int (nI ((L.getD 0 0 - 1) / 20)), .int (nI 5)]) (wc := []) (wr := [(mx, .inr (7, [.int (nI th), .ref c0, .int (nI nl), .ref c1, .ref c2, .ref c3, .ref c4, .int (nI now), .ref c5, .ref c6, .ref c7, .int (nI pq), .int (nI pu), .int (nI pf), .int (nI pg), .int (nI bg), .int (nI ln), .ref c8, .int (nI sl), .ref c9, .int (nI fb), .int (nI mn), .ref c10, .int (nI tn), .int (nI md), .ref c11, .int (nI ((L.getD 0 0 - 1) / 20)), .int (nI tl1), .int (nI tr1)])), (c0, xI Z 4 v), (c1, xI Z 24 op), (c2, xI Z 24 wk), (c3, xI Z 24 on), (c4, xI Z 24 iz), (c5, xJ Z 6 wr), (c6, xI Z 6 wy), (c7, xI Z 6 gs), (c8, xI Z 700 gw), (c9, xI Z 700 sv), (c10, xI Z 80001 gb), (c11, xI Z 6 mk)]) hC hP hD hS (c_X7_of l Z ((L.getD 0 0 - 1) / 20) 5) (gS wq_842 wq_840 wq_841 wq_45) rfl ks_X7_of ⟨rfl, rfl⟩ rfl hl.1 rfl ⟨Nat.le_of_ble_eq_true rfl, Nat.le_of_ble_eq_true rfl⟩ ([] : List Nat) [0, 1, 2, 3, 4, 5, 6, 7, 8, 9, 10, 11, 12] rfl rfl (by decide) (by decide) (by decide) rfl dX7_tells_138 (fun r138 w1 H locs hw hP hD hS => ?_)
                        obtain ⟨rfl, rfl⟩ := hw
                        have hP : va_P Z.1 vwCl [(mx, .inr (7, [.int (nI th), .ref c0, .int (nI nl), .ref c1, .ref c2, .ref c3, .ref c4, .int (nI now), .ref c5, .ref c6, .ref c7, .int (nI pq), .int (nI pu), .int (nI pf), .int (nI pg), .int (nI bg), .int (nI ln), .ref c8, .int (nI sl), .ref c9, .int (nI fb), .int (nI mn), .ref c10, .int (nI tn), .int (nI md), .ref c11, .int (nI ((L.getD 0 0 - 1) / 20)), .int (nI tl1), .int (nI tr1)])), (c0, xI Z 4 v), (c1, xI Z 24 op), (c2, xI Z 24 wk), (c3, xI Z 24 on), (c4, xI Z 24 iz), (c5, xJ Z 6 wr), (c6, xI Z 6 wy), (c7, xI Z 6 gs), (c8, xI Z 700 gw), (c9, xI Z 700 sv), (c10, xI Z 80001 gb), (c11, xI Z 6 mk)] H := hP
                        have hD : va_D A [(mx, .inr (7, [.int (nI th), .ref c0, .int (nI nl), .ref c1, .ref c2, .ref c3, .ref c4, .int (nI now), .ref c5, .ref c6, .ref c7, .int (nI pq), .int (nI pu), .int (nI pf), .int (nI pg), .int (nI bg), .int (nI ln), .ref c8, .int (nI sl), .ref c9, .int (nI fb), .int (nI mn), .ref c10, .int (nI tn), .int (nI md), .ref c11, .int (nI ((L.getD 0 0 - 1) / 20)), .int (nI tl1), .int (nI tr1)])), (c0, xI Z 4 v), (c1, xI Z 24 op), (c2, xI Z 24 wk), (c3, xI Z 24 on), (c4, xI Z 24 iz), (c5, xJ Z 6 wr), (c6, xI Z 6 wy), (c7, xI Z 6 gs), (c8, xI Z 700 gw), (c9, xI Z 700 sv), (c10, xI Z 80001 gb), (c11, xI Z 6 mk)] := hD
                        have hxo5 : xof ((L.getD 0 0 - 1) / 20) 5 < 1000 := by unfold xof; omega
                        have hxo1 : xof ((L.getD 0 0 - 1) / 20) 1 < 1000 := by unfold xof; omega
                        refine ln_icmp_ne (tgt := 183) hx hb dX7_tells_141 (by decide) (by omega) (by omega) (fun h141 => ?_) (fun h141 => ?_)
                        · refine lv_iload_n hx hb dX7_tells_183 rfl (lv_at hl 3 rfl) ?_
                          refine ln_if_le (tgt := 189) hx hb dX7_tells_184 (by decide) (by omega) (fun h184 => False.elim (by omega)) (fun h184 => ?_)
                          refine ln_const 0 hx hb dX7_tells_187 (by decide) ?_
                          exact x_zret hC hr rfl hk hP hD hS dX7_tells_188 (Or.inr ⟨hTI.bad (by omega) (by omega) hq0 (fun q => absurd q h130) (fun q => h141), rfl, _, tl1, tr1, rfl⟩)
                        · refine lv_aload_n hx hb dX7_tells_144 rfl (lv_at hl 1 rfl) ?_
                          refine lv_dup hx hb dX7_tells_145 rfl ?_
                          refine va_get (D := Z.1) (ci := 7) (v := .int (nI tl1)) (C := RX7) (T := TX7) (N := 29) hx hb hts iX7 hown hK hP 0 rfl rfl 27 (Nat.le_of_ble_eq_true rfl) qq_701 (fun _ h9 => h9) rfl dX7_tells_146 ?_
                          refine lv_iload_n hx hb dX7_tells_149 rfl (lv_at hl 2 rfl) ?_
                          refine ln_if_eq (tgt := 157) hx hb dX7_tells_150 (by decide) (by omega) (fun h150 => False.elim (by omega)) (fun h150 => ?_)
                          refine ln_const 0 hx hb dX7_tells_153 (by decide) ?_
                          refine lv_goto (tgt := 158) hx hb dX7_tells_154 (by decide) ?_
                          refine ln_iadd (tl1 + 0) hx hb dX7_tells_158 (by first | rfl | omega) ?_
                          refine va_put (D := Z.1) (ci := 7) (v := .int (nI (tl1 + 0))) (ty := tyX7 27) (C := RX7) (T := TX7) (N := 29) hx hb hts iX7 tyX7 tyX7_ok nmX7 hown hK hP hD hS 0 rfl rfl 27 (Nat.le_of_ble_eq_true rfl) qq_701 (fun _ h9 => h9) rfl (tyX7_ok 27 (Nat.le_of_ble_eq_true rfl)) rfl rfl (Nat.le_of_ble_eq_true rfl) dX7_tells_159 (fun H locs hP hD hS => ?_)
                          have hP : va_P Z.1 vwCl [(mx, .inr (7, [.int (nI th), .ref c0, .int (nI nl), .ref c1, .ref c2, .ref c3, .ref c4, .int (nI now), .ref c5, .ref c6, .ref c7, .int (nI pq), .int (nI pu), .int (nI pf), .int (nI pg), .int (nI bg), .int (nI ln), .ref c8, .int (nI sl), .ref c9, .int (nI fb), .int (nI mn), .ref c10, .int (nI tn), .int (nI md), .ref c11, .int (nI ((L.getD 0 0 - 1) / 20)), .int (nI (tl1 + 0)), .int (nI tr1)])), (c0, xI Z 4 v), (c1, xI Z 24 op), (c2, xI Z 24 wk), (c3, xI Z 24 on), (c4, xI Z 24 iz), (c5, xJ Z 6 wr), (c6, xI Z 6 wy), (c7, xI Z 6 gs), (c8, xI Z 700 gw), (c9, xI Z 700 sv), (c10, xI Z 80001 gb), (c11, xI Z 6 mk)] H := hP
                          have hD : va_D A [(mx, .inr (7, [.int (nI th), .ref c0, .int (nI nl), .ref c1, .ref c2, .ref c3, .ref c4, .int (nI now), .ref c5, .ref c6, .ref c7, .int (nI pq), .int (nI pu), .int (nI pf), .int (nI pg), .int (nI bg), .int (nI ln), .ref c8, .int (nI sl), .ref c9, .int (nI fb), .int (nI mn), .ref c10, .int (nI tn), .int (nI md), .ref c11, .int (nI ((L.getD 0 0 - 1) / 20)), .int (nI (tl1 + 0)), .int (nI tr1)])), (c0, xI Z 4 v), (c1, xI Z 24 op), (c2, xI Z 24 wk), (c3, xI Z 24 on), (c4, xI Z 24 iz), (c5, xJ Z 6 wr), (c6, xI Z 6 wy), (c7, xI Z 6 gs), (c8, xI Z 700 gw), (c9, xI Z 700 sv), (c10, xI Z 80001 gb), (c11, xI Z 6 mk)] := hD
                          refine lv_aload_n hx hb dX7_tells_162 rfl (lv_at hl 1 rfl) ?_
                          refine lv_dup hx hb dX7_tells_163 rfl ?_
                          refine va_get (D := Z.1) (ci := 7) (v := .int (nI tr1)) (C := RX7) (T := TX7) (N := 29) hx hb hts iX7 hown hK hP 0 rfl rfl 28 (Nat.le_of_ble_eq_true rfl) qq_702 (fun _ h9 => h9) rfl dX7_tells_164 ?_
                          refine lv_iload_n hx hb dX7_tells_167 rfl (lv_at hl 2 rfl) ?_
                          refine ln_if_eq (tgt := 175) hx hb dX7_tells_168 (by decide) (by omega) (fun h168 => False.elim (by omega)) (fun h168 => ?_)
                          refine ln_const 1 hx hb dX7_tells_171 (by decide) ?_
                          refine lv_goto (tgt := 176) hx hb dX7_tells_172 (by decide) ?_
                          refine ln_iadd (tr1 + 1) hx hb dX7_tells_176 (by first | rfl | omega) ?_
                          refine va_put (D := Z.1) (ci := 7) (v := .int (nI (tr1 + 1))) (ty := tyX7 28) (C := RX7) (T := TX7) (N := 29) hx hb hts iX7 tyX7 tyX7_ok nmX7 hown hK hP hD hS 0 rfl rfl 28 (Nat.le_of_ble_eq_true rfl) qq_702 (fun _ h9 => h9) rfl (tyX7_ok 28 (Nat.le_of_ble_eq_true rfl)) rfl rfl (Nat.le_of_ble_eq_true rfl) dX7_tells_177 (fun H locs hP hD hS => ?_)
                          have hP : va_P Z.1 vwCl [(mx, .inr (7, [.int (nI th), .ref c0, .int (nI nl), .ref c1, .ref c2, .ref c3, .ref c4, .int (nI now), .ref c5, .ref c6, .ref c7, .int (nI pq), .int (nI pu), .int (nI pf), .int (nI pg), .int (nI bg), .int (nI ln), .ref c8, .int (nI sl), .ref c9, .int (nI fb), .int (nI mn), .ref c10, .int (nI tn), .int (nI md), .ref c11, .int (nI ((L.getD 0 0 - 1) / 20)), .int (nI (tl1 + 0)), .int (nI (tr1 + 1))])), (c0, xI Z 4 v), (c1, xI Z 24 op), (c2, xI Z 24 wk), (c3, xI Z 24 on), (c4, xI Z 24 iz), (c5, xJ Z 6 wr), (c6, xI Z 6 wy), (c7, xI Z 6 gs), (c8, xI Z 700 gw), (c9, xI Z 700 sv), (c10, xI Z 80001 gb), (c11, xI Z 6 mk)] H := hP
                          have hD : va_D A [(mx, .inr (7, [.int (nI th), .ref c0, .int (nI nl), .ref c1, .ref c2, .ref c3, .ref c4, .int (nI now), .ref c5, .ref c6, .ref c7, .int (nI pq), .int (nI pu), .int (nI pf), .int (nI pg), .int (nI bg), .int (nI ln), .ref c8, .int (nI sl), .ref c9, .int (nI fb), .int (nI mn), .ref c10, .int (nI tn), .int (nI md), .ref c11, .int (nI ((L.getD 0 0 - 1) / 20)), .int (nI (tl1 + 0)), .int (nI (tr1 + 1))])), (c0, xI Z 4 v), (c1, xI Z 24 op), (c2, xI Z 24 wk), (c3, xI Z 24 on), (c4, xI Z 24 iz), (c5, xJ Z 6 wr), (c6, xI Z 6 wy), (c7, xI Z 6 gs), (c8, xI Z 700 gw), (c9, xI Z 700 sv), (c10, xI Z 80001 gb), (c11, xI Z 6 mk)] := hD
                          refine lv_goto (tgt := 189) hx hb dX7_tells_180 (by decide) ?_
                          refine ln_iinc (k0 := 3) (k := 2) (2 * (j + 1)) (lv' := [(2, .int (nI (2 * (j + 1)))), (3, .int (nI (L.getD (2 * j) 0))), (0, .ref mx), (1, .int (nI ir))]) hx hb dX7_tells_189 hl rfl rfl (by first | rfl | omega) (by decide) rfl (fun ls hl => ?_)
                          refine lv_goto (tgt := 69) hx hb dX7_tells_192 (by decide) ?_
                          exact ih  (j + 1) ir (tl1 + 0) (tr1 + 1) _ _ _ (by omega) (by rw [show ir = 1 by omega] at hTI ⊢; exact hTI.right h141 h90) (by omega) hP hD hS (lv_sub hl [2, 3, 0] rfl)
                      · refine ln_const 1 hx hb dX7_tells_115 (by decide) ?_
                        refine lv_istore_n (lv' := [(1, .int (nI 1)), (3, .int (nI (L.getD (2 * j) 0))), (0, .ref mx), (2, .int (nI (2 * j)))]) hx hb dX7_tells_116 rfl hl (by decide) rfl (fun ls hl => ?_)
                        refine lv_goto (tgt := 189) hx hb dX7_tells_117 (by decide) ?_
                        refine ln_iinc (k0 := 3) (k := 2) (2 * (j + 1)) (lv' := [(2, .int (nI (2 * (j + 1)))), (1, .int (nI 1)), (3, .int (nI (L.getD (2 * j) 0))), (0, .ref mx)]) hx hb dX7_tells_189 hl rfl rfl (by first | rfl | omega) (by decide) rfl (fun ls hl => ?_)
                        refine lv_goto (tgt := 69) hx hb dX7_tells_192 (by decide) ?_
                        exact ih  (j + 1) 1 tl1 tr1 _ _ _ (by omega) (TI.mid (by rw [h112] at hTI; exact hTI) (by omega) h108 h90) (by omega) hP hD hS (lv_sub hl [3, 1, 0] rfl)
                · refine ln_const 0 hx hb dX7_tells_93 (by decide) ?_
                  exact x_zret hC hr rfl hk hP hD hS dX7_tells_94 (Or.inr ⟨TI.odd (by omega) h90, rfl, _, tl1, tr1, rfl⟩)
          exact hloop69 ((L.length - 2 * 0) + 1) 0 0 0 0 _ _ _ (Nat.zero_le _) ⟨fun i hi => absurd hi (by omega), by omega, fun _ => ⟨rfl, Or.inl ⟨rfl, rfl⟩⟩, fun q => absurd q (by decide)⟩ (Nat.lt_succ_self _) hP hD hS (lv_sub hl [2, 1, 0] rfl)
        · refine ln_const 0 hx hb dX7_tells_39 (by decide) ?_
          exact x_zret hC hr rfl hk hP hD hS dX7_tells_40 (Or.inr ⟨npl_0 (Or.inr h36), rfl, tp, tl, tr, rfl⟩)
