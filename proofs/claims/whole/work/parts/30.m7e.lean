def bs (F : Nat → Nat) : Nat → Nat
  | 0 => 0
  | k + 1 => bs F k + F k
theorem bs_split (B : List Nat) (g : Nat) : ∀ k, bs (fun i => bitf B (i + g)) k + bs (fun i => bitf B i) g = bs (fun i => bitf B i) (g + k)
  | 0 => by simp only [bs, Nat.zero_add, Nat.add_zero]
  | k + 1 => by
    have ih := bs_split B g k
    rw [show g + (k + 1) = (g + k) + 1 by omega]
    simp only [bs]
    rw [← ih, Nat.add_comm g k]
    omega
theorem bs_at {B : List Nat} (h : ∀ z ∈ B, z < 121) : ∀ n, n ≤ 121 * B.length → bs (fun i => bitf B i) n = n / 121 + (if B.getD (n / 121) 0 < n % 121 then 1 else 0)
  | 0, _ => by simp only [bs, Nat.zero_div, Nat.zero_mod, Nat.not_lt_zero, if_false]
  | n + 1, hn => by
    have ih := bs_at h n (by omega)
    have hz := h _ (getD_mem (w := B) (i := n / 121) (by omega))
    simp only [bs]
    rw [ih]
    unfold bitf
    by_cases c : n % 121 = 120
    · rw [show (n + 1) / 121 = n / 121 + 1 by omega, show (n + 1) % 121 = 0 by omega, if_neg (Nat.not_lt_zero _)]
      by_cases c2 : B.getD (n / 121) 0 < n % 121
      · rw [if_pos c2, if_neg (by omega)]
      · rw [if_neg c2, if_pos (by omega)]
    · rw [show (n + 1) / 121 = n / 121 by omega, show (n + 1) % 121 = n % 121 + 1 by omega]
      by_cases c2 : B.getD (n / 121) 0 < n % 121
      · rw [if_pos c2, if_neg (by omega), if_pos (by omega)]
      · by_cases c3 : B.getD (n / 121) 0 = n % 121
        · rw [if_neg c2, if_pos c3, if_pos (by omega)]
        · rw [if_neg c2, if_neg c3, if_neg (by omega)]
theorem bs_bits {B : List Nat} {t : Nat} (h : BV (B, t)) : bs (BF (B, t)) (bmany (B, t)) = bones (B, t) := by
  obtain ⟨h1, h2, h3, h4, h5⟩ := h
  dsimp only at h1 h2 h4 h5
  have hmd := Nat.mod_lt t (show 0 < 121 by decide)
  have e1 := bs_split B (t % 121) (bmany (B, t))
  have hg : t % 121 ≤ 121 * B.length := by
    by_cases q : t = 0
    · subst q; exact Nat.zero_le _
    · have := h4 q; omega
  have e2 : t % 121 + bmany (B, t) = 121 * B.length := by unfold bmany; dsimp only; omega
  rw [e2, bs_at h2 _ (Nat.le_refl _), bs_at h2 _ hg, show 121 * B.length / 121 = B.length by omega, show 121 * B.length % 121 = 0 by omega, if_neg (Nat.not_lt_zero _), show t % 121 / 121 = 0 by omega, Nat.mod_mod] at e1
  show bs (fun i => bitf B (i + t % 121)) (bmany (B, t)) = _
  unfold bones
  dsimp only
  by_cases c : 0 < B.length ∧ B.getD 0 0 < t % 121
  · rw [if_pos c]
    rw [if_pos c.2] at e1
    omega
  · rw [if_neg c]
    by_cases c2 : B.getD 0 0 < t % 121
    · have hb0 : B.length = 0 := by omega
      have ht0 : t = 0 := by
        by_cases q : t = 0
        · exact q
        · have := h4 q; omega
      subst ht0
      omega
    · rw [if_neg c2] at e1
      omega
theorem bs_le {F : Nat → Nat} (h : ∀ i, F i ≤ 1) : ∀ k, bs F k ≤ k
  | 0 => Nat.le_refl 0
  | k + 1 => by
    have := bs_le h k
    have := h k
    simp only [bs]
    omega
theorem BF_le (s : List Nat × Nat) (i : Nat) : BF s i ≤ 1 := by
  unfold BF bitf
  split <;> omega

set_option maxHeartbeats 4000000 in
set_option maxRecDepth 100000 in
theorem c_X7_appendant (l : Launch) (Z : xZ) (mx : Nat) (S : xS) (hS0 : SV S) (wx : va_W) (hw0 : MW mx S wx Z) (x1 x2 : Int32) : xMi l Z yX7_appendant vX7_appendant ({ frames := 5, cells := 0, slots := 0, locals := 112 } : Room) [.ref mx, .int x1, .int x2] wx (XQ mx Z (f_appendant S x1 x2)) := by
  obtain ⟨⟨v, now⟩, ⟨nl, op, wk, on, iz⟩, R, ⟨pq, pu, pf, pg⟩, L, B, t⟩ := S
  obtain ⟨hCV, hRV, hPV, hWV, hBV⟩ := hS0
  obtain ⟨c0, c1, c2, c3, c4, c5, c6, c7, c8, c9, c10, c11, th, bg, sl, fb, md, tp, tl, tr, wy, gs, gw, sv, gb, mk, wr, hM7, hRL, hBQ, rfl⟩ := hw0
  have hRL1 := hRL.1
  obtain ⟨hc1, hc2, hc3, hc4⟩ := id hCV
  obtain ⟨hp1, hp2, hp3, hp4⟩ := id hPV
  obtain ⟨hw1, hw2⟩ := id hWV
  obtain ⟨hb1, hb2, hb3, hb4, hb5⟩ := id hBV
  have hbm : bmany (B, t) = 121 * B.length - t % 121 := rfl
  dsimp only at hRV hc1 hc2 hc3 hc4 hp1 hp2 hp3 hp4 hw1 hw2 hb1 hb2 hb3 hb4 hb5
  refine x_i (by decide) rfl (Nat.le_of_ble_eq_true rfl) ?_
  intro p e s m args below meth c ls A hC hr hk hl hP hD hS
  have hx := hC.1.1
  have hb := hC.1.2.1
  have hml := hC.1.2.2.1
  have hown : s.vm.findClass RX7 = some m.cls := hC.1.2.2.2.1
  have hts := hC.1.2.2.2.2
  have hK := hC.2.1
  have qq_674 := hts (Cond.fieldLink RX7 47 "TagTowerModel" "thrown" "I") (List.mem_cons_of_mem _ wq_674)
  have iX7 : ∀ w ∈ wsX70, w ∈ vX7_appendant := fun w h => List.mem_cons_of_mem _ (wi_X7 w h)
  have qq_912 := hts (Cond.constantLong RX7 162 (241)) (List.mem_cons_of_mem _ wq_912)
  have qq_698 := hts (Cond.fieldLink RX7 97 "TagTowerModel" "made" "I") (List.mem_cons_of_mem _ wq_698)
  have qq_699 := hts (Cond.fieldLink RX7 44 "TagTowerModel" "makes" "[I") (List.mem_cons_of_mem _ wq_699)
  have hl : lv_has ls 3 [(0, .ref mx), (1, .int x1), (2, .int x2)] := hl
  have hP : va_P Z.1 vwCl [(mx, .inr (7, [.int (nI th), .ref c0, .int (nI nl), .ref c1, .ref c2, .ref c3, .ref c4, .int (nI now), .ref c5, .ref c6, .ref c7, .int (nI pq), .int (nI pu), .int (nI pf), .int (nI pg), .int (nI bg), .int (nI L.length), .ref c8, .int (nI sl), .ref c9, .int (nI fb), .int (nI (bmany (B, t))), .ref c10, .int (nI t), .int (nI md), .ref c11, .int (nI tp), .int (nI tl), .int (nI tr)])), (c0, xI Z 4 v), (c1, xI Z 24 op), (c2, xI Z 24 wk), (c3, xI Z 24 on), (c4, xI Z 24 iz), (c5, xJ Z 6 wr), (c6, xI Z 6 wy), (c7, xI Z 6 gs), (c8, xI Z 700 gw), (c9, xI Z 700 sv), (c10, xI Z 80001 gb), (c11, xI Z 6 mk)] s.heap := hP
  have hD : va_D A [(mx, .inr (7, [.int (nI th), .ref c0, .int (nI nl), .ref c1, .ref c2, .ref c3, .ref c4, .int (nI now), .ref c5, .ref c6, .ref c7, .int (nI pq), .int (nI pu), .int (nI pf), .int (nI pg), .int (nI bg), .int (nI L.length), .ref c8, .int (nI sl), .ref c9, .int (nI fb), .int (nI (bmany (B, t))), .ref c10, .int (nI t), .int (nI md), .ref c11, .int (nI tp), .int (nI tl), .int (nI tr)])), (c0, xI Z 4 v), (c1, xI Z 24 op), (c2, xI Z 24 wk), (c3, xI Z 24 on), (c4, xI Z 24 iz), (c5, xJ Z 6 wr), (c6, xI Z 6 wy), (c7, xI Z 6 gs), (c8, xI Z 700 gw), (c9, xI Z 700 sv), (c10, xI Z 80001 gb), (c11, xI Z 6 mk)] := hD
  refine lv_aload_n hx hb dX7_appendant_0 rfl (lv_at hl 0 rfl) ?_
  refine ln_const 0 hx hb dX7_appendant_1 (by decide) ?_
  refine va_put (D := Z.1) (ci := 7) (v := .int (nI 0)) (ty := tyX7 0) (C := RX7) (T := TX7) (N := 29) hx hb hts iX7 tyX7 tyX7_ok nmX7 hown hK hP hD hS 0 rfl rfl 0 (Nat.le_of_ble_eq_true rfl) qq_674 (fun _ h9 => h9) rfl (tyX7_ok 0 (Nat.le_of_ble_eq_true rfl)) rfl rfl (Nat.le_of_ble_eq_true rfl) dX7_appendant_2 (fun H locs hP hD hS => ?_)
  have hP : va_P Z.1 vwCl [(mx, .inr (7, [.int (nI 0), .ref c0, .int (nI nl), .ref c1, .ref c2, .ref c3, .ref c4, .int (nI now), .ref c5, .ref c6, .ref c7, .int (nI pq), .int (nI pu), .int (nI pf), .int (nI pg), .int (nI bg), .int (nI L.length), .ref c8, .int (nI sl), .ref c9, .int (nI fb), .int (nI (bmany (B, t))), .ref c10, .int (nI t), .int (nI md), .ref c11, .int (nI tp), .int (nI tl), .int (nI tr)])), (c0, xI Z 4 v), (c1, xI Z 24 op), (c2, xI Z 24 wk), (c3, xI Z 24 on), (c4, xI Z 24 iz), (c5, xJ Z 6 wr), (c6, xI Z 6 wy), (c7, xI Z 6 gs), (c8, xI Z 700 gw), (c9, xI Z 700 sv), (c10, xI Z 80001 gb), (c11, xI Z 6 mk)] H := hP
  have hD : va_D A [(mx, .inr (7, [.int (nI 0), .ref c0, .int (nI nl), .ref c1, .ref c2, .ref c3, .ref c4, .int (nI now), .ref c5, .ref c6, .ref c7, .int (nI pq), .int (nI pu), .int (nI pf), .int (nI pg), .int (nI bg), .int (nI L.length), .ref c8, .int (nI sl), .ref c9, .int (nI fb), .int (nI (bmany (B, t))), .ref c10, .int (nI t), .int (nI md), .ref c11, .int (nI tp), .int (nI tl), .int (nI tr)])), (c0, xI Z 4 v), (c1, xI Z 24 op), (c2, xI Z 24 wk), (c3, xI Z 24 on), (c4, xI Z 24 iz), (c5, xJ Z 6 wr), (c6, xI Z 6 wy), (c7, xI Z 6 gs), (c8, xI Z 700 gw), (c9, xI Z 700 sv), (c10, xI Z 80001 gb), (c11, xI Z 6 mk)] := hD
  cases hq_x1 : inQ x1 0 241
  · refine lv_iload_n hx hb dX7_appendant_5 rfl (lv_at hl 1 rfl) ?_
    refine lv_i2l (v := (x1).toInt64) hx hb dX7_appendant_6 rfl ?_
    refine lv_lconst (v := lN 0) hx hb dX7_appendant_7 (by decide) ?_
    refine lv_ldc2 (v := lN 241) hx hb hown qq_912 dX7_appendant_8 ?_
    refine x_Si (y := yX7_in) (As := [.long ((x1).toInt64), .long (lN 0), .long (lN 241)]) (wc := []) (wr := [(mx, .inr (7, [.int (nI 0), .ref c0, .int (nI nl), .ref c1, .ref c2, .ref c3, .ref c4, .int (nI now), .ref c5, .ref c6, .ref c7, .int (nI pq), .int (nI pu), .int (nI pf), .int (nI pg), .int (nI bg), .int (nI L.length), .ref c8, .int (nI sl), .ref c9, .int (nI fb), .int (nI (bmany (B, t))), .ref c10, .int (nI t), .int (nI md), .ref c11, .int (nI tp), .int (nI tl), .int (nI tr)])), (c0, xI Z 4 v), (c1, xI Z 24 op), (c2, xI Z 24 wk), (c3, xI Z 24 on), (c4, xI Z 24 iz), (c5, xJ Z 6 wr), (c6, xI Z 6 wy), (c7, xI Z 6 gs), (c8, xI Z 700 gw), (c9, xI Z 700 sv), (c10, xI Z 80001 gb), (c11, xI Z 6 mk)]) hC hP hD hS (c_in_n l Z ((x1).toInt64) (lN 0) (lN 241) (in_n hq_x1 (by decide) (by decide))) (gS wq_769 wq_767 wq_768 wq_45) rfl ks_X7_in ⟨rfl, rfl⟩ rfl hl.1 rfl ⟨Nat.le_of_ble_eq_true rfl, Nat.le_of_ble_eq_true rfl⟩ ([] : List Nat) [0, 1, 2, 3, 4, 5, 6, 7, 8, 9, 10, 11, 12] rfl rfl (by decide) (by decide) (by decide) rfl dX7_appendant_11 (fun r11 w1 H locs hw hP hD hS => ?_)
    obtain ⟨rfl, rfl⟩ := hw
    have hP : va_P Z.1 vwCl [(mx, .inr (7, [.int (nI 0), .ref c0, .int (nI nl), .ref c1, .ref c2, .ref c3, .ref c4, .int (nI now), .ref c5, .ref c6, .ref c7, .int (nI pq), .int (nI pu), .int (nI pf), .int (nI pg), .int (nI bg), .int (nI L.length), .ref c8, .int (nI sl), .ref c9, .int (nI fb), .int (nI (bmany (B, t))), .ref c10, .int (nI t), .int (nI md), .ref c11, .int (nI tp), .int (nI tl), .int (nI tr)])), (c0, xI Z 4 v), (c1, xI Z 24 op), (c2, xI Z 24 wk), (c3, xI Z 24 on), (c4, xI Z 24 iz), (c5, xJ Z 6 wr), (c6, xI Z 6 wy), (c7, xI Z 6 gs), (c8, xI Z 700 gw), (c9, xI Z 700 sv), (c10, xI Z 80001 gb), (c11, xI Z 6 mk)] H := hP
    have hD : va_D A [(mx, .inr (7, [.int (nI 0), .ref c0, .int (nI nl), .ref c1, .ref c2, .ref c3, .ref c4, .int (nI now), .ref c5, .ref c6, .ref c7, .int (nI pq), .int (nI pu), .int (nI pf), .int (nI pg), .int (nI bg), .int (nI L.length), .ref c8, .int (nI sl), .ref c9, .int (nI fb), .int (nI (bmany (B, t))), .ref c10, .int (nI t), .int (nI md), .ref c11, .int (nI tp), .int (nI tl), .int (nI tr)])), (c0, xI Z 4 v), (c1, xI Z 24 op), (c2, xI Z 24 wk), (c3, xI Z 24 on), (c4, xI Z 24 iz), (c5, xJ Z 6 wr), (c6, xI Z 6 wy), (c7, xI Z 6 gs), (c8, xI Z 700 gw), (c9, xI Z 700 sv), (c10, xI Z 80001 gb), (c11, xI Z 6 mk)] := hD
    refine ln_if_ne (tgt := 19) hx hb dX7_appendant_14 (by decide) (by omega) (fun h14 => False.elim (by omega)) (fun h14 => ?_)
    refine lv_iconst (v := (-1)) hx hb dX7_appendant_17 (by decide) ?_
    exact x_iret hC hr hk hP hD hS dX7_appendant_18 (show XQ mx Z (f_appendant ((v, now), (nl, op, wk, on, iz), R, (pq, pu, pf, pg), L, (B, t)) x1 x2) _ _ from by
        rw [show f_appendant ((v, now), (nl, op, wk, on, iz), R, (pq, pu, pf, pg), L, (B, t)) x1 x2 = (-1, ((v, now), (nl, op, wk, on, iz), R, (pq, pu, pf, pg), L, (B, t))) from (by simp only [f_appendant, hq_x1, Bool.and_true, Bool.true_and, Bool.and_false, Bool.false_and, Bool.and_self, if_true, Bool.false_eq_true, if_false, reduceIte])]
        exact ⟨rfl, ⟨hCV, hRV, hPV, hWV, hBV⟩, c0, c1, c2, c3, c4, c5, c6, c7, c8, c9, c10, c11, 0, bg, sl, fb, md, tp, tl, tr, wy, gs, gw, sv, gb, mk, wr, hM7, hRL, hBQ, rfl⟩)
  · obtain ⟨j1, j1a, j1b, rfl⟩ := inQ_of hq_x1 (by decide)
    refine lv_iload_n hx hb dX7_appendant_5 rfl (lv_at hl 1 rfl) ?_
    refine lv_i2l (v := (nI j1).toInt64) hx hb dX7_appendant_6 rfl ?_
    refine lv_lconst (v := lN 0) hx hb dX7_appendant_7 (by decide) ?_
    refine lv_ldc2 (v := lN 241) hx hb hown qq_912 dX7_appendant_8 ?_
    refine x_Si (y := yX7_in) (As := [.long ((nI j1).toInt64), .long (lN 0), .long (lN 241)]) (wc := []) (wr := [(mx, .inr (7, [.int (nI 0), .ref c0, .int (nI nl), .ref c1, .ref c2, .ref c3, .ref c4, .int (nI now), .ref c5, .ref c6, .ref c7, .int (nI pq), .int (nI pu), .int (nI pf), .int (nI pg), .int (nI bg), .int (nI L.length), .ref c8, .int (nI sl), .ref c9, .int (nI fb), .int (nI (bmany (B, t))), .ref c10, .int (nI t), .int (nI md), .ref c11, .int (nI tp), .int (nI tl), .int (nI tr)])), (c0, xI Z 4 v), (c1, xI Z 24 op), (c2, xI Z 24 wk), (c3, xI Z 24 on), (c4, xI Z 24 iz), (c5, xJ Z 6 wr), (c6, xI Z 6 wy), (c7, xI Z 6 gs), (c8, xI Z 700 gw), (c9, xI Z 700 sv), (c10, xI Z 80001 gb), (c11, xI Z 6 mk)]) hC hP hD hS (c_in_y l Z ((nI j1).toInt64) (lN 0) (lN 241) (in_y hq_x1 (by decide) (by decide))) (gS wq_769 wq_767 wq_768 wq_45) rfl ks_X7_in ⟨rfl, rfl⟩ rfl hl.1 rfl ⟨Nat.le_of_ble_eq_true rfl, Nat.le_of_ble_eq_true rfl⟩ ([] : List Nat) [0, 1, 2, 3, 4, 5, 6, 7, 8, 9, 10, 11, 12] rfl rfl (by decide) (by decide) (by decide) rfl dX7_appendant_11 (fun r11 w1 H locs hw hP hD hS => ?_)
    obtain ⟨rfl, rfl⟩ := hw
    have hP : va_P Z.1 vwCl [(mx, .inr (7, [.int (nI 0), .ref c0, .int (nI nl), .ref c1, .ref c2, .ref c3, .ref c4, .int (nI now), .ref c5, .ref c6, .ref c7, .int (nI pq), .int (nI pu), .int (nI pf), .int (nI pg), .int (nI bg), .int (nI L.length), .ref c8, .int (nI sl), .ref c9, .int (nI fb), .int (nI (bmany (B, t))), .ref c10, .int (nI t), .int (nI md), .ref c11, .int (nI tp), .int (nI tl), .int (nI tr)])), (c0, xI Z 4 v), (c1, xI Z 24 op), (c2, xI Z 24 wk), (c3, xI Z 24 on), (c4, xI Z 24 iz), (c5, xJ Z 6 wr), (c6, xI Z 6 wy), (c7, xI Z 6 gs), (c8, xI Z 700 gw), (c9, xI Z 700 sv), (c10, xI Z 80001 gb), (c11, xI Z 6 mk)] H := hP
    have hD : va_D A [(mx, .inr (7, [.int (nI 0), .ref c0, .int (nI nl), .ref c1, .ref c2, .ref c3, .ref c4, .int (nI now), .ref c5, .ref c6, .ref c7, .int (nI pq), .int (nI pu), .int (nI pf), .int (nI pg), .int (nI bg), .int (nI L.length), .ref c8, .int (nI sl), .ref c9, .int (nI fb), .int (nI (bmany (B, t))), .ref c10, .int (nI t), .int (nI md), .ref c11, .int (nI tp), .int (nI tl), .int (nI tr)])), (c0, xI Z 4 v), (c1, xI Z 24 op), (c2, xI Z 24 wk), (c3, xI Z 24 on), (c4, xI Z 24 iz), (c5, xJ Z 6 wr), (c6, xI Z 6 wy), (c7, xI Z 6 gs), (c8, xI Z 700 gw), (c9, xI Z 700 sv), (c10, xI Z 80001 gb), (c11, xI Z 6 mk)] := hD
    refine ln_if_ne (tgt := 19) hx hb dX7_appendant_14 (by decide) (by omega) (fun h14 => ?_) (fun h14 => False.elim (by omega))
    refine lv_aload_n hx hb dX7_appendant_19 rfl (lv_at hl 0 rfl) ?_
    refine ln_const 0 hx hb dX7_appendant_20 (by decide) ?_
    refine va_put (D := Z.1) (ci := 7) (v := .int (nI 0)) (ty := tyX7 24) (C := RX7) (T := TX7) (N := 29) hx hb hts iX7 tyX7 tyX7_ok nmX7 hown hK hP hD hS 0 rfl rfl 24 (Nat.le_of_ble_eq_true rfl) qq_698 (fun _ h9 => h9) rfl (tyX7_ok 24 (Nat.le_of_ble_eq_true rfl)) rfl rfl (Nat.le_of_ble_eq_true rfl) dX7_appendant_21 (fun H locs hP hD hS => ?_)
    have hP : va_P Z.1 vwCl [(mx, .inr (7, [.int (nI 0), .ref c0, .int (nI nl), .ref c1, .ref c2, .ref c3, .ref c4, .int (nI now), .ref c5, .ref c6, .ref c7, .int (nI pq), .int (nI pu), .int (nI pf), .int (nI pg), .int (nI bg), .int (nI L.length), .ref c8, .int (nI sl), .ref c9, .int (nI fb), .int (nI (bmany (B, t))), .ref c10, .int (nI t), .int (nI 0), .ref c11, .int (nI tp), .int (nI tl), .int (nI tr)])), (c0, xI Z 4 v), (c1, xI Z 24 op), (c2, xI Z 24 wk), (c3, xI Z 24 on), (c4, xI Z 24 iz), (c5, xJ Z 6 wr), (c6, xI Z 6 wy), (c7, xI Z 6 gs), (c8, xI Z 700 gw), (c9, xI Z 700 sv), (c10, xI Z 80001 gb), (c11, xI Z 6 mk)] H := hP
    have hD : va_D A [(mx, .inr (7, [.int (nI 0), .ref c0, .int (nI nl), .ref c1, .ref c2, .ref c3, .ref c4, .int (nI now), .ref c5, .ref c6, .ref c7, .int (nI pq), .int (nI pu), .int (nI pf), .int (nI pg), .int (nI bg), .int (nI L.length), .ref c8, .int (nI sl), .ref c9, .int (nI fb), .int (nI (bmany (B, t))), .ref c10, .int (nI t), .int (nI 0), .ref c11, .int (nI tp), .int (nI tl), .int (nI tr)])), (c0, xI Z 4 v), (c1, xI Z 24 op), (c2, xI Z 24 wk), (c3, xI Z 24 on), (c4, xI Z 24 iz), (c5, xJ Z 6 wr), (c6, xI Z 6 wy), (c7, xI Z 6 gs), (c8, xI Z 700 gw), (c9, xI Z 700 sv), (c10, xI Z 80001 gb), (c11, xI Z 6 mk)] := hD
    refine lv_iload_n hx hb dX7_appendant_24 rfl (lv_at hl 1 rfl) ?_
    refine ln_bipush 121 hx hb dX7_appendant_25 (by decide) ?_
    refine ln_icmp_ge (tgt := 35) hx hb dX7_appendant_27 (by decide) (by omega) (by omega) (fun h27 => ?_) (fun h27 => ?_)
    · have hbl : (bapp R j1).length = 0 := by unfold bapp; rw [if_neg (by omega)]; rfl
      have hbj : ∀ j, j < (bapp R j1).length → mk j = (bapp R j1).getD j 0 := fun j hj => by rw [hbl] at hj; exact absurd hj (Nat.not_lt_zero _)
      have hb4 := bapp_le hRV j1
      cases hq_x2 : inX x2 (121 * (bapp R j1).length)
      · refine lv_iload_n hx hb dX7_appendant_35 rfl (lv_at hl 2 rfl) ?_
        refine lv_i2l (v := (x2).toInt64) hx hb dX7_appendant_36 rfl ?_
        refine lv_lconst (v := lN 0) hx hb dX7_appendant_37 (by decide) ?_
        refine ln_bipush 121 hx hb dX7_appendant_38 (by decide) ?_
        refine lv_aload_n hx hb dX7_appendant_40 rfl (lv_at hl 0 rfl) ?_
        refine va_get (D := Z.1) (ci := 7) (v := .int (nI 0)) (C := RX7) (T := TX7) (N := 29) hx hb hts iX7 hown hK hP 0 rfl rfl 24 (Nat.le_of_ble_eq_true rfl) qq_698 (fun _ h9 => h9) rfl dX7_appendant_41 ?_
        refine ln_imul 0 hx hb dX7_appendant_44 (by first | rfl | omega) ?_
        refine ln_top (y := nI (121 * (bapp R j1).length)) (by rw [hbl] <;> rfl) ?_
        refine ln_const 1 hx hb dX7_appendant_45 (by decide) ?_
        refine lv_isub hx hb dX7_appendant_46 ?_
        refine lv_i2l (v := ((nI (121 * (bapp R j1).length)) - (nI 1)).toInt64) hx hb dX7_appendant_47 rfl ?_
        refine x_Si (y := yX7_in) (As := [.long ((x2).toInt64), .long (lN 0), .long (((nI (121 * (bapp R j1).length)) - (nI 1)).toInt64)]) (wc := []) (wr := [(mx, .inr (7, [.int (nI 0), .ref c0, .int (nI nl), .ref c1, .ref c2, .ref c3, .ref c4, .int (nI now), .ref c5, .ref c6, .ref c7, .int (nI pq), .int (nI pu), .int (nI pf), .int (nI pg), .int (nI bg), .int (nI L.length), .ref c8, .int (nI sl), .ref c9, .int (nI fb), .int (nI (bmany (B, t))), .ref c10, .int (nI t), .int (nI 0), .ref c11, .int (nI tp), .int (nI tl), .int (nI tr)])), (c0, xI Z 4 v), (c1, xI Z 24 op), (c2, xI Z 24 wk), (c3, xI Z 24 on), (c4, xI Z 24 iz), (c5, xJ Z 6 wr), (c6, xI Z 6 wy), (c7, xI Z 6 gs), (c8, xI Z 700 gw), (c9, xI Z 700 sv), (c10, xI Z 80001 gb), (c11, xI Z 6 mk)]) hC hP hD hS (c_in_n l Z ((x2).toInt64) (lN 0) (((nI (121 * (bapp R j1).length)) - (nI 1)).toInt64) (in_nx hq_x2 (by omega))) (gS wq_769 wq_767 wq_768 wq_45) rfl ks_X7_in ⟨rfl, rfl⟩ rfl hl.1 rfl ⟨Nat.le_of_ble_eq_true rfl, Nat.le_of_ble_eq_true rfl⟩ ([] : List Nat) [0, 1, 2, 3, 4, 5, 6, 7, 8, 9, 10, 11, 12] rfl rfl (by decide) (by decide) (by decide) rfl dX7_appendant_48 (fun r48 w1 H locs hw hP hD hS => ?_)
        obtain ⟨rfl, rfl⟩ := hw
        have hP : va_P Z.1 vwCl [(mx, .inr (7, [.int (nI 0), .ref c0, .int (nI nl), .ref c1, .ref c2, .ref c3, .ref c4, .int (nI now), .ref c5, .ref c6, .ref c7, .int (nI pq), .int (nI pu), .int (nI pf), .int (nI pg), .int (nI bg), .int (nI L.length), .ref c8, .int (nI sl), .ref c9, .int (nI fb), .int (nI (bmany (B, t))), .ref c10, .int (nI t), .int (nI 0), .ref c11, .int (nI tp), .int (nI tl), .int (nI tr)])), (c0, xI Z 4 v), (c1, xI Z 24 op), (c2, xI Z 24 wk), (c3, xI Z 24 on), (c4, xI Z 24 iz), (c5, xJ Z 6 wr), (c6, xI Z 6 wy), (c7, xI Z 6 gs), (c8, xI Z 700 gw), (c9, xI Z 700 sv), (c10, xI Z 80001 gb), (c11, xI Z 6 mk)] H := hP
        have hD : va_D A [(mx, .inr (7, [.int (nI 0), .ref c0, .int (nI nl), .ref c1, .ref c2, .ref c3, .ref c4, .int (nI now), .ref c5, .ref c6, .ref c7, .int (nI pq), .int (nI pu), .int (nI pf), .int (nI pg), .int (nI bg), .int (nI L.length), .ref c8, .int (nI sl), .ref c9, .int (nI fb), .int (nI (bmany (B, t))), .ref c10, .int (nI t), .int (nI 0), .ref c11, .int (nI tp), .int (nI tl), .int (nI tr)])), (c0, xI Z 4 v), (c1, xI Z 24 op), (c2, xI Z 24 wk), (c3, xI Z 24 on), (c4, xI Z 24 iz), (c5, xJ Z 6 wr), (c6, xI Z 6 wy), (c7, xI Z 6 gs), (c8, xI Z 700 gw), (c9, xI Z 700 sv), (c10, xI Z 80001 gb), (c11, xI Z 6 mk)] := hD
        refine ln_if_eq (tgt := 78) hx hb dX7_appendant_51 (by decide) (by omega) (fun h51 => ?_) (fun h51 => False.elim (by omega))
        refine lv_bipush (v := (-9)) hx hb dX7_appendant_78 (by decide) ?_
        exact x_iret hC hr hk hP hD hS dX7_appendant_80 (show XQ mx Z (f_appendant ((v, now), (nl, op, wk, on, iz), R, (pq, pu, pf, pg), L, (B, t)) (nI j1) x2) _ _ from by
            rw [show f_appendant ((v, now), (nl, op, wk, on, iz), R, (pq, pu, pf, pg), L, (B, t)) (nI j1) x2 = (-9, ((v, now), (nl, op, wk, on, iz), R, (pq, pu, pf, pg), L, (B, t))) from (by simp only [f_appendant, hq_x1, hq_x2, Bool.and_true, Bool.true_and, Bool.and_false, Bool.false_and, Bool.and_self, if_true, Bool.false_eq_true, if_false, reduceIte, nI_clamp (show j1 < 2147483648 by omega)])]
            exact ⟨rfl, ⟨hCV, hRV, hPV, hWV, hBV⟩, c0, c1, c2, c3, c4, c5, c6, c7, c8, c9, c10, c11, 0, bg, sl, fb, 0, tp, tl, tr, wy, gs, gw, sv, gb, mk, wr, hM7, hRL, hBQ, rfl⟩)
      · obtain ⟨j2, j2b, rfl⟩ := inX_of hq_x2 (by omega)
        refine lv_iload_n hx hb dX7_appendant_35 rfl (lv_at hl 2 rfl) ?_
        refine lv_i2l (v := (nI j2).toInt64) hx hb dX7_appendant_36 rfl ?_
        refine lv_lconst (v := lN 0) hx hb dX7_appendant_37 (by decide) ?_
        refine ln_bipush 121 hx hb dX7_appendant_38 (by decide) ?_
        refine lv_aload_n hx hb dX7_appendant_40 rfl (lv_at hl 0 rfl) ?_
        refine va_get (D := Z.1) (ci := 7) (v := .int (nI 0)) (C := RX7) (T := TX7) (N := 29) hx hb hts iX7 hown hK hP 0 rfl rfl 24 (Nat.le_of_ble_eq_true rfl) qq_698 (fun _ h9 => h9) rfl dX7_appendant_41 ?_
        refine ln_imul 0 hx hb dX7_appendant_44 (by first | rfl | omega) ?_
        refine ln_top (y := nI (121 * (bapp R j1).length)) (by rw [hbl] <;> rfl) ?_
        refine ln_const 1 hx hb dX7_appendant_45 (by decide) ?_
        refine lv_isub hx hb dX7_appendant_46 ?_
        refine lv_i2l (v := ((nI (121 * (bapp R j1).length)) - (nI 1)).toInt64) hx hb dX7_appendant_47 rfl ?_
        refine x_Si (y := yX7_in) (As := [.long ((nI j2).toInt64), .long (lN 0), .long (((nI (121 * (bapp R j1).length)) - (nI 1)).toInt64)]) (wc := []) (wr := [(mx, .inr (7, [.int (nI 0), .ref c0, .int (nI nl), .ref c1, .ref c2, .ref c3, .ref c4, .int (nI now), .ref c5, .ref c6, .ref c7, .int (nI pq), .int (nI pu), .int (nI pf), .int (nI pg), .int (nI bg), .int (nI L.length), .ref c8, .int (nI sl), .ref c9, .int (nI fb), .int (nI (bmany (B, t))), .ref c10, .int (nI t), .int (nI 0), .ref c11, .int (nI tp), .int (nI tl), .int (nI tr)])), (c0, xI Z 4 v), (c1, xI Z 24 op), (c2, xI Z 24 wk), (c3, xI Z 24 on), (c4, xI Z 24 iz), (c5, xJ Z 6 wr), (c6, xI Z 6 wy), (c7, xI Z 6 gs), (c8, xI Z 700 gw), (c9, xI Z 700 sv), (c10, xI Z 80001 gb), (c11, xI Z 6 mk)]) hC hP hD hS (c_in_y l Z ((nI j2).toInt64) (lN 0) (((nI (121 * (bapp R j1).length)) - (nI 1)).toInt64) (in_yx hq_x2 (by omega))) (gS wq_769 wq_767 wq_768 wq_45) rfl ks_X7_in ⟨rfl, rfl⟩ rfl hl.1 rfl ⟨Nat.le_of_ble_eq_true rfl, Nat.le_of_ble_eq_true rfl⟩ ([] : List Nat) [0, 1, 2, 3, 4, 5, 6, 7, 8, 9, 10, 11, 12] rfl rfl (by decide) (by decide) (by decide) rfl dX7_appendant_48 (fun r48 w1 H locs hw hP hD hS => ?_)
        obtain ⟨rfl, rfl⟩ := hw
        have hP : va_P Z.1 vwCl [(mx, .inr (7, [.int (nI 0), .ref c0, .int (nI nl), .ref c1, .ref c2, .ref c3, .ref c4, .int (nI now), .ref c5, .ref c6, .ref c7, .int (nI pq), .int (nI pu), .int (nI pf), .int (nI pg), .int (nI bg), .int (nI L.length), .ref c8, .int (nI sl), .ref c9, .int (nI fb), .int (nI (bmany (B, t))), .ref c10, .int (nI t), .int (nI 0), .ref c11, .int (nI tp), .int (nI tl), .int (nI tr)])), (c0, xI Z 4 v), (c1, xI Z 24 op), (c2, xI Z 24 wk), (c3, xI Z 24 on), (c4, xI Z 24 iz), (c5, xJ Z 6 wr), (c6, xI Z 6 wy), (c7, xI Z 6 gs), (c8, xI Z 700 gw), (c9, xI Z 700 sv), (c10, xI Z 80001 gb), (c11, xI Z 6 mk)] H := hP
        have hD : va_D A [(mx, .inr (7, [.int (nI 0), .ref c0, .int (nI nl), .ref c1, .ref c2, .ref c3, .ref c4, .int (nI now), .ref c5, .ref c6, .ref c7, .int (nI pq), .int (nI pu), .int (nI pf), .int (nI pg), .int (nI bg), .int (nI L.length), .ref c8, .int (nI sl), .ref c9, .int (nI fb), .int (nI (bmany (B, t))), .ref c10, .int (nI t), .int (nI 0), .ref c11, .int (nI tp), .int (nI tl), .int (nI tr)])), (c0, xI Z 4 v), (c1, xI Z 24 op), (c2, xI Z 24 wk), (c3, xI Z 24 on), (c4, xI Z 24 iz), (c5, xJ Z 6 wr), (c6, xI Z 6 wy), (c7, xI Z 6 gs), (c8, xI Z 700 gw), (c9, xI Z 700 sv), (c10, xI Z 80001 gb), (c11, xI Z 6 mk)] := hD
        refine ln_if_eq (tgt := 78) hx hb dX7_appendant_51 (by decide) (by omega) (fun h51 => False.elim (by omega)) (fun h51 => ?_)
        refine lv_aload_n hx hb dX7_appendant_54 rfl (lv_at hl 0 rfl) ?_
        refine va_get (D := Z.1) (ci := 7) (v := .ref c11) (C := RX7) (T := TX7) (N := 29) hx hb hts iX7 hown hK hP 0 rfl rfl 25 (Nat.le_of_ble_eq_true rfl) qq_699 (fun _ h9 => h9) rfl dX7_appendant_55 ?_
        refine lv_iload_n hx hb dX7_appendant_58 rfl (lv_at hl 2 rfl) ?_
        refine ln_bipush 121 hx hb dX7_appendant_59 (by decide) ?_
        refine ln_idiv (j2 / 121) hx hb dX7_appendant_61 (by omega) (by omega) (by omega) (by first | rfl | omega) ?_
        have hz : (bapp R j1).getD (j2 / 121) 0 < 121 := bapp_121 hRV j1 _ (getD_mem (w := bapp R j1) (i := j2 / 121) (by omega))
        refine ln_iald hx hb hK hP 12 rfl (by omega) (by omega) dX7_appendant_62 ?_
        refine ln_top (y := nI ((bapp R j1).getD (j2 / 121) 0)) (by rw [hbj _ (by omega)]) ?_
        refine lv_iload_n hx hb dX7_appendant_63 rfl (lv_at hl 2 rfl) ?_
        refine ln_bipush 121 hx hb dX7_appendant_64 (by decide) ?_
        refine ln_irem (j2 % 121) hx hb dX7_appendant_66 (by omega) (by omega) (by omega) (by first | rfl | omega) ?_
        refine ln_icmp_ne (tgt := 74) hx hb dX7_appendant_67 (by decide) (by omega) (by omega) (fun h67 => ?_) (fun h67 => ?_)
        · refine ln_const 0 hx hb dX7_appendant_74 (by decide) ?_
          refine lv_goto (tgt := 80) hx hb dX7_appendant_75 (by decide) ?_
          exact x_iret hC hr hk hP hD hS dX7_appendant_80 (show XQ mx Z (f_appendant ((v, now), (nl, op, wk, on, iz), R, (pq, pu, pf, pg), L, (B, t)) (nI j1) (nI j2)) _ _ from by
              rw [show f_appendant ((v, now), (nl, op, wk, on, iz), R, (pq, pu, pf, pg), L, (B, t)) (nI j1) (nI j2) = (nI 0, ((v, now), (nl, op, wk, on, iz), R, (pq, pu, pf, pg), L, (B, t))) from (by simp only [f_appendant, hq_x1, hq_x2, Bool.and_true, Bool.true_and, Bool.and_false, Bool.false_and, Bool.and_self, if_true, Bool.false_eq_true, if_false, reduceIte, nI_clamp (show j1 < 2147483648 by omega), nI_clamp (show j2 < 2147483648 by omega), if_neg h67])]
              exact ⟨rfl, ⟨hCV, hRV, hPV, hWV, hBV⟩, c0, c1, c2, c3, c4, c5, c6, c7, c8, c9, c10, c11, 0, bg, sl, fb, 0, tp, tl, tr, wy, gs, gw, sv, gb, mk, wr, hM7, hRL, hBQ, rfl⟩)
        · refine ln_const 1 hx hb dX7_appendant_70 (by decide) ?_
          refine lv_goto (tgt := 80) hx hb dX7_appendant_71 (by decide) ?_
          exact x_iret hC hr hk hP hD hS dX7_appendant_80 (show XQ mx Z (f_appendant ((v, now), (nl, op, wk, on, iz), R, (pq, pu, pf, pg), L, (B, t)) (nI j1) (nI j2)) _ _ from by
              rw [show f_appendant ((v, now), (nl, op, wk, on, iz), R, (pq, pu, pf, pg), L, (B, t)) (nI j1) (nI j2) = (nI 1, ((v, now), (nl, op, wk, on, iz), R, (pq, pu, pf, pg), L, (B, t))) from (by simp only [f_appendant, hq_x1, hq_x2, Bool.and_true, Bool.true_and, Bool.and_false, Bool.false_and, Bool.and_self, if_true, Bool.false_eq_true, if_false, reduceIte, nI_clamp (show j1 < 2147483648 by omega), nI_clamp (show j2 < 2147483648 by omega), if_pos h67])]
              exact ⟨rfl, ⟨hCV, hRV, hPV, hWV, hBV⟩, c0, c1, c2, c3, c4, c5, c6, c7, c8, c9, c10, c11, 0, bg, sl, fb, 0, tp, tl, tr, wy, gs, gw, sv, gb, mk, wr, hM7, hRL, hBQ, rfl⟩)
    · refine lv_aload_n hx hb dX7_appendant_30 rfl (lv_at hl 0 rfl) ?_
      refine lv_iload_n hx hb dX7_appendant_31 rfl (lv_at hl 1 rfl) ?_
      refine x_Vv (y := yX7_produce) (As := [.int (nI j1)]) (wc := [(mx, .inr (7, [.int (nI 0), .ref c0, .int (nI nl), .ref c1, .ref c2, .ref c3, .ref c4, .int (nI now), .ref c5, .ref c6, .ref c7, .int (nI pq), .int (nI pu), .int (nI pf), .int (nI pg), .int (nI bg), .int (nI L.length), .ref c8, .int (nI sl), .ref c9, .int (nI fb), .int (nI (bmany (B, t))), .ref c10, .int (nI t), .int (nI 0), .ref c11, .int (nI tp), .int (nI tl), .int (nI tr)])), (c0, xI Z 4 v), (c1, xI Z 24 op), (c2, xI Z 24 wk), (c3, xI Z 24 on), (c4, xI Z 24 iz), (c5, xJ Z 6 wr), (c6, xI Z 6 wy), (c7, xI Z 6 gs), (c8, xI Z 700 gw), (c9, xI Z 700 sv), (c10, xI Z 80001 gb), (c11, xI Z 6 mk)]) (wr := []) hC hP hD hS (c_X7_produce l Z mx c0 c1 c2 c3 c4 c5 c6 c7 c8 c9 c10 c11 0 nl now pq pu pf pg bg L.length sl fb (bmany (B, t)) t 0 tp tl tr v op wk on iz wy gs gw sv gb mk wr R hM7 hRV j1 (by omega)) (gV wq_839 wq_836 wq_838 wq_17 wq_45) rfl kv_X7_produce rfl rfl ⟨rfl, rfl⟩ rfl hl.1 rfl ⟨Nat.le_of_ble_eq_true rfl, Nat.le_of_ble_eq_true rfl⟩ [0, 1, 2, 3, 4, 5, 6, 7, 8, 9, 10, 11, 12] ([] : List Nat) rfl rfl (by decide) (by decide) (by decide) rfl dX7_appendant_32 (fun w1 H locs hw hP hD hS => ?_)
      obtain ⟨md2, mk2, ⟨rfl, hPM⟩, rfl⟩ := hw
      have hP : va_P Z.1 vwCl [(mx, .inr (7, [.int (nI 0), .ref c0, .int (nI nl), .ref c1, .ref c2, .ref c3, .ref c4, .int (nI now), .ref c5, .ref c6, .ref c7, .int (nI pq), .int (nI pu), .int (nI pf), .int (nI pg), .int (nI bg), .int (nI L.length), .ref c8, .int (nI sl), .ref c9, .int (nI fb), .int (nI (bmany (B, t))), .ref c10, .int (nI t), .int (nI ((xprod R j1).length)), .ref c11, .int (nI tp), .int (nI tl), .int (nI tr)])), (c0, xI Z 4 v), (c1, xI Z 24 op), (c2, xI Z 24 wk), (c3, xI Z 24 on), (c4, xI Z 24 iz), (c5, xJ Z 6 wr), (c6, xI Z 6 wy), (c7, xI Z 6 gs), (c8, xI Z 700 gw), (c9, xI Z 700 sv), (c10, xI Z 80001 gb), (c11, xI Z 6 mk2)] H := hP
      have hD : va_D A [(mx, .inr (7, [.int (nI 0), .ref c0, .int (nI nl), .ref c1, .ref c2, .ref c3, .ref c4, .int (nI now), .ref c5, .ref c6, .ref c7, .int (nI pq), .int (nI pu), .int (nI pf), .int (nI pg), .int (nI bg), .int (nI L.length), .ref c8, .int (nI sl), .ref c9, .int (nI fb), .int (nI (bmany (B, t))), .ref c10, .int (nI t), .int (nI ((xprod R j1).length)), .ref c11, .int (nI tp), .int (nI tl), .int (nI tr)])), (c0, xI Z 4 v), (c1, xI Z 24 op), (c2, xI Z 24 wk), (c3, xI Z 24 on), (c4, xI Z 24 iz), (c5, xJ Z 6 wr), (c6, xI Z 6 wy), (c7, xI Z 6 gs), (c8, xI Z 700 gw), (c9, xI Z 700 sv), (c10, xI Z 80001 gb), (c11, xI Z 6 mk2)] := hD
      have hbe : bapp R j1 = xprod R j1 := if_pos h27
      have hbl : (bapp R j1).length = (xprod R j1).length := by rw [hbe]
      have hbj : ∀ j, j < (bapp R j1).length → mk2 j = (bapp R j1).getD j 0 := fun j hj => by rw [hbe] at hj ⊢; exact hPM j hj
      have hb4 := bapp_le hRV j1
      cases hq_x2 : inX x2 (121 * (bapp R j1).length)
      · refine lv_iload_n hx hb dX7_appendant_35 rfl (lv_at hl 2 rfl) ?_
        refine lv_i2l (v := (x2).toInt64) hx hb dX7_appendant_36 rfl ?_
        refine lv_lconst (v := lN 0) hx hb dX7_appendant_37 (by decide) ?_
        refine ln_bipush 121 hx hb dX7_appendant_38 (by decide) ?_
        refine lv_aload_n hx hb dX7_appendant_40 rfl (lv_at hl 0 rfl) ?_
        refine va_get (D := Z.1) (ci := 7) (v := .int (nI ((xprod R j1).length))) (C := RX7) (T := TX7) (N := 29) hx hb hts iX7 hown hK hP 0 rfl rfl 24 (Nat.le_of_ble_eq_true rfl) qq_698 (fun _ h9 => h9) rfl dX7_appendant_41 ?_
        refine ln_imul (121 * ((xprod R j1).length)) hx hb dX7_appendant_44 (by first | rfl | omega) ?_
        refine ln_top (y := nI (121 * (bapp R j1).length)) (by rw [hbl] <;> rfl) ?_
        refine ln_const 1 hx hb dX7_appendant_45 (by decide) ?_
        refine lv_isub hx hb dX7_appendant_46 ?_
        refine lv_i2l (v := ((nI (121 * (bapp R j1).length)) - (nI 1)).toInt64) hx hb dX7_appendant_47 rfl ?_
        refine x_Si (y := yX7_in) (As := [.long ((x2).toInt64), .long (lN 0), .long (((nI (121 * (bapp R j1).length)) - (nI 1)).toInt64)]) (wc := []) (wr := [(mx, .inr (7, [.int (nI 0), .ref c0, .int (nI nl), .ref c1, .ref c2, .ref c3, .ref c4, .int (nI now), .ref c5, .ref c6, .ref c7, .int (nI pq), .int (nI pu), .int (nI pf), .int (nI pg), .int (nI bg), .int (nI L.length), .ref c8, .int (nI sl), .ref c9, .int (nI fb), .int (nI (bmany (B, t))), .ref c10, .int (nI t), .int (nI ((xprod R j1).length)), .ref c11, .int (nI tp), .int (nI tl), .int (nI tr)])), (c0, xI Z 4 v), (c1, xI Z 24 op), (c2, xI Z 24 wk), (c3, xI Z 24 on), (c4, xI Z 24 iz), (c5, xJ Z 6 wr), (c6, xI Z 6 wy), (c7, xI Z 6 gs), (c8, xI Z 700 gw), (c9, xI Z 700 sv), (c10, xI Z 80001 gb), (c11, xI Z 6 mk2)]) hC hP hD hS (c_in_n l Z ((x2).toInt64) (lN 0) (((nI (121 * (bapp R j1).length)) - (nI 1)).toInt64) (in_nx hq_x2 (by omega))) (gS wq_769 wq_767 wq_768 wq_45) rfl ks_X7_in ⟨rfl, rfl⟩ rfl hl.1 rfl ⟨Nat.le_of_ble_eq_true rfl, Nat.le_of_ble_eq_true rfl⟩ ([] : List Nat) [0, 1, 2, 3, 4, 5, 6, 7, 8, 9, 10, 11, 12] rfl rfl (by decide) (by decide) (by decide) rfl dX7_appendant_48 (fun r48 w1 H locs hw hP hD hS => ?_)
        obtain ⟨rfl, rfl⟩ := hw
        have hP : va_P Z.1 vwCl [(mx, .inr (7, [.int (nI 0), .ref c0, .int (nI nl), .ref c1, .ref c2, .ref c3, .ref c4, .int (nI now), .ref c5, .ref c6, .ref c7, .int (nI pq), .int (nI pu), .int (nI pf), .int (nI pg), .int (nI bg), .int (nI L.length), .ref c8, .int (nI sl), .ref c9, .int (nI fb), .int (nI (bmany (B, t))), .ref c10, .int (nI t), .int (nI ((xprod R j1).length)), .ref c11, .int (nI tp), .int (nI tl), .int (nI tr)])), (c0, xI Z 4 v), (c1, xI Z 24 op), (c2, xI Z 24 wk), (c3, xI Z 24 on), (c4, xI Z 24 iz), (c5, xJ Z 6 wr), (c6, xI Z 6 wy), (c7, xI Z 6 gs), (c8, xI Z 700 gw), (c9, xI Z 700 sv), (c10, xI Z 80001 gb), (c11, xI Z 6 mk2)] H := hP
        have hD : va_D A [(mx, .inr (7, [.int (nI 0), .ref c0, .int (nI nl), .ref c1, .ref c2, .ref c3, .ref c4, .int (nI now), .ref c5, .ref c6, .ref c7, .int (nI pq), .int (nI pu), .int (nI pf), .int (nI pg), .int (nI bg), .int (nI L.length), .ref c8, .int (nI sl), .ref c9, .int (nI fb), .int (nI (bmany (B, t))), .ref c10, .int (nI t), .int (nI ((xprod R j1).length)), .ref c11, .int (nI tp), .int (nI tl), .int (nI tr)])), (c0, xI Z 4 v), (c1, xI Z 24 op), (c2, xI Z 24 wk), (c3, xI Z 24 on), (c4, xI Z 24 iz), (c5, xJ Z 6 wr), (c6, xI Z 6 wy), (c7, xI Z 6 gs), (c8, xI Z 700 gw), (c9, xI Z 700 sv), (c10, xI Z 80001 gb), (c11, xI Z 6 mk2)] := hD
        refine ln_if_eq (tgt := 78) hx hb dX7_appendant_51 (by decide) (by omega) (fun h51 => ?_) (fun h51 => False.elim (by omega))
        refine lv_bipush (v := (-9)) hx hb dX7_appendant_78 (by decide) ?_
        exact x_iret hC hr hk hP hD hS dX7_appendant_80 (show XQ mx Z (f_appendant ((v, now), (nl, op, wk, on, iz), R, (pq, pu, pf, pg), L, (B, t)) (nI j1) x2) _ _ from by
            rw [show f_appendant ((v, now), (nl, op, wk, on, iz), R, (pq, pu, pf, pg), L, (B, t)) (nI j1) x2 = (-9, ((v, now), (nl, op, wk, on, iz), R, (pq, pu, pf, pg), L, (B, t))) from (by simp only [f_appendant, hq_x1, hq_x2, Bool.and_true, Bool.true_and, Bool.and_false, Bool.false_and, Bool.and_self, if_true, Bool.false_eq_true, if_false, reduceIte, nI_clamp (show j1 < 2147483648 by omega)])]
            exact ⟨rfl, ⟨hCV, hRV, hPV, hWV, hBV⟩, c0, c1, c2, c3, c4, c5, c6, c7, c8, c9, c10, c11, 0, bg, sl, fb, ((xprod R j1).length), tp, tl, tr, wy, gs, gw, sv, gb, mk2, wr, hM7, hRL, hBQ, rfl⟩)
      · obtain ⟨j2, j2b, rfl⟩ := inX_of hq_x2 (by omega)
        refine lv_iload_n hx hb dX7_appendant_35 rfl (lv_at hl 2 rfl) ?_
        refine lv_i2l (v := (nI j2).toInt64) hx hb dX7_appendant_36 rfl ?_
        refine lv_lconst (v := lN 0) hx hb dX7_appendant_37 (by decide) ?_
        refine ln_bipush 121 hx hb dX7_appendant_38 (by decide) ?_
        refine lv_aload_n hx hb dX7_appendant_40 rfl (lv_at hl 0 rfl) ?_
        refine va_get (D := Z.1) (ci := 7) (v := .int (nI ((xprod R j1).length))) (C := RX7) (T := TX7) (N := 29) hx hb hts iX7 hown hK hP 0 rfl rfl 24 (Nat.le_of_ble_eq_true rfl) qq_698 (fun _ h9 => h9) rfl dX7_appendant_41 ?_
        refine ln_imul (121 * ((xprod R j1).length)) hx hb dX7_appendant_44 (by first | rfl | omega) ?_
        refine ln_top (y := nI (121 * (bapp R j1).length)) (by rw [hbl] <;> rfl) ?_
        refine ln_const 1 hx hb dX7_appendant_45 (by decide) ?_
        refine lv_isub hx hb dX7_appendant_46 ?_
        refine lv_i2l (v := ((nI (121 * (bapp R j1).length)) - (nI 1)).toInt64) hx hb dX7_appendant_47 rfl ?_
        refine x_Si (y := yX7_in) (As := [.long ((nI j2).toInt64), .long (lN 0), .long (((nI (121 * (bapp R j1).length)) - (nI 1)).toInt64)]) (wc := []) (wr := [(mx, .inr (7, [.int (nI 0), .ref c0, .int (nI nl), .ref c1, .ref c2, .ref c3, .ref c4, .int (nI now), .ref c5, .ref c6, .ref c7, .int (nI pq), .int (nI pu), .int (nI pf), .int (nI pg), .int (nI bg), .int (nI L.length), .ref c8, .int (nI sl), .ref c9, .int (nI fb), .int (nI (bmany (B, t))), .ref c10, .int (nI t), .int (nI ((xprod R j1).length)), .ref c11, .int (nI tp), .int (nI tl), .int (nI tr)])), (c0, xI Z 4 v), (c1, xI Z 24 op), (c2, xI Z 24 wk), (c3, xI Z 24 on), (c4, xI Z 24 iz), (c5, xJ Z 6 wr), (c6, xI Z 6 wy), (c7, xI Z 6 gs), (c8, xI Z 700 gw), (c9, xI Z 700 sv), (c10, xI Z 80001 gb), (c11, xI Z 6 mk2)]) hC hP hD hS (c_in_y l Z ((nI j2).toInt64) (lN 0) (((nI (121 * (bapp R j1).length)) - (nI 1)).toInt64) (in_yx hq_x2 (by omega))) (gS wq_769 wq_767 wq_768 wq_45) rfl ks_X7_in ⟨rfl, rfl⟩ rfl hl.1 rfl ⟨Nat.le_of_ble_eq_true rfl, Nat.le_of_ble_eq_true rfl⟩ ([] : List Nat) [0, 1, 2, 3, 4, 5, 6, 7, 8, 9, 10, 11, 12] rfl rfl (by decide) (by decide) (by decide) rfl dX7_appendant_48 (fun r48 w1 H locs hw hP hD hS => ?_)
        obtain ⟨rfl, rfl⟩ := hw
        have hP : va_P Z.1 vwCl [(mx, .inr (7, [.int (nI 0), .ref c0, .int (nI nl), .ref c1, .ref c2, .ref c3, .ref c4, .int (nI now), .ref c5, .ref c6, .ref c7, .int (nI pq), .int (nI pu), .int (nI pf), .int (nI pg), .int (nI bg), .int (nI L.length), .ref c8, .int (nI sl), .ref c9, .int (nI fb), .int (nI (bmany (B, t))), .ref c10, .int (nI t), .int (nI ((xprod R j1).length)), .ref c11, .int (nI tp), .int (nI tl), .int (nI tr)])), (c0, xI Z 4 v), (c1, xI Z 24 op), (c2, xI Z 24 wk), (c3, xI Z 24 on), (c4, xI Z 24 iz), (c5, xJ Z 6 wr), (c6, xI Z 6 wy), (c7, xI Z 6 gs), (c8, xI Z 700 gw), (c9, xI Z 700 sv), (c10, xI Z 80001 gb), (c11, xI Z 6 mk2)] H := hP
        have hD : va_D A [(mx, .inr (7, [.int (nI 0), .ref c0, .int (nI nl), .ref c1, .ref c2, .ref c3, .ref c4, .int (nI now), .ref c5, .ref c6, .ref c7, .int (nI pq), .int (nI pu), .int (nI pf), .int (nI pg), .int (nI bg), .int (nI L.length), .ref c8, .int (nI sl), .ref c9, .int (nI fb), .int (nI (bmany (B, t))), .ref c10, .int (nI t), .int (nI ((xprod R j1).length)), .ref c11, .int (nI tp), .int (nI tl), .int (nI tr)])), (c0, xI Z 4 v), (c1, xI Z 24 op), (c2, xI Z 24 wk), (c3, xI Z 24 on), (c4, xI Z 24 iz), (c5, xJ Z 6 wr), (c6, xI Z 6 wy), (c7, xI Z 6 gs), (c8, xI Z 700 gw), (c9, xI Z 700 sv), (c10, xI Z 80001 gb), (c11, xI Z 6 mk2)] := hD
        refine ln_if_eq (tgt := 78) hx hb dX7_appendant_51 (by decide) (by omega) (fun h51 => False.elim (by omega)) (fun h51 => ?_)
        refine lv_aload_n hx hb dX7_appendant_54 rfl (lv_at hl 0 rfl) ?_
        refine va_get (D := Z.1) (ci := 7) (v := .ref c11) (C := RX7) (T := TX7) (N := 29) hx hb hts iX7 hown hK hP 0 rfl rfl 25 (Nat.le_of_ble_eq_true rfl) qq_699 (fun _ h9 => h9) rfl dX7_appendant_55 ?_
        refine lv_iload_n hx hb dX7_appendant_58 rfl (lv_at hl 2 rfl) ?_
        refine ln_bipush 121 hx hb dX7_appendant_59 (by decide) ?_
        refine ln_idiv (j2 / 121) hx hb dX7_appendant_61 (by omega) (by omega) (by omega) (by first | rfl | omega) ?_
        have hz : (bapp R j1).getD (j2 / 121) 0 < 121 := bapp_121 hRV j1 _ (getD_mem (w := bapp R j1) (i := j2 / 121) (by omega))
        refine ln_iald hx hb hK hP 12 rfl (by omega) (by omega) dX7_appendant_62 ?_
        refine ln_top (y := nI ((bapp R j1).getD (j2 / 121) 0)) (by rw [hbj _ (by omega)]) ?_
        refine lv_iload_n hx hb dX7_appendant_63 rfl (lv_at hl 2 rfl) ?_
        refine ln_bipush 121 hx hb dX7_appendant_64 (by decide) ?_
        refine ln_irem (j2 % 121) hx hb dX7_appendant_66 (by omega) (by omega) (by omega) (by first | rfl | omega) ?_
        refine ln_icmp_ne (tgt := 74) hx hb dX7_appendant_67 (by decide) (by omega) (by omega) (fun h67 => ?_) (fun h67 => ?_)
        · refine ln_const 0 hx hb dX7_appendant_74 (by decide) ?_
          refine lv_goto (tgt := 80) hx hb dX7_appendant_75 (by decide) ?_
          exact x_iret hC hr hk hP hD hS dX7_appendant_80 (show XQ mx Z (f_appendant ((v, now), (nl, op, wk, on, iz), R, (pq, pu, pf, pg), L, (B, t)) (nI j1) (nI j2)) _ _ from by
              rw [show f_appendant ((v, now), (nl, op, wk, on, iz), R, (pq, pu, pf, pg), L, (B, t)) (nI j1) (nI j2) = (nI 0, ((v, now), (nl, op, wk, on, iz), R, (pq, pu, pf, pg), L, (B, t))) from (by simp only [f_appendant, hq_x1, hq_x2, Bool.and_true, Bool.true_and, Bool.and_false, Bool.false_and, Bool.and_self, if_true, Bool.false_eq_true, if_false, reduceIte, nI_clamp (show j1 < 2147483648 by omega), nI_clamp (show j2 < 2147483648 by omega), if_neg h67])]
              exact ⟨rfl, ⟨hCV, hRV, hPV, hWV, hBV⟩, c0, c1, c2, c3, c4, c5, c6, c7, c8, c9, c10, c11, 0, bg, sl, fb, ((xprod R j1).length), tp, tl, tr, wy, gs, gw, sv, gb, mk2, wr, hM7, hRL, hBQ, rfl⟩)
        · refine ln_const 1 hx hb dX7_appendant_70 (by decide) ?_
          refine lv_goto (tgt := 80) hx hb dX7_appendant_71 (by decide) ?_
          exact x_iret hC hr hk hP hD hS dX7_appendant_80 (show XQ mx Z (f_appendant ((v, now), (nl, op, wk, on, iz), R, (pq, pu, pf, pg), L, (B, t)) (nI j1) (nI j2)) _ _ from by
              rw [show f_appendant ((v, now), (nl, op, wk, on, iz), R, (pq, pu, pf, pg), L, (B, t)) (nI j1) (nI j2) = (nI 1, ((v, now), (nl, op, wk, on, iz), R, (pq, pu, pf, pg), L, (B, t))) from (by simp only [f_appendant, hq_x1, hq_x2, Bool.and_true, Bool.true_and, Bool.and_false, Bool.false_and, Bool.and_self, if_true, Bool.false_eq_true, if_false, reduceIte, nI_clamp (show j1 < 2147483648 by omega), nI_clamp (show j2 < 2147483648 by omega), if_pos h67])]
              exact ⟨rfl, ⟨hCV, hRV, hPV, hWV, hBV⟩, c0, c1, c2, c3, c4, c5, c6, c7, c8, c9, c10, c11, 0, bg, sl, fb, ((xprod R j1).length), tp, tl, tr, wy, gs, gw, sv, gb, mk2, wr, hM7, hRL, hBQ, rfl⟩)

set_option maxHeartbeats 4000000 in
set_option maxRecDepth 100000 in
theorem c_X7_spread (l : Launch) (Z : xZ) (mx : Nat) (S : xS) (hS0 : SV S) (wx : va_W) (hw0 : MW mx S wx Z) : xMi l Z yX7_spread vX7_spread ({ frames := 1, cells := 0, slots := 0, locals := 21 } : Room) [.ref mx] wx (XQ mx Z (f_spread S)) := by
  obtain ⟨⟨v, now⟩, ⟨nl, op, wk, on, iz⟩, R, ⟨pq, pu, pf, pg⟩, L, B, t⟩ := S
  obtain ⟨hCV, hRV, hPV, hWV, hBV⟩ := hS0
  obtain ⟨c0, c1, c2, c3, c4, c5, c6, c7, c8, c9, c10, c11, th, bg, sl, fb, md, tp, tl, tr, wy, gs, gw, sv, gb, mk, wr, hM7, hRL, hBQ, rfl⟩ := hw0
  have hRL1 := hRL.1
  obtain ⟨hc1, hc2, hc3, hc4⟩ := id hCV
  obtain ⟨hp1, hp2, hp3, hp4⟩ := id hPV
  obtain ⟨hw1, hw2⟩ := id hWV
  obtain ⟨hb1, hb2, hb3, hb4, hb5⟩ := id hBV
  have hbm : bmany (B, t) = 121 * B.length - t % 121 := rfl
  dsimp only at hRV hc1 hc2 hc3 hc4 hp1 hp2 hp3 hp4 hw1 hw2 hb1 hb2 hb3 hb4 hb5
  refine x_i (by decide) rfl (Nat.le_of_ble_eq_true rfl) ?_
  intro p e s m args below meth c ls A hC hr hk hl hP hD hS
  have hx := hC.1.1
  have hb := hC.1.2.1
  have hml := hC.1.2.2.1
  have hown : s.vm.findClass RX7 = some m.cls := hC.1.2.2.2.1
  have hts := hC.1.2.2.2.2
  have hK := hC.2.1
  have qq_674 := hts (Cond.fieldLink RX7 47 "TagTowerModel" "thrown" "I") (List.mem_cons_of_mem _ wq_674)
  have iX7 : ∀ w ∈ wsX70, w ∈ vX7_spread := fun w h => List.mem_cons_of_mem _ (wi_X7 w h)
  have qq_690 := hts (Cond.fieldLink RX7 126 "TagTowerModel" "length" "I") (List.mem_cons_of_mem _ wq_690)
  have qq_917 := hts (Cond.constant RX7 164 (80000)) (List.mem_cons_of_mem _ wq_917)
  have qq_694 := hts (Cond.fieldLink RX7 156 "TagTowerModel" "first" "I") (List.mem_cons_of_mem _ wq_694)
  have qq_695 := hts (Cond.fieldLink RX7 159 "TagTowerModel" "many" "I") (List.mem_cons_of_mem _ wq_695)
  have qq_697 := hts (Cond.fieldLink RX7 165 "TagTowerModel" "turn" "I") (List.mem_cons_of_mem _ wq_697)
  have hl : lv_has ls 3 [(0, .ref mx)] := hl
  have hP : va_P Z.1 vwCl [(mx, .inr (7, [.int (nI th), .ref c0, .int (nI nl), .ref c1, .ref c2, .ref c3, .ref c4, .int (nI now), .ref c5, .ref c6, .ref c7, .int (nI pq), .int (nI pu), .int (nI pf), .int (nI pg), .int (nI bg), .int (nI L.length), .ref c8, .int (nI sl), .ref c9, .int (nI fb), .int (nI (bmany (B, t))), .ref c10, .int (nI t), .int (nI md), .ref c11, .int (nI tp), .int (nI tl), .int (nI tr)])), (c0, xI Z 4 v), (c1, xI Z 24 op), (c2, xI Z 24 wk), (c3, xI Z 24 on), (c4, xI Z 24 iz), (c5, xJ Z 6 wr), (c6, xI Z 6 wy), (c7, xI Z 6 gs), (c8, xI Z 700 gw), (c9, xI Z 700 sv), (c10, xI Z 80001 gb), (c11, xI Z 6 mk)] s.heap := hP
  have hD : va_D A [(mx, .inr (7, [.int (nI th), .ref c0, .int (nI nl), .ref c1, .ref c2, .ref c3, .ref c4, .int (nI now), .ref c5, .ref c6, .ref c7, .int (nI pq), .int (nI pu), .int (nI pf), .int (nI pg), .int (nI bg), .int (nI L.length), .ref c8, .int (nI sl), .ref c9, .int (nI fb), .int (nI (bmany (B, t))), .ref c10, .int (nI t), .int (nI md), .ref c11, .int (nI tp), .int (nI tl), .int (nI tr)])), (c0, xI Z 4 v), (c1, xI Z 24 op), (c2, xI Z 24 wk), (c3, xI Z 24 on), (c4, xI Z 24 iz), (c5, xJ Z 6 wr), (c6, xI Z 6 wy), (c7, xI Z 6 gs), (c8, xI Z 700 gw), (c9, xI Z 700 sv), (c10, xI Z 80001 gb), (c11, xI Z 6 mk)] := hD
  refine lv_aload_n hx hb dX7_spread_0 rfl (lv_at hl 0 rfl) ?_
  refine ln_const 0 hx hb dX7_spread_1 (by decide) ?_
  refine va_put (D := Z.1) (ci := 7) (v := .int (nI 0)) (ty := tyX7 0) (C := RX7) (T := TX7) (N := 29) hx hb hts iX7 tyX7 tyX7_ok nmX7 hown hK hP hD hS 0 rfl rfl 0 (Nat.le_of_ble_eq_true rfl) qq_674 (fun _ h9 => h9) rfl (tyX7_ok 0 (Nat.le_of_ble_eq_true rfl)) rfl rfl (Nat.le_of_ble_eq_true rfl) dX7_spread_2 (fun H locs hP hD hS => ?_)
  have hP : va_P Z.1 vwCl [(mx, .inr (7, [.int (nI 0), .ref c0, .int (nI nl), .ref c1, .ref c2, .ref c3, .ref c4, .int (nI now), .ref c5, .ref c6, .ref c7, .int (nI pq), .int (nI pu), .int (nI pf), .int (nI pg), .int (nI bg), .int (nI L.length), .ref c8, .int (nI sl), .ref c9, .int (nI fb), .int (nI (bmany (B, t))), .ref c10, .int (nI t), .int (nI md), .ref c11, .int (nI tp), .int (nI tl), .int (nI tr)])), (c0, xI Z 4 v), (c1, xI Z 24 op), (c2, xI Z 24 wk), (c3, xI Z 24 on), (c4, xI Z 24 iz), (c5, xJ Z 6 wr), (c6, xI Z 6 wy), (c7, xI Z 6 gs), (c8, xI Z 700 gw), (c9, xI Z 700 sv), (c10, xI Z 80001 gb), (c11, xI Z 6 mk)] H := hP
  have hD : va_D A [(mx, .inr (7, [.int (nI 0), .ref c0, .int (nI nl), .ref c1, .ref c2, .ref c3, .ref c4, .int (nI now), .ref c5, .ref c6, .ref c7, .int (nI pq), .int (nI pu), .int (nI pf), .int (nI pg), .int (nI bg), .int (nI L.length), .ref c8, .int (nI sl), .ref c9, .int (nI fb), .int (nI (bmany (B, t))), .ref c10, .int (nI t), .int (nI md), .ref c11, .int (nI tp), .int (nI tl), .int (nI tr)])), (c0, xI Z 4 v), (c1, xI Z 24 op), (c2, xI Z 24 wk), (c3, xI Z 24 on), (c4, xI Z 24 iz), (c5, xJ Z 6 wr), (c6, xI Z 6 wy), (c7, xI Z 6 gs), (c8, xI Z 700 gw), (c9, xI Z 700 sv), (c10, xI Z 80001 gb), (c11, xI Z 6 mk)] := hD
  refine ln_bipush 121 hx hb dX7_spread_5 (by decide) ?_
  refine lv_aload_n hx hb dX7_spread_7 rfl (lv_at hl 0 rfl) ?_
  refine va_get (D := Z.1) (ci := 7) (v := .int (nI L.length)) (C := RX7) (T := TX7) (N := 29) hx hb hts iX7 hown hK hP 0 rfl rfl 16 (Nat.le_of_ble_eq_true rfl) qq_690 (fun _ h9 => h9) rfl dX7_spread_8 ?_
  refine ln_imul (121 * L.length) hx hb dX7_spread_11 (by first | rfl | omega) ?_
  refine lv_ldc (v := nI 80000) hx hb hown qq_917 dX7_spread_12 ?_
  refine ln_icmp_le (tgt := 20) hx hb dX7_spread_14 (by decide) (by omega) (by omega) (fun h14 => ?_) (fun h14 => False.elim (by omega))
  refine lv_aload_n hx hb dX7_spread_20 rfl (lv_at hl 0 rfl) ?_
  refine ln_const 0 hx hb dX7_spread_21 (by decide) ?_
  refine va_put (D := Z.1) (ci := 7) (v := .int (nI 0)) (ty := tyX7 20) (C := RX7) (T := TX7) (N := 29) hx hb hts iX7 tyX7 tyX7_ok nmX7 hown hK hP hD hS 0 rfl rfl 20 (Nat.le_of_ble_eq_true rfl) qq_694 (fun _ h9 => h9) rfl (tyX7_ok 20 (Nat.le_of_ble_eq_true rfl)) rfl rfl (Nat.le_of_ble_eq_true rfl) dX7_spread_22 (fun H locs hP hD hS => ?_)
  have hP : va_P Z.1 vwCl [(mx, .inr (7, [.int (nI 0), .ref c0, .int (nI nl), .ref c1, .ref c2, .ref c3, .ref c4, .int (nI now), .ref c5, .ref c6, .ref c7, .int (nI pq), .int (nI pu), .int (nI pf), .int (nI pg), .int (nI bg), .int (nI L.length), .ref c8, .int (nI sl), .ref c9, .int (nI 0), .int (nI (bmany (B, t))), .ref c10, .int (nI t), .int (nI md), .ref c11, .int (nI tp), .int (nI tl), .int (nI tr)])), (c0, xI Z 4 v), (c1, xI Z 24 op), (c2, xI Z 24 wk), (c3, xI Z 24 on), (c4, xI Z 24 iz), (c5, xJ Z 6 wr), (c6, xI Z 6 wy), (c7, xI Z 6 gs), (c8, xI Z 700 gw), (c9, xI Z 700 sv), (c10, xI Z 80001 gb), (c11, xI Z 6 mk)] H := hP
  have hD : va_D A [(mx, .inr (7, [.int (nI 0), .ref c0, .int (nI nl), .ref c1, .ref c2, .ref c3, .ref c4, .int (nI now), .ref c5, .ref c6, .ref c7, .int (nI pq), .int (nI pu), .int (nI pf), .int (nI pg), .int (nI bg), .int (nI L.length), .ref c8, .int (nI sl), .ref c9, .int (nI 0), .int (nI (bmany (B, t))), .ref c10, .int (nI t), .int (nI md), .ref c11, .int (nI tp), .int (nI tl), .int (nI tr)])), (c0, xI Z 4 v), (c1, xI Z 24 op), (c2, xI Z 24 wk), (c3, xI Z 24 on), (c4, xI Z 24 iz), (c5, xJ Z 6 wr), (c6, xI Z 6 wy), (c7, xI Z 6 gs), (c8, xI Z 700 gw), (c9, xI Z 700 sv), (c10, xI Z 80001 gb), (c11, xI Z 6 mk)] := hD
  refine lv_aload_n hx hb dX7_spread_25 rfl (lv_at hl 0 rfl) ?_
  refine ln_const 0 hx hb dX7_spread_26 (by decide) ?_
  refine va_put (D := Z.1) (ci := 7) (v := .int (nI 0)) (ty := tyX7 21) (C := RX7) (T := TX7) (N := 29) hx hb hts iX7 tyX7 tyX7_ok nmX7 hown hK hP hD hS 0 rfl rfl 21 (Nat.le_of_ble_eq_true rfl) qq_695 (fun _ h9 => h9) rfl (tyX7_ok 21 (Nat.le_of_ble_eq_true rfl)) rfl rfl (Nat.le_of_ble_eq_true rfl) dX7_spread_27 (fun H locs hP hD hS => ?_)
  have hP : va_P Z.1 vwCl [(mx, .inr (7, [.int (nI 0), .ref c0, .int (nI nl), .ref c1, .ref c2, .ref c3, .ref c4, .int (nI now), .ref c5, .ref c6, .ref c7, .int (nI pq), .int (nI pu), .int (nI pf), .int (nI pg), .int (nI bg), .int (nI L.length), .ref c8, .int (nI sl), .ref c9, .int (nI 0), .int (nI 0), .ref c10, .int (nI t), .int (nI md), .ref c11, .int (nI tp), .int (nI tl), .int (nI tr)])), (c0, xI Z 4 v), (c1, xI Z 24 op), (c2, xI Z 24 wk), (c3, xI Z 24 on), (c4, xI Z 24 iz), (c5, xJ Z 6 wr), (c6, xI Z 6 wy), (c7, xI Z 6 gs), (c8, xI Z 700 gw), (c9, xI Z 700 sv), (c10, xI Z 80001 gb), (c11, xI Z 6 mk)] H := hP
  have hD : va_D A [(mx, .inr (7, [.int (nI 0), .ref c0, .int (nI nl), .ref c1, .ref c2, .ref c3, .ref c4, .int (nI now), .ref c5, .ref c6, .ref c7, .int (nI pq), .int (nI pu), .int (nI pf), .int (nI pg), .int (nI bg), .int (nI L.length), .ref c8, .int (nI sl), .ref c9, .int (nI 0), .int (nI 0), .ref c10, .int (nI t), .int (nI md), .ref c11, .int (nI tp), .int (nI tl), .int (nI tr)])), (c0, xI Z 4 v), (c1, xI Z 24 op), (c2, xI Z 24 wk), (c3, xI Z 24 on), (c4, xI Z 24 iz), (c5, xJ Z 6 wr), (c6, xI Z 6 wy), (c7, xI Z 6 gs), (c8, xI Z 700 gw), (c9, xI Z 700 sv), (c10, xI Z 80001 gb), (c11, xI Z 6 mk)] := hD
  refine lv_aload_n hx hb dX7_spread_30 rfl (lv_at hl 0 rfl) ?_
  refine ln_const 0 hx hb dX7_spread_31 (by decide) ?_
  refine va_put (D := Z.1) (ci := 7) (v := .int (nI 0)) (ty := tyX7 23) (C := RX7) (T := TX7) (N := 29) hx hb hts iX7 tyX7 tyX7_ok nmX7 hown hK hP hD hS 0 rfl rfl 23 (Nat.le_of_ble_eq_true rfl) qq_697 (fun _ h9 => h9) rfl (tyX7_ok 23 (Nat.le_of_ble_eq_true rfl)) rfl rfl (Nat.le_of_ble_eq_true rfl) dX7_spread_32 (fun H locs hP hD hS => ?_)
  have hP : va_P Z.1 vwCl [(mx, .inr (7, [.int (nI 0), .ref c0, .int (nI nl), .ref c1, .ref c2, .ref c3, .ref c4, .int (nI now), .ref c5, .ref c6, .ref c7, .int (nI pq), .int (nI pu), .int (nI pf), .int (nI pg), .int (nI bg), .int (nI L.length), .ref c8, .int (nI sl), .ref c9, .int (nI 0), .int (nI 0), .ref c10, .int (nI 0), .int (nI md), .ref c11, .int (nI tp), .int (nI tl), .int (nI tr)])), (c0, xI Z 4 v), (c1, xI Z 24 op), (c2, xI Z 24 wk), (c3, xI Z 24 on), (c4, xI Z 24 iz), (c5, xJ Z 6 wr), (c6, xI Z 6 wy), (c7, xI Z 6 gs), (c8, xI Z 700 gw), (c9, xI Z 700 sv), (c10, xI Z 80001 gb), (c11, xI Z 6 mk)] H := hP
  have hD : va_D A [(mx, .inr (7, [.int (nI 0), .ref c0, .int (nI nl), .ref c1, .ref c2, .ref c3, .ref c4, .int (nI now), .ref c5, .ref c6, .ref c7, .int (nI pq), .int (nI pu), .int (nI pf), .int (nI pg), .int (nI bg), .int (nI L.length), .ref c8, .int (nI sl), .ref c9, .int (nI 0), .int (nI 0), .ref c10, .int (nI 0), .int (nI md), .ref c11, .int (nI tp), .int (nI tl), .int (nI tr)])), (c0, xI Z 4 v), (c1, xI Z 24 op), (c2, xI Z 24 wk), (c3, xI Z 24 on), (c4, xI Z 24 iz), (c5, xJ Z 6 wr), (c6, xI Z 6 wy), (c7, xI Z 6 gs), (c8, xI Z 700 gw), (c9, xI Z 700 sv), (c10, xI Z 80001 gb), (c11, xI Z 6 mk)] := hD
  refine ln_const 0 hx hb dX7_spread_35 (by decide) ?_
  refine lv_istore_n (lv' := [(1, .int (nI 0)), (0, .ref mx)]) hx hb dX7_spread_36 rfl hl (by decide) rfl (fun ls hl => ?_)
  have hloop37 : ∀ (nn : Nat) (j n1 : Nat) (gb1 : Nat → Nat) (H : Heap) (locs : List Loc) (ls : Array Slot) (hj : j ≤ L.length) (hG : BQ 0 gb1 n1 (fun i => bitf L i)) (hn1 : n1 = 121 * j) (hmu : L.length - j < nn) (hP : va_P Z.1 vwCl [(mx, .inr (7, [.int (nI 0), .ref c0, .int (nI nl), .ref c1, .ref c2, .ref c3, .ref c4, .int (nI now), .ref c5, .ref c6, .ref c7, .int (nI pq), .int (nI pu), .int (nI pf), .int (nI pg), .int (nI bg), .int (nI L.length), .ref c8, .int (nI sl), .ref c9, .int (nI 0), .int (nI n1), .ref c10, .int (nI 0), .int (nI md), .ref c11, .int (nI tp), .int (nI tl), .int (nI tr)])), (c0, xI Z 4 v), (c1, xI Z 24 op), (c2, xI Z 24 wk), (c3, xI Z 24 on), (c4, xI Z 24 iz), (c5, xJ Z 6 wr), (c6, xI Z 6 wy), (c7, xI Z 6 gs), (c8, xI Z 700 gw), (c9, xI Z 700 sv), (c10, xI Z 80001 gb1), (c11, xI Z 6 mk)] H) (hD : va_D A [(mx, .inr (7, [.int (nI 0), .ref c0, .int (nI nl), .ref c1, .ref c2, .ref c3, .ref c4, .int (nI now), .ref c5, .ref c6, .ref c7, .int (nI pq), .int (nI pu), .int (nI pf), .int (nI pg), .int (nI bg), .int (nI L.length), .ref c8, .int (nI sl), .ref c9, .int (nI 0), .int (nI n1), .ref c10, .int (nI 0), .int (nI md), .ref c11, .int (nI tp), .int (nI tl), .int (nI tr)])), (c0, xI Z 4 v), (c1, xI Z 24 op), (c2, xI Z 24 wk), (c3, xI Z 24 on), (c4, xI Z 24 iz), (c5, xJ Z 6 wr), (c6, xI Z 6 wy), (c7, xI Z 6 gs), (c8, xI Z 700 gw), (c9, xI Z 700 sv), (c10, xI Z 80001 gb1), (c11, xI Z 6 mk)]) (hS : va_S A s.heap H locs) (hl : lv_has ls 3 [(0, .ref mx), (1, .int (nI j))]), W p l e ({ frames := 1, cells := 0, slots := 0, locals := 21 } : Room) s m args below meth c H locs 0 0 (MQ below (va_Qi (XQ mx Z (f_spread ((v, now), (nl, op, wk, on, iz), R, (pq, pu, pf, pg), L, (B, t)))) (xB Z A) A) args s ({ frames := 1, cells := 0, slots := 0, locals := 21 } : Room).cells ({ frames := 1, cells := 0, slots := 0, locals := 21 } : Room).slots A) (F0 m 37 ls []) := by
    intro nn
    induction nn with
    | zero => intro j n1 gb1 H locs ls hj hG hn1 hmu; exact absurd hmu (Nat.not_lt_zero _)
    | succ nn ih =>
      intro j n1 gb1 H locs ls hj hG hn1 hmu hP hD hS hl
      refine lv_iload_n hx hb dX7_spread_37 rfl (lv_at hl 1 rfl) ?_
      refine lv_aload_n hx hb dX7_spread_38 rfl (lv_at hl 0 rfl) ?_
      refine va_get (D := Z.1) (ci := 7) (v := .int (nI L.length)) (C := RX7) (T := TX7) (N := 29) hx hb hts iX7 hown hK hP 0 rfl rfl 16 (Nat.le_of_ble_eq_true rfl) qq_690 (fun _ h9 => h9) rfl dX7_spread_39 ?_
      refine ln_icmp_ge (tgt := 83) hx hb dX7_spread_42 (by decide) (by omega) (by omega) (fun h42 => ?_) (fun h42 => ?_)
      · refine lv_aload_n hx hb dX7_spread_83 rfl (lv_at hl 0 rfl) ?_
        refine va_get (D := Z.1) (ci := 7) (v := .int (nI n1)) (C := RX7) (T := TX7) (N := 29) hx hb hts iX7 hown hK hP 0 rfl rfl 21 (Nat.le_of_ble_eq_true rfl) qq_695 (fun _ h9 => h9) rfl dX7_spread_84 ?_
        have hb0 : bmany (L, 0) = L.length * 121 := by unfold bmany; dsimp only; omega
        have hG2 : BQ 0 gb1 (L.length * 121) (fun i => bitf L i) := by rw [show L.length * 121 = n1 by omega]; exact hG
        rw [show n1 = L.length * 121 by omega] at hP hD ⊢
        exact x_iret hC hr hk hP hD hS dX7_spread_87 (show XQ mx Z (f_spread ((v, now), (nl, op, wk, on, iz), R, (pq, pu, pf, pg), L, (B, t))) _ _ from by
            rw [show f_spread ((v, now), (nl, op, wk, on, iz), R, (pq, pu, pf, pg), L, (B, t)) = (nI (L.length * 121), ((v, now), (nl, op, wk, on, iz), R, (pq, pu, pf, pg), L, (L, 0))) from rfl]
            exact ⟨rfl, ⟨hCV, hRV, hPV, hWV, (BV.lay hWV)⟩, c0, c1, c2, c3, c4, c5, c6, c7, c8, c9, c10, c11, 0, bg, sl, 0, md, tp, tl, tr, wy, gs, gw, sv, gb1, mk, wr, hM7, hRL, (by rw [hb0]; exact hG2.congr (fun i hi => by show bitf L (i + 0 % 121) = bitf L i; rfl)), by rw [hb0]⟩)
      · refine ln_const 0 hx hb dX7_spread_45 (by decide) ?_
        refine lv_istore_n (lv' := [(2, .int (nI 0)), (0, .ref mx), (1, .int (nI j))]) hx hb dX7_spread_46 rfl hl (by decide) rfl (fun ls hl => ?_)
        have hloop47 : ∀ (nn47 : Nat) (k n3 : Nat) (gb3 : Nat → Nat) (H : Heap) (locs : List Loc) (ls : Array Slot) (hk1 : k ≤ 121) (hG3 : BQ 0 gb3 n3 (fun i => bitf L i)) (hn3 : n3 = 121 * j + k) (hmu47 : 121 - k < nn47) (hP : va_P Z.1 vwCl [(mx, .inr (7, [.int (nI 0), .ref c0, .int (nI nl), .ref c1, .ref c2, .ref c3, .ref c4, .int (nI now), .ref c5, .ref c6, .ref c7, .int (nI pq), .int (nI pu), .int (nI pf), .int (nI pg), .int (nI bg), .int (nI L.length), .ref c8, .int (nI sl), .ref c9, .int (nI 0), .int (nI n3), .ref c10, .int (nI 0), .int (nI md), .ref c11, .int (nI tp), .int (nI tl), .int (nI tr)])), (c0, xI Z 4 v), (c1, xI Z 24 op), (c2, xI Z 24 wk), (c3, xI Z 24 on), (c4, xI Z 24 iz), (c5, xJ Z 6 wr), (c6, xI Z 6 wy), (c7, xI Z 6 gs), (c8, xI Z 700 gw), (c9, xI Z 700 sv), (c10, xI Z 80001 gb3), (c11, xI Z 6 mk)] H) (hD : va_D A [(mx, .inr (7, [.int (nI 0), .ref c0, .int (nI nl), .ref c1, .ref c2, .ref c3, .ref c4, .int (nI now), .ref c5, .ref c6, .ref c7, .int (nI pq), .int (nI pu), .int (nI pf), .int (nI pg), .int (nI bg), .int (nI L.length), .ref c8, .int (nI sl), .ref c9, .int (nI 0), .int (nI n3), .ref c10, .int (nI 0), .int (nI md), .ref c11, .int (nI tp), .int (nI tl), .int (nI tr)])), (c0, xI Z 4 v), (c1, xI Z 24 op), (c2, xI Z 24 wk), (c3, xI Z 24 on), (c4, xI Z 24 iz), (c5, xJ Z 6 wr), (c6, xI Z 6 wy), (c7, xI Z 6 gs), (c8, xI Z 700 gw), (c9, xI Z 700 sv), (c10, xI Z 80001 gb3), (c11, xI Z 6 mk)]) (hS : va_S A s.heap H locs) (hl : lv_has ls 3 [(0, .ref mx), (1, .int (nI j)), (2, .int (nI k))]), W p l e ({ frames := 1, cells := 0, slots := 0, locals := 21 } : Room) s m args below meth c H locs 0 0 (MQ below (va_Qi (XQ mx Z (f_spread ((v, now), (nl, op, wk, on, iz), R, (pq, pu, pf, pg), L, (B, t)))) (xB Z A) A) args s ({ frames := 1, cells := 0, slots := 0, locals := 21 } : Room).cells ({ frames := 1, cells := 0, slots := 0, locals := 21 } : Room).slots A) (F0 m 47 ls []) := by
          intro nn47
          induction nn47 with
          | zero => intro k n3 gb3 H locs ls hk1 hG3 hn3 hmu47; exact absurd hmu47 (Nat.not_lt_zero _)
          | succ nn47 ih47 =>
            intro k n3 gb3 H locs ls hk1 hG3 hn3 hmu47 hP hD hS hl
            refine lv_iload_n hx hb dX7_spread_47 rfl (lv_at hl 2 rfl) ?_
            refine ln_bipush 121 hx hb dX7_spread_48 (by decide) ?_
            refine ln_icmp_ge (tgt := 77) hx hb dX7_spread_50 (by decide) (by omega) (by omega) (fun h50 => ?_) (fun h50 => ?_)
            · refine ln_iinc (k0 := 1) (k := 1) (j + 1) (lv' := [(1, .int (nI (j + 1))), (0, .ref mx), (2, .int (nI k))]) hx hb dX7_spread_77 hl rfl rfl (by first | rfl | omega) (by decide) rfl (fun ls hl => ?_)
              refine lv_goto (tgt := 37) hx hb dX7_spread_80 (by decide) ?_
              exact ih  (j + 1) n3 gb3 _ _ _ (by omega) hG3 (by omega) (by omega) hP hD hS (lv_sub hl [1, 0] rfl)
            · refine lv_aload_n hx hb dX7_spread_53 rfl (lv_at hl 0 rfl) ?_
              refine lv_aload_n hx hb dX7_spread_54 rfl (lv_at hl 0 rfl) ?_
              refine lv_iload_n hx hb dX7_spread_55 rfl (lv_at hl 1 rfl) ?_
              refine x_Vi (y := yX7_letterAt) (As := [.int (nI j)]) (wc := [(mx, .inr (7, [.int (nI 0), .ref c0, .int (nI nl), .ref c1, .ref c2, .ref c3, .ref c4, .int (nI now), .ref c5, .ref c6, .ref c7, .int (nI pq), .int (nI pu), .int (nI pf), .int (nI pg), .int (nI bg), .int (nI L.length), .ref c8, .int (nI sl), .ref c9, .int (nI 0), .int (nI n3), .ref c10, .int (nI 0), .int (nI md), .ref c11, .int (nI tp), .int (nI tl), .int (nI tr)])), (c0, xI Z 4 v), (c1, xI Z 24 op), (c2, xI Z 24 wk), (c3, xI Z 24 on), (c4, xI Z 24 iz), (c5, xJ Z 6 wr), (c6, xI Z 6 wy), (c7, xI Z 6 gs), (c8, xI Z 700 gw), (c9, xI Z 700 sv), (c10, xI Z 80001 gb3), (c11, xI Z 6 mk)]) (wr := []) hC hP hD hS (c_X7_letterAt l Z mx c0 c1 c2 c3 c4 c5 c6 c7 c8 c9 c10 c11 0 nl now pq pu pf pg bg L.length sl 0 n3 0 md tp tl tr v op wk on iz wy gs gw sv gb3 mk wr L hRL (rfl) (by omega) j (by omega)) (gV wq_882 wq_879 wq_881 wq_23 wq_45) rfl kv_X7_letterAt rfl rfl ⟨rfl, rfl⟩ rfl hl.1 rfl ⟨Nat.le_of_ble_eq_true rfl, Nat.le_of_ble_eq_true rfl⟩ [0, 1, 2, 3, 4, 5, 6, 7, 8, 9, 10, 11, 12] ([] : List Nat) rfl rfl (by decide) (by decide) (by decide) rfl dX7_spread_56 (fun r56 w1 H locs hw hP hD hS => ?_)
              obtain ⟨rfl, rfl⟩ := hw
              have hP : va_P Z.1 vwCl [(mx, .inr (7, [.int (nI 0), .ref c0, .int (nI nl), .ref c1, .ref c2, .ref c3, .ref c4, .int (nI now), .ref c5, .ref c6, .ref c7, .int (nI pq), .int (nI pu), .int (nI pf), .int (nI pg), .int (nI bg), .int (nI L.length), .ref c8, .int (nI sl), .ref c9, .int (nI 0), .int (nI n3), .ref c10, .int (nI 0), .int (nI md), .ref c11, .int (nI tp), .int (nI tl), .int (nI tr)])), (c0, xI Z 4 v), (c1, xI Z 24 op), (c2, xI Z 24 wk), (c3, xI Z 24 on), (c4, xI Z 24 iz), (c5, xJ Z 6 wr), (c6, xI Z 6 wy), (c7, xI Z 6 gs), (c8, xI Z 700 gw), (c9, xI Z 700 sv), (c10, xI Z 80001 gb3), (c11, xI Z 6 mk)] H := hP
              have hD : va_D A [(mx, .inr (7, [.int (nI 0), .ref c0, .int (nI nl), .ref c1, .ref c2, .ref c3, .ref c4, .int (nI now), .ref c5, .ref c6, .ref c7, .int (nI pq), .int (nI pu), .int (nI pf), .int (nI pg), .int (nI bg), .int (nI L.length), .ref c8, .int (nI sl), .ref c9, .int (nI 0), .int (nI n3), .ref c10, .int (nI 0), .int (nI md), .ref c11, .int (nI tp), .int (nI tl), .int (nI tr)])), (c0, xI Z 4 v), (c1, xI Z 24 op), (c2, xI Z 24 wk), (c3, xI Z 24 on), (c4, xI Z 24 iz), (c5, xJ Z 6 wr), (c6, xI Z 6 wy), (c7, xI Z 6 gs), (c8, xI Z 700 gw), (c9, xI Z 700 sv), (c10, xI Z 80001 gb3), (c11, xI Z 6 mk)] := hD
              have hz := hw2 _ (getD_mem (w := L) (i := j) (by omega))
              refine lv_iload_n hx hb dX7_spread_59 rfl (lv_at hl 2 rfl) ?_
              refine ln_icmp_ne (tgt := 67) hx hb dX7_spread_60 (by decide) (by omega) (by omega) (fun h60 => ?_) (fun h60 => ?_)
              · refine ln_const 0 hx hb dX7_spread_67 (by decide) ?_
                refine x_Vv (y := yX7_putBit) (As := [.int (nI 0)]) (wc := [(mx, .inr (7, [.int (nI 0), .ref c0, .int (nI nl), .ref c1, .ref c2, .ref c3, .ref c4, .int (nI now), .ref c5, .ref c6, .ref c7, .int (nI pq), .int (nI pu), .int (nI pf), .int (nI pg), .int (nI bg), .int (nI L.length), .ref c8, .int (nI sl), .ref c9, .int (nI 0), .int (nI n3), .ref c10, .int (nI 0), .int (nI md), .ref c11, .int (nI tp), .int (nI tl), .int (nI tr)])), (c0, xI Z 4 v), (c1, xI Z 24 op), (c2, xI Z 24 wk), (c3, xI Z 24 on), (c4, xI Z 24 iz), (c5, xJ Z 6 wr), (c6, xI Z 6 wy), (c7, xI Z 6 gs), (c8, xI Z 700 gw), (c9, xI Z 700 sv), (c10, xI Z 80001 gb3), (c11, xI Z 6 mk)]) (wr := []) hC hP hD hS (c_X7_putBit l Z mx c0 c1 c2 c3 c4 c5 c6 c7 c8 c9 c10 c11 0 nl now pq pu pf pg bg L.length sl 0 n3 0 md tp tl tr v op wk on iz wy gs gw sv gb3 mk wr (fun i => bitf L i) hG3 (by omega) 0 (by show bitf L n3 = _; rw [hn3, bitf_at _ _ (by omega), if_neg h60])) (gV wq_921 wq_918 wq_920 wq_26 wq_45) rfl kv_X7_putBit rfl rfl ⟨rfl, rfl⟩ rfl hl.1 rfl ⟨Nat.le_of_ble_eq_true rfl, Nat.le_of_ble_eq_true rfl⟩ [0, 1, 2, 3, 4, 5, 6, 7, 8, 9, 10, 11, 12] ([] : List Nat) rfl rfl (by decide) (by decide) (by decide) rfl dX7_spread_68 (fun w1 H locs hw hP hD hS => ?_)
                obtain ⟨gb4, hgb4, rfl⟩ := hw
                have hP : va_P Z.1 vwCl [(mx, .inr (7, [.int (nI 0), .ref c0, .int (nI nl), .ref c1, .ref c2, .ref c3, .ref c4, .int (nI now), .ref c5, .ref c6, .ref c7, .int (nI pq), .int (nI pu), .int (nI pf), .int (nI pg), .int (nI bg), .int (nI L.length), .ref c8, .int (nI sl), .ref c9, .int (nI 0), .int (nI (n3 + 1)), .ref c10, .int (nI 0), .int (nI md), .ref c11, .int (nI tp), .int (nI tl), .int (nI tr)])), (c0, xI Z 4 v), (c1, xI Z 24 op), (c2, xI Z 24 wk), (c3, xI Z 24 on), (c4, xI Z 24 iz), (c5, xJ Z 6 wr), (c6, xI Z 6 wy), (c7, xI Z 6 gs), (c8, xI Z 700 gw), (c9, xI Z 700 sv), (c10, xI Z 80001 gb4), (c11, xI Z 6 mk)] H := hP
                have hD : va_D A [(mx, .inr (7, [.int (nI 0), .ref c0, .int (nI nl), .ref c1, .ref c2, .ref c3, .ref c4, .int (nI now), .ref c5, .ref c6, .ref c7, .int (nI pq), .int (nI pu), .int (nI pf), .int (nI pg), .int (nI bg), .int (nI L.length), .ref c8, .int (nI sl), .ref c9, .int (nI 0), .int (nI (n3 + 1)), .ref c10, .int (nI 0), .int (nI md), .ref c11, .int (nI tp), .int (nI tl), .int (nI tr)])), (c0, xI Z 4 v), (c1, xI Z 24 op), (c2, xI Z 24 wk), (c3, xI Z 24 on), (c4, xI Z 24 iz), (c5, xJ Z 6 wr), (c6, xI Z 6 wy), (c7, xI Z 6 gs), (c8, xI Z 700 gw), (c9, xI Z 700 sv), (c10, xI Z 80001 gb4), (c11, xI Z 6 mk)] := hD
                refine ln_iinc (k0 := 2) (k := 1) (k + 1) (lv' := [(2, .int (nI (k + 1))), (0, .ref mx), (1, .int (nI j))]) hx hb dX7_spread_71 hl rfl rfl (by first | rfl | omega) (by decide) rfl (fun ls hl => ?_)
                refine lv_goto (tgt := 47) hx hb dX7_spread_74 (by decide) ?_
                exact ih47  (k + 1) (n3 + 1) gb4 _ _ _ (by omega) hgb4 (by omega) (by omega) hP hD hS (lv_sub hl [1, 2, 0] rfl)
              · refine ln_const 1 hx hb dX7_spread_63 (by decide) ?_
                refine lv_goto (tgt := 68) hx hb dX7_spread_64 (by decide) ?_
                refine x_Vv (y := yX7_putBit) (As := [.int (nI 1)]) (wc := [(mx, .inr (7, [.int (nI 0), .ref c0, .int (nI nl), .ref c1, .ref c2, .ref c3, .ref c4, .int (nI now), .ref c5, .ref c6, .ref c7, .int (nI pq), .int (nI pu), .int (nI pf), .int (nI pg), .int (nI bg), .int (nI L.length), .ref c8, .int (nI sl), .ref c9, .int (nI 0), .int (nI n3), .ref c10, .int (nI 0), .int (nI md), .ref c11, .int (nI tp), .int (nI tl), .int (nI tr)])), (c0, xI Z 4 v), (c1, xI Z 24 op), (c2, xI Z 24 wk), (c3, xI Z 24 on), (c4, xI Z 24 iz), (c5, xJ Z 6 wr), (c6, xI Z 6 wy), (c7, xI Z 6 gs), (c8, xI Z 700 gw), (c9, xI Z 700 sv), (c10, xI Z 80001 gb3), (c11, xI Z 6 mk)]) (wr := []) hC hP hD hS (c_X7_putBit l Z mx c0 c1 c2 c3 c4 c5 c6 c7 c8 c9 c10 c11 0 nl now pq pu pf pg bg L.length sl 0 n3 0 md tp tl tr v op wk on iz wy gs gw sv gb3 mk wr (fun i => bitf L i) hG3 (by omega) 1 (by show bitf L n3 = _; rw [hn3, bitf_at _ _ (by omega), if_pos h60])) (gV wq_921 wq_918 wq_920 wq_26 wq_45) rfl kv_X7_putBit rfl rfl ⟨rfl, rfl⟩ rfl hl.1 rfl ⟨Nat.le_of_ble_eq_true rfl, Nat.le_of_ble_eq_true rfl⟩ [0, 1, 2, 3, 4, 5, 6, 7, 8, 9, 10, 11, 12] ([] : List Nat) rfl rfl (by decide) (by decide) (by decide) rfl dX7_spread_68 (fun w1 H locs hw hP hD hS => ?_)
                obtain ⟨gb4, hgb4, rfl⟩ := hw
                have hP : va_P Z.1 vwCl [(mx, .inr (7, [.int (nI 0), .ref c0, .int (nI nl), .ref c1, .ref c2, .ref c3, .ref c4, .int (nI now), .ref c5, .ref c6, .ref c7, .int (nI pq), .int (nI pu), .int (nI pf), .int (nI pg), .int (nI bg), .int (nI L.length), .ref c8, .int (nI sl), .ref c9, .int (nI 0), .int (nI (n3 + 1)), .ref c10, .int (nI 0), .int (nI md), .ref c11, .int (nI tp), .int (nI tl), .int (nI tr)])), (c0, xI Z 4 v), (c1, xI Z 24 op), (c2, xI Z 24 wk), (c3, xI Z 24 on), (c4, xI Z 24 iz), (c5, xJ Z 6 wr), (c6, xI Z 6 wy), (c7, xI Z 6 gs), (c8, xI Z 700 gw), (c9, xI Z 700 sv), (c10, xI Z 80001 gb4), (c11, xI Z 6 mk)] H := hP
                have hD : va_D A [(mx, .inr (7, [.int (nI 0), .ref c0, .int (nI nl), .ref c1, .ref c2, .ref c3, .ref c4, .int (nI now), .ref c5, .ref c6, .ref c7, .int (nI pq), .int (nI pu), .int (nI pf), .int (nI pg), .int (nI bg), .int (nI L.length), .ref c8, .int (nI sl), .ref c9, .int (nI 0), .int (nI (n3 + 1)), .ref c10, .int (nI 0), .int (nI md), .ref c11, .int (nI tp), .int (nI tl), .int (nI tr)])), (c0, xI Z 4 v), (c1, xI Z 24 op), (c2, xI Z 24 wk), (c3, xI Z 24 on), (c4, xI Z 24 iz), (c5, xJ Z 6 wr), (c6, xI Z 6 wy), (c7, xI Z 6 gs), (c8, xI Z 700 gw), (c9, xI Z 700 sv), (c10, xI Z 80001 gb4), (c11, xI Z 6 mk)] := hD
                refine ln_iinc (k0 := 2) (k := 1) (k + 1) (lv' := [(2, .int (nI (k + 1))), (0, .ref mx), (1, .int (nI j))]) hx hb dX7_spread_71 hl rfl rfl (by first | rfl | omega) (by decide) rfl (fun ls hl => ?_)
                refine lv_goto (tgt := 47) hx hb dX7_spread_74 (by decide) ?_
                exact ih47  (k + 1) (n3 + 1) gb4 _ _ _ (by omega) hgb4 (by omega) (by omega) hP hD hS (lv_sub hl [1, 2, 0] rfl)
        exact hloop47 ((121 - 0) + 1) 0 n1 gb1 _ _ _ (Nat.zero_le _) hG (by omega) (Nat.lt_succ_self _) hP hD hS (lv_sub hl [1, 2, 0] rfl)
  exact hloop37 ((L.length - 0) + 1) 0 0 gb _ _ _ (Nat.zero_le _) (BQ.nil (by decide)) rfl (Nat.lt_succ_self _) hP hD hS (lv_sub hl [1, 0] rfl)

theorem kv_X7_cycles : yX7_cycles.cls = RX7 ∧ yX7_cycles.cls ≠ "java/lang/invoke/MethodHandle" ∧ yX7_cycles.cls ≠ "java/lang/invoke/VarHandle" ∧ (parseMethodDescriptor yX7_cycles.desc).map (fun d => d.parameters.length) = some 0 := by decide +kernel
set_option maxHeartbeats 4000000 in
set_option maxRecDepth 100000 in
theorem c_X7_cycle (l : Launch) (Z : xZ) (mx : Nat) (S : xS) (hS0 : SV S) (wx : va_W) (hw0 : MW mx S wx Z) (x1 : Int32) : xMi l Z yX7_cycle vX7_cycle ({ frames := 7, cells := 0, slots := 0, locals := 156 } : Room) [.ref mx, .int x1] wx (XQ mx Z (f_cycle S x1)) := by
  obtain ⟨⟨v, now⟩, ⟨nl, op, wk, on, iz⟩, R, ⟨pq, pu, pf, pg⟩, L, B, t⟩ := S
  obtain ⟨hCV, hRV, hPV, hWV, hBV⟩ := hS0
  obtain ⟨c0, c1, c2, c3, c4, c5, c6, c7, c8, c9, c10, c11, th, bg, sl, fb, md, tp, tl, tr, wy, gs, gw, sv, gb, mk, wr, hM7, hRL, hBQ, rfl⟩ := hw0
  have hRL1 := hRL.1
  obtain ⟨hc1, hc2, hc3, hc4⟩ := id hCV
  obtain ⟨hp1, hp2, hp3, hp4⟩ := id hPV
  obtain ⟨hw1, hw2⟩ := id hWV
  obtain ⟨hb1, hb2, hb3, hb4, hb5⟩ := id hBV
  have hbm : bmany (B, t) = 121 * B.length - t % 121 := rfl
  dsimp only at hRV hc1 hc2 hc3 hc4 hp1 hp2 hp3 hp4 hw1 hw2 hb1 hb2 hb3 hb4 hb5
  refine x_i (by decide) rfl (Nat.le_of_ble_eq_true rfl) ?_
  intro p e s m args below meth c ls A hC hr hk hl hP hD hS
  have hx := hC.1.1
  have hb := hC.1.2.1
  have hml := hC.1.2.2.1
  have hown : s.vm.findClass RX7 = some m.cls := hC.1.2.2.2.1
  have hts := hC.1.2.2.2.2
  have hK := hC.2.1
  have qq_674 := hts (Cond.fieldLink RX7 47 "TagTowerModel" "thrown" "I") (List.mem_cons_of_mem _ wq_674)
  have iX7 : ∀ w ∈ wsX70, w ∈ vX7_cycle := fun w h => List.mem_cons_of_mem _ (wi_X7 w h)
  have qq_926 := hts (Cond.constantLong RX7 180 (30000)) (List.mem_cons_of_mem _ wq_926)
  have hl : lv_has ls 3 [(0, .ref mx), (1, .int x1)] := hl
  have hP : va_P Z.1 vwCl [(mx, .inr (7, [.int (nI th), .ref c0, .int (nI nl), .ref c1, .ref c2, .ref c3, .ref c4, .int (nI now), .ref c5, .ref c6, .ref c7, .int (nI pq), .int (nI pu), .int (nI pf), .int (nI pg), .int (nI bg), .int (nI L.length), .ref c8, .int (nI sl), .ref c9, .int (nI fb), .int (nI (bmany (B, t))), .ref c10, .int (nI t), .int (nI md), .ref c11, .int (nI tp), .int (nI tl), .int (nI tr)])), (c0, xI Z 4 v), (c1, xI Z 24 op), (c2, xI Z 24 wk), (c3, xI Z 24 on), (c4, xI Z 24 iz), (c5, xJ Z 6 wr), (c6, xI Z 6 wy), (c7, xI Z 6 gs), (c8, xI Z 700 gw), (c9, xI Z 700 sv), (c10, xI Z 80001 gb), (c11, xI Z 6 mk)] s.heap := hP
  have hD : va_D A [(mx, .inr (7, [.int (nI th), .ref c0, .int (nI nl), .ref c1, .ref c2, .ref c3, .ref c4, .int (nI now), .ref c5, .ref c6, .ref c7, .int (nI pq), .int (nI pu), .int (nI pf), .int (nI pg), .int (nI bg), .int (nI L.length), .ref c8, .int (nI sl), .ref c9, .int (nI fb), .int (nI (bmany (B, t))), .ref c10, .int (nI t), .int (nI md), .ref c11, .int (nI tp), .int (nI tl), .int (nI tr)])), (c0, xI Z 4 v), (c1, xI Z 24 op), (c2, xI Z 24 wk), (c3, xI Z 24 on), (c4, xI Z 24 iz), (c5, xJ Z 6 wr), (c6, xI Z 6 wy), (c7, xI Z 6 gs), (c8, xI Z 700 gw), (c9, xI Z 700 sv), (c10, xI Z 80001 gb), (c11, xI Z 6 mk)] := hD
  refine lv_aload_n hx hb dX7_cycle_0 rfl (lv_at hl 0 rfl) ?_
  refine ln_const 0 hx hb dX7_cycle_1 (by decide) ?_
  refine va_put (D := Z.1) (ci := 7) (v := .int (nI 0)) (ty := tyX7 0) (C := RX7) (T := TX7) (N := 29) hx hb hts iX7 tyX7 tyX7_ok nmX7 hown hK hP hD hS 0 rfl rfl 0 (Nat.le_of_ble_eq_true rfl) qq_674 (fun _ h9 => h9) rfl (tyX7_ok 0 (Nat.le_of_ble_eq_true rfl)) rfl rfl (Nat.le_of_ble_eq_true rfl) dX7_cycle_2 (fun H locs hP hD hS => ?_)
  have hP : va_P Z.1 vwCl [(mx, .inr (7, [.int (nI 0), .ref c0, .int (nI nl), .ref c1, .ref c2, .ref c3, .ref c4, .int (nI now), .ref c5, .ref c6, .ref c7, .int (nI pq), .int (nI pu), .int (nI pf), .int (nI pg), .int (nI bg), .int (nI L.length), .ref c8, .int (nI sl), .ref c9, .int (nI fb), .int (nI (bmany (B, t))), .ref c10, .int (nI t), .int (nI md), .ref c11, .int (nI tp), .int (nI tl), .int (nI tr)])), (c0, xI Z 4 v), (c1, xI Z 24 op), (c2, xI Z 24 wk), (c3, xI Z 24 on), (c4, xI Z 24 iz), (c5, xJ Z 6 wr), (c6, xI Z 6 wy), (c7, xI Z 6 gs), (c8, xI Z 700 gw), (c9, xI Z 700 sv), (c10, xI Z 80001 gb), (c11, xI Z 6 mk)] H := hP
  have hD : va_D A [(mx, .inr (7, [.int (nI 0), .ref c0, .int (nI nl), .ref c1, .ref c2, .ref c3, .ref c4, .int (nI now), .ref c5, .ref c6, .ref c7, .int (nI pq), .int (nI pu), .int (nI pf), .int (nI pg), .int (nI bg), .int (nI L.length), .ref c8, .int (nI sl), .ref c9, .int (nI fb), .int (nI (bmany (B, t))), .ref c10, .int (nI t), .int (nI md), .ref c11, .int (nI tp), .int (nI tl), .int (nI tr)])), (c0, xI Z 4 v), (c1, xI Z 24 op), (c2, xI Z 24 wk), (c3, xI Z 24 on), (c4, xI Z 24 iz), (c5, xJ Z 6 wr), (c6, xI Z 6 wy), (c7, xI Z 6 gs), (c8, xI Z 700 gw), (c9, xI Z 700 sv), (c10, xI Z 80001 gb), (c11, xI Z 6 mk)] := hD
  cases hq_x1 : inQ x1 1 30000
  · refine lv_iload_n hx hb dX7_cycle_5 rfl (lv_at hl 1 rfl) ?_
    refine lv_i2l (v := (x1).toInt64) hx hb dX7_cycle_6 rfl ?_
    refine lv_lconst (v := lN 1) hx hb dX7_cycle_7 (by decide) ?_
    refine lv_ldc2 (v := lN 30000) hx hb hown qq_926 dX7_cycle_8 ?_
    refine x_Si (y := yX7_in) (As := [.long ((x1).toInt64), .long (lN 1), .long (lN 30000)]) (wc := []) (wr := [(mx, .inr (7, [.int (nI 0), .ref c0, .int (nI nl), .ref c1, .ref c2, .ref c3, .ref c4, .int (nI now), .ref c5, .ref c6, .ref c7, .int (nI pq), .int (nI pu), .int (nI pf), .int (nI pg), .int (nI bg), .int (nI L.length), .ref c8, .int (nI sl), .ref c9, .int (nI fb), .int (nI (bmany (B, t))), .ref c10, .int (nI t), .int (nI md), .ref c11, .int (nI tp), .int (nI tl), .int (nI tr)])), (c0, xI Z 4 v), (c1, xI Z 24 op), (c2, xI Z 24 wk), (c3, xI Z 24 on), (c4, xI Z 24 iz), (c5, xJ Z 6 wr), (c6, xI Z 6 wy), (c7, xI Z 6 gs), (c8, xI Z 700 gw), (c9, xI Z 700 sv), (c10, xI Z 80001 gb), (c11, xI Z 6 mk)]) hC hP hD hS (c_in_n l Z ((x1).toInt64) (lN 1) (lN 30000) (in_n hq_x1 (by decide) (by decide))) (gS wq_769 wq_767 wq_768 wq_45) rfl ks_X7_in ⟨rfl, rfl⟩ rfl hl.1 rfl ⟨Nat.le_of_ble_eq_true rfl, Nat.le_of_ble_eq_true rfl⟩ ([] : List Nat) [0, 1, 2, 3, 4, 5, 6, 7, 8, 9, 10, 11, 12] rfl rfl (by decide) (by decide) (by decide) rfl dX7_cycle_11 (fun r11 w1 H locs hw hP hD hS => ?_)
    obtain ⟨rfl, rfl⟩ := hw
    have hP : va_P Z.1 vwCl [(mx, .inr (7, [.int (nI 0), .ref c0, .int (nI nl), .ref c1, .ref c2, .ref c3, .ref c4, .int (nI now), .ref c5, .ref c6, .ref c7, .int (nI pq), .int (nI pu), .int (nI pf), .int (nI pg), .int (nI bg), .int (nI L.length), .ref c8, .int (nI sl), .ref c9, .int (nI fb), .int (nI (bmany (B, t))), .ref c10, .int (nI t), .int (nI md), .ref c11, .int (nI tp), .int (nI tl), .int (nI tr)])), (c0, xI Z 4 v), (c1, xI Z 24 op), (c2, xI Z 24 wk), (c3, xI Z 24 on), (c4, xI Z 24 iz), (c5, xJ Z 6 wr), (c6, xI Z 6 wy), (c7, xI Z 6 gs), (c8, xI Z 700 gw), (c9, xI Z 700 sv), (c10, xI Z 80001 gb), (c11, xI Z 6 mk)] H := hP
    have hD : va_D A [(mx, .inr (7, [.int (nI 0), .ref c0, .int (nI nl), .ref c1, .ref c2, .ref c3, .ref c4, .int (nI now), .ref c5, .ref c6, .ref c7, .int (nI pq), .int (nI pu), .int (nI pf), .int (nI pg), .int (nI bg), .int (nI L.length), .ref c8, .int (nI sl), .ref c9, .int (nI fb), .int (nI (bmany (B, t))), .ref c10, .int (nI t), .int (nI md), .ref c11, .int (nI tp), .int (nI tl), .int (nI tr)])), (c0, xI Z 4 v), (c1, xI Z 24 op), (c2, xI Z 24 wk), (c3, xI Z 24 on), (c4, xI Z 24 iz), (c5, xJ Z 6 wr), (c6, xI Z 6 wy), (c7, xI Z 6 gs), (c8, xI Z 700 gw), (c9, xI Z 700 sv), (c10, xI Z 80001 gb), (c11, xI Z 6 mk)] := hD
    refine ln_if_ne (tgt := 19) hx hb dX7_cycle_14 (by decide) (by omega) (fun h14 => False.elim (by omega)) (fun h14 => ?_)
    refine lv_iconst (v := (-1)) hx hb dX7_cycle_17 (by decide) ?_
    exact x_iret hC hr hk hP hD hS dX7_cycle_18 (show XQ mx Z (f_cycle ((v, now), (nl, op, wk, on, iz), R, (pq, pu, pf, pg), L, (B, t)) x1) _ _ from by
        rw [show f_cycle ((v, now), (nl, op, wk, on, iz), R, (pq, pu, pf, pg), L, (B, t)) x1 = (-1, ((v, now), (nl, op, wk, on, iz), R, (pq, pu, pf, pg), L, (B, t))) from (by simp only [f_cycle, hq_x1, Bool.and_true, Bool.true_and, Bool.and_false, Bool.false_and, Bool.and_self, if_true, Bool.false_eq_true, if_false, reduceIte])]
        exact ⟨rfl, ⟨hCV, hRV, hPV, hWV, hBV⟩, c0, c1, c2, c3, c4, c5, c6, c7, c8, c9, c10, c11, 0, bg, sl, fb, md, tp, tl, tr, wy, gs, gw, sv, gb, mk, wr, hM7, hRL, hBQ, rfl⟩)
  · obtain ⟨j1, j1a, j1b, rfl⟩ := inQ_of hq_x1 (by decide)
    refine lv_iload_n hx hb dX7_cycle_5 rfl (lv_at hl 1 rfl) ?_
    refine lv_i2l (v := (nI j1).toInt64) hx hb dX7_cycle_6 rfl ?_
    refine lv_lconst (v := lN 1) hx hb dX7_cycle_7 (by decide) ?_
    refine lv_ldc2 (v := lN 30000) hx hb hown qq_926 dX7_cycle_8 ?_
    refine x_Si (y := yX7_in) (As := [.long ((nI j1).toInt64), .long (lN 1), .long (lN 30000)]) (wc := []) (wr := [(mx, .inr (7, [.int (nI 0), .ref c0, .int (nI nl), .ref c1, .ref c2, .ref c3, .ref c4, .int (nI now), .ref c5, .ref c6, .ref c7, .int (nI pq), .int (nI pu), .int (nI pf), .int (nI pg), .int (nI bg), .int (nI L.length), .ref c8, .int (nI sl), .ref c9, .int (nI fb), .int (nI (bmany (B, t))), .ref c10, .int (nI t), .int (nI md), .ref c11, .int (nI tp), .int (nI tl), .int (nI tr)])), (c0, xI Z 4 v), (c1, xI Z 24 op), (c2, xI Z 24 wk), (c3, xI Z 24 on), (c4, xI Z 24 iz), (c5, xJ Z 6 wr), (c6, xI Z 6 wy), (c7, xI Z 6 gs), (c8, xI Z 700 gw), (c9, xI Z 700 sv), (c10, xI Z 80001 gb), (c11, xI Z 6 mk)]) hC hP hD hS (c_in_y l Z ((nI j1).toInt64) (lN 1) (lN 30000) (in_y hq_x1 (by decide) (by decide))) (gS wq_769 wq_767 wq_768 wq_45) rfl ks_X7_in ⟨rfl, rfl⟩ rfl hl.1 rfl ⟨Nat.le_of_ble_eq_true rfl, Nat.le_of_ble_eq_true rfl⟩ ([] : List Nat) [0, 1, 2, 3, 4, 5, 6, 7, 8, 9, 10, 11, 12] rfl rfl (by decide) (by decide) (by decide) rfl dX7_cycle_11 (fun r11 w1 H locs hw hP hD hS => ?_)
    obtain ⟨rfl, rfl⟩ := hw
    have hP : va_P Z.1 vwCl [(mx, .inr (7, [.int (nI 0), .ref c0, .int (nI nl), .ref c1, .ref c2, .ref c3, .ref c4, .int (nI now), .ref c5, .ref c6, .ref c7, .int (nI pq), .int (nI pu), .int (nI pf), .int (nI pg), .int (nI bg), .int (nI L.length), .ref c8, .int (nI sl), .ref c9, .int (nI fb), .int (nI (bmany (B, t))), .ref c10, .int (nI t), .int (nI md), .ref c11, .int (nI tp), .int (nI tl), .int (nI tr)])), (c0, xI Z 4 v), (c1, xI Z 24 op), (c2, xI Z 24 wk), (c3, xI Z 24 on), (c4, xI Z 24 iz), (c5, xJ Z 6 wr), (c6, xI Z 6 wy), (c7, xI Z 6 gs), (c8, xI Z 700 gw), (c9, xI Z 700 sv), (c10, xI Z 80001 gb), (c11, xI Z 6 mk)] H := hP
    have hD : va_D A [(mx, .inr (7, [.int (nI 0), .ref c0, .int (nI nl), .ref c1, .ref c2, .ref c3, .ref c4, .int (nI now), .ref c5, .ref c6, .ref c7, .int (nI pq), .int (nI pu), .int (nI pf), .int (nI pg), .int (nI bg), .int (nI L.length), .ref c8, .int (nI sl), .ref c9, .int (nI fb), .int (nI (bmany (B, t))), .ref c10, .int (nI t), .int (nI md), .ref c11, .int (nI tp), .int (nI tl), .int (nI tr)])), (c0, xI Z 4 v), (c1, xI Z 24 op), (c2, xI Z 24 wk), (c3, xI Z 24 on), (c4, xI Z 24 iz), (c5, xJ Z 6 wr), (c6, xI Z 6 wy), (c7, xI Z 6 gs), (c8, xI Z 700 gw), (c9, xI Z 700 sv), (c10, xI Z 80001 gb), (c11, xI Z 6 mk)] := hD
    refine ln_if_ne (tgt := 19) hx hb dX7_cycle_14 (by decide) (by omega) (fun h14 => ?_) (fun h14 => False.elim (by omega))
    refine ln_const 0 hx hb dX7_cycle_19 (by decide) ?_
    refine lv_istore_n (lv' := [(2, .int (nI 0)), (0, .ref mx), (1, .int (nI j1))]) hx hb dX7_cycle_20 rfl hl (by decide) rfl (fun ls hl => ?_)
    have hloop21 : ∀ (nn : Nat) (k fb1 mn1 t1 md1 : Nat) (gb1 mk1 : Nat → Nat) (B1 : List Nat) (H : Heap) (locs : List Loc) (ls : Array Slot) (hX : XR (bstep R) j1 (B, t) k (B1, t1)) (hBQ1 : BQ fb1 gb1 mn1 (BF (B1, t1))) (hmn1 : mn1 = bmany (B1, t1)) (hBV1 : BV (B1, t1)) (hmu : j1 - k < nn) (hP : va_P Z.1 vwCl [(mx, .inr (7, [.int (nI 0), .ref c0, .int (nI nl), .ref c1, .ref c2, .ref c3, .ref c4, .int (nI now), .ref c5, .ref c6, .ref c7, .int (nI pq), .int (nI pu), .int (nI pf), .int (nI pg), .int (nI bg), .int (nI L.length), .ref c8, .int (nI sl), .ref c9, .int (nI fb1), .int (nI mn1), .ref c10, .int (nI t1), .int (nI md1), .ref c11, .int (nI tp), .int (nI tl), .int (nI tr)])), (c0, xI Z 4 v), (c1, xI Z 24 op), (c2, xI Z 24 wk), (c3, xI Z 24 on), (c4, xI Z 24 iz), (c5, xJ Z 6 wr), (c6, xI Z 6 wy), (c7, xI Z 6 gs), (c8, xI Z 700 gw), (c9, xI Z 700 sv), (c10, xI Z 80001 gb1), (c11, xI Z 6 mk1)] H) (hD : va_D A [(mx, .inr (7, [.int (nI 0), .ref c0, .int (nI nl), .ref c1, .ref c2, .ref c3, .ref c4, .int (nI now), .ref c5, .ref c6, .ref c7, .int (nI pq), .int (nI pu), .int (nI pf), .int (nI pg), .int (nI bg), .int (nI L.length), .ref c8, .int (nI sl), .ref c9, .int (nI fb1), .int (nI mn1), .ref c10, .int (nI t1), .int (nI md1), .ref c11, .int (nI tp), .int (nI tl), .int (nI tr)])), (c0, xI Z 4 v), (c1, xI Z 24 op), (c2, xI Z 24 wk), (c3, xI Z 24 on), (c4, xI Z 24 iz), (c5, xJ Z 6 wr), (c6, xI Z 6 wy), (c7, xI Z 6 gs), (c8, xI Z 700 gw), (c9, xI Z 700 sv), (c10, xI Z 80001 gb1), (c11, xI Z 6 mk1)]) (hS : va_S A s.heap H locs) (hl : lv_has ls 3 [(0, .ref mx), (1, .int (nI j1)), (2, .int (nI k))]), W p l e ({ frames := 7, cells := 0, slots := 0, locals := 156 } : Room) s m args below meth c H locs 0 0 (MQ below (va_Qi (XQ mx Z (f_cycle ((v, now), (nl, op, wk, on, iz), R, (pq, pu, pf, pg), L, (B, t)) (nI j1))) (xB Z A) A) args s ({ frames := 7, cells := 0, slots := 0, locals := 156 } : Room).cells ({ frames := 7, cells := 0, slots := 0, locals := 156 } : Room).slots A) (F0 m 21 ls []) := by
      intro nn
      induction nn with
      | zero => intro k fb1 mn1 t1 md1 gb1 mk1 B1 H locs ls hX hBQ1 hmn1 hBV1 hmu; exact absurd hmu (Nat.not_lt_zero _)
      | succ nn ih =>
        intro k fb1 mn1 t1 md1 gb1 mk1 B1 H locs ls hX hBQ1 hmn1 hBV1 hmu hP hD hS hl
        have hk1 := hX.1
        refine lv_iload_n hx hb dX7_cycle_21 rfl (lv_at hl 2 rfl) ?_
        refine lv_iload_n hx hb dX7_cycle_22 rfl (lv_at hl 1 rfl) ?_
        refine ln_icmp_ge (tgt := 39) hx hb dX7_cycle_23 (by decide) (by omega) (by omega) (fun h23 => ?_) (fun h23 => ?_)
        · refine lv_iload_n hx hb dX7_cycle_39 rfl (lv_at hl 2 rfl) ?_
          have hrun := hX.full (by omega)
          exact x_iret hC hr hk hP hD hS dX7_cycle_40 (show XQ mx Z (f_cycle ((v, now), (nl, op, wk, on, iz), R, (pq, pu, pf, pg), L, (B, t)) (nI j1)) _ _ from by
              rw [show f_cycle ((v, now), (nl, op, wk, on, iz), R, (pq, pu, pf, pg), L, (B, t)) (nI j1) = (nI k, ((v, now), (nl, op, wk, on, iz), R, (pq, pu, pf, pg), L, (B1, t1))) from (by simp only [f_cycle, hq_x1, Bool.and_true, Bool.true_and, Bool.and_false, Bool.false_and, Bool.and_self, if_true, Bool.false_eq_true, if_false, reduceIte, nI_clamp (show j1 < 2147483648 by omega), hrun])]
              exact ⟨rfl, ⟨hCV, hRV, hPV, hWV, hBV1⟩, c0, c1, c2, c3, c4, c5, c6, c7, c8, c9, c10, c11, 0, bg, sl, fb1, md1, tp, tl, tr, wy, gs, gw, sv, gb1, mk1, wr, hM7, hRL, (by rw [← hmn1]; exact hBQ1), by rw [hmn1]⟩)
        · refine lv_aload_n hx hb dX7_cycle_26 rfl (lv_at hl 0 rfl) ?_
          refine x_Vi (y := yX7_cycles) (As := []) (wc := [(mx, .inr (7, [.int (nI 0), .ref c0, .int (nI nl), .ref c1, .ref c2, .ref c3, .ref c4, .int (nI now), .ref c5, .ref c6, .ref c7, .int (nI pq), .int (nI pu), .int (nI pf), .int (nI pg), .int (nI bg), .int (nI L.length), .ref c8, .int (nI sl), .ref c9, .int (nI fb1), .int (nI mn1), .ref c10, .int (nI t1), .int (nI md1), .ref c11, .int (nI tp), .int (nI tl), .int (nI tr)])), (c0, xI Z 4 v), (c1, xI Z 24 op), (c2, xI Z 24 wk), (c3, xI Z 24 on), (c4, xI Z 24 iz), (c5, xJ Z 6 wr), (c6, xI Z 6 wy), (c7, xI Z 6 gs), (c8, xI Z 700 gw), (c9, xI Z 700 sv), (c10, xI Z 80001 gb1), (c11, xI Z 6 mk1)]) (wr := []) hC hP hD hS (c_X7_cycles l Z mx c0 c1 c2 c3 c4 c5 c6 c7 c8 c9 c10 c11 0 nl now pq pu pf pg bg L.length sl fb1 mn1 t1 md1 tp tl tr v op wk on iz wy gs gw sv gb1 mk1 wr R hM7 hRV B1 hBQ1 hmn1 hBV1) (gV wq_930 wq_927 wq_929 wq_27 wq_45) rfl kv_X7_cycles rfl rfl ⟨rfl, rfl⟩ rfl hl.1 rfl ⟨Nat.le_of_ble_eq_true rfl, Nat.le_of_ble_eq_true rfl⟩ [0, 1, 2, 3, 4, 5, 6, 7, 8, 9, 10, 11, 12] ([] : List Nat) rfl rfl (by decide) (by decide) (by decide) rfl dX7_cycle_27 (fun r27 w1 H locs hw hP hD hS => ?_)
          rcases hw with ⟨hst, rfl, md2, mk2, rfl⟩ | ⟨P, fb2, gb2, md2, mk2, hst, hBQ2, rfl, rfl⟩
          · have hP : va_P Z.1 vwCl [(mx, .inr (7, [.int (nI 0), .ref c0, .int (nI nl), .ref c1, .ref c2, .ref c3, .ref c4, .int (nI now), .ref c5, .ref c6, .ref c7, .int (nI pq), .int (nI pu), .int (nI pf), .int (nI pg), .int (nI bg), .int (nI L.length), .ref c8, .int (nI sl), .ref c9, .int (nI fb1), .int (nI mn1), .ref c10, .int (nI t1), .int (nI md2), .ref c11, .int (nI tp), .int (nI tl), .int (nI tr)])), (c0, xI Z 4 v), (c1, xI Z 24 op), (c2, xI Z 24 wk), (c3, xI Z 24 on), (c4, xI Z 24 iz), (c5, xJ Z 6 wr), (c6, xI Z 6 wy), (c7, xI Z 6 gs), (c8, xI Z 700 gw), (c9, xI Z 700 sv), (c10, xI Z 80001 gb1), (c11, xI Z 6 mk2)] H := hP
            have hD : va_D A [(mx, .inr (7, [.int (nI 0), .ref c0, .int (nI nl), .ref c1, .ref c2, .ref c3, .ref c4, .int (nI now), .ref c5, .ref c6, .ref c7, .int (nI pq), .int (nI pu), .int (nI pf), .int (nI pg), .int (nI bg), .int (nI L.length), .ref c8, .int (nI sl), .ref c9, .int (nI fb1), .int (nI mn1), .ref c10, .int (nI t1), .int (nI md2), .ref c11, .int (nI tp), .int (nI tl), .int (nI tr)])), (c0, xI Z 4 v), (c1, xI Z 24 op), (c2, xI Z 24 wk), (c3, xI Z 24 on), (c4, xI Z 24 iz), (c5, xJ Z 6 wr), (c6, xI Z 6 wy), (c7, xI Z 6 gs), (c8, xI Z 700 gw), (c9, xI Z 700 sv), (c10, xI Z 80001 gb1), (c11, xI Z 6 mk2)] := hD
            refine ln_if_eq (tgt := 39) hx hb dX7_cycle_30 (by decide) (by omega) (fun h30 => ?_) (fun h30 => False.elim (by omega))
            refine lv_iload_n hx hb dX7_cycle_39 rfl (lv_at hl 2 rfl) ?_
            have hrun := hX.stop hst
            exact x_iret hC hr hk hP hD hS dX7_cycle_40 (show XQ mx Z (f_cycle ((v, now), (nl, op, wk, on, iz), R, (pq, pu, pf, pg), L, (B, t)) (nI j1)) _ _ from by
                rw [show f_cycle ((v, now), (nl, op, wk, on, iz), R, (pq, pu, pf, pg), L, (B, t)) (nI j1) = (nI k, ((v, now), (nl, op, wk, on, iz), R, (pq, pu, pf, pg), L, (B1, t1))) from (by simp only [f_cycle, hq_x1, Bool.and_true, Bool.true_and, Bool.and_false, Bool.false_and, Bool.and_self, if_true, Bool.false_eq_true, if_false, reduceIte, nI_clamp (show j1 < 2147483648 by omega), hrun])]
                exact ⟨rfl, ⟨hCV, hRV, hPV, hWV, hBV1⟩, c0, c1, c2, c3, c4, c5, c6, c7, c8, c9, c10, c11, 0, bg, sl, fb1, md2, tp, tl, tr, wy, gs, gw, sv, gb1, mk2, wr, hM7, hRL, (by rw [← hmn1]; exact hBQ1), by rw [hmn1]⟩)
          · have hP : va_P Z.1 vwCl [(mx, .inr (7, [.int (nI 0), .ref c0, .int (nI nl), .ref c1, .ref c2, .ref c3, .ref c4, .int (nI now), .ref c5, .ref c6, .ref c7, .int (nI pq), .int (nI pu), .int (nI pf), .int (nI pg), .int (nI bg), .int (nI L.length), .ref c8, .int (nI sl), .ref c9, .int (nI fb2), .int (nI (bmany P)), .ref c10, .int (nI P.2), .int (nI md2), .ref c11, .int (nI tp), .int (nI tl), .int (nI tr)])), (c0, xI Z 4 v), (c1, xI Z 24 op), (c2, xI Z 24 wk), (c3, xI Z 24 on), (c4, xI Z 24 iz), (c5, xJ Z 6 wr), (c6, xI Z 6 wy), (c7, xI Z 6 gs), (c8, xI Z 700 gw), (c9, xI Z 700 sv), (c10, xI Z 80001 gb2), (c11, xI Z 6 mk2)] H := hP
            have hD : va_D A [(mx, .inr (7, [.int (nI 0), .ref c0, .int (nI nl), .ref c1, .ref c2, .ref c3, .ref c4, .int (nI now), .ref c5, .ref c6, .ref c7, .int (nI pq), .int (nI pu), .int (nI pf), .int (nI pg), .int (nI bg), .int (nI L.length), .ref c8, .int (nI sl), .ref c9, .int (nI fb2), .int (nI (bmany P)), .ref c10, .int (nI P.2), .int (nI md2), .ref c11, .int (nI tp), .int (nI tl), .int (nI tr)])), (c0, xI Z 4 v), (c1, xI Z 24 op), (c2, xI Z 24 wk), (c3, xI Z 24 on), (c4, xI Z 24 iz), (c5, xJ Z 6 wr), (c6, xI Z 6 wy), (c7, xI Z 6 gs), (c8, xI Z 700 gw), (c9, xI Z 700 sv), (c10, xI Z 80001 gb2), (c11, xI Z 6 mk2)] := hD
            refine ln_if_eq (tgt := 39) hx hb dX7_cycle_30 (by decide) (by omega) (fun h30 => False.elim (by omega)) (fun h30 => ?_)
            refine ln_iinc (k0 := 2) (k := 1) (k + 1) (lv' := [(2, .int (nI (k + 1))), (0, .ref mx), (1, .int (nI j1))]) hx hb dX7_cycle_33 hl rfl rfl (by first | rfl | omega) (by decide) rfl (fun ls hl => ?_)
            refine lv_goto (tgt := 21) hx hb dX7_cycle_36 (by decide) ?_
            exact ih  (k + 1) fb2 (bmany P) P.2 md2 gb2 mk2 P.1 _ _ _ (hX.step (by omega) hst) hBQ2 rfl (bstep_ok hRV hBV1 hst) (by omega) hP hD hS (lv_sub hl [1, 2, 0] rfl)
    exact hloop21 ((j1 - 0) + 1) 0 fb (bmany (B, t)) t md gb mk B _ _ _ (XR.beg _ _ _) hBQ rfl hBV (Nat.lt_succ_self _) hP hD hS (lv_sub hl [1, 2, 0] rfl)
