/-- the machine's rows of rules hold R -/
def MR (R : xRl) (ru sg wy ts : Nat → Nat) : Prop := (∀ q, q < 6 → R q = none → ru q = 0) ∧ ∀ q z, q < 6 → R q = some z → ru q = 1 ∧ sg q = z.1 ∧ wy q = z.2.1 ∧ ts q = z.2.2
def rone (R : xRl) (q : Nat) : Nat := if (R q).isSome then 1 else 0
def rcount (R : xRl) : Nat := rone R 0 + rone R 1 + rone R 2 + rone R 3 + rone R 4 + rone R 5
theorem rone_up (R : xRl) (q j : Nat) (z : Option (Nat × Nat × Nat)) : rone (va_up R q z) j = if j = q then (if z.isSome then 1 else 0) else rone R j := by
  unfold rone va_up
  split <;> rfl
theorem rone_some {R : xRl} {q : Nat} {z : Nat × Nat × Nat} (h : R q = some z) : rone R q = 1 := by unfold rone; rw [h]; rfl
theorem rone_none {R : xRl} {q : Nat} (h : R q = none) : rone R q = 0 := by unfold rone; rw [h]; rfl
theorem rone_le (R : xRl) (q : Nat) : rone R q ≤ 1 := by unfold rone; split <;> omega
theorem rcount_put {R : xRl} {q : Nat} (hq : q < 6) (z : Nat × Nat × Nat) : rcount (va_up R q (some z)) + rone R q = rcount R + 1 := by
  unfold rcount
  simp only [rone_up]
  rcases (show q = 0 ∨ q = 1 ∨ q = 2 ∨ q = 3 ∨ q = 4 ∨ q = 5 by omega) with rfl | rfl | rfl | rfl | rfl | rfl <;> simp <;> omega
theorem rcount_drop {R : xRl} {q : Nat} (hq : q < 6) : rcount (va_up R q none) + rone R q = rcount R := by
  unfold rcount
  simp only [rone_up]
  rcases (show q = 0 ∨ q = 1 ∨ q = 2 ∨ q = 3 ∨ q = 4 ∨ q = 5 by omega) with rfl | rfl | rfl | rfl | rfl | rfl <;> simp <;> omega
theorem rcount_le (R : xRl) : rcount R ≤ 6 := by
  unfold rcount
  have := rone_le R 0; have := rone_le R 1; have := rone_le R 2; have := rone_le R 3; have := rone_le R 4; have := rone_le R 5
  omega
theorem MR.put {R : xRl} {ru sg wy ts : Nat → Nat} (h : MR R ru sg wy ts) (q w y t : Nat) : MR (va_up R q (some (w, y, t))) (va_up ru q 1) (va_up sg q w) (va_up wy q y) (va_up ts q t) := by
  refine ⟨fun j hj hn => ?_, fun j z hj hz => ?_⟩
  · unfold va_up at hn ⊢
    split at hn
    · cases hn
    · next e => rw [if_neg e]; exact h.1 j hj hn
  · unfold va_up at hz ⊢
    split at hz
    · next e => cases hz; simp [e]
    · next e => simp only [if_neg e]; exact h.2 j z hj hz
theorem MR.put1 {R : xRl} {ru sg wy ts : Nat → Nat} (h : MR R ru sg wy ts) (q w y t : Nat) (h1 : ru q = 1) : MR (va_up R q (some (w, y, t))) ru (va_up sg q w) (va_up wy q y) (va_up ts q t) := by
  have e : va_up ru q 1 = ru := by
    funext j
    unfold va_up
    split
    · next e => rw [e, h1]
    · rfl
  have := h.put q w y t
  rw [e] at this
  exact this
theorem MR.drop {R : xRl} {ru sg wy ts : Nat → Nat} (h : MR R ru sg wy ts) (q : Nat) : MR (va_up R q none) (va_up ru q 0) sg wy ts := by
  refine ⟨fun j hj hn => ?_, fun j z hj hz => ?_⟩
  · unfold va_up at hn ⊢
    split at hn
    · next e => rw [if_pos e]
    · next e => rw [if_neg e]; exact h.1 j hj hn
  · unfold va_up at hz ⊢
    split at hz
    · cases hz
    · next e => rw [if_neg e]; exact h.2 j z hj hz
theorem RV.put {R : xRl} (h : RV R) {q w y t : Nat} (hw : w < 2) (hy : y < 2) (ht : t < 3) : RV (va_up R q (some (w, y, t))) := by
  intro j z hz
  unfold va_up at hz
  split at hz
  · cases hz; exact ⟨hw, hy, ht⟩
  · exact h j z hz
theorem RV.drop {R : xRl} (h : RV R) (q : Nat) : RV (va_up R q none) := by
  intro j z hz
  unfold va_up at hz
  split at hz
  · cases hz
  · exact h j z hz
/-- a place of the machine -/
def PV (P : Nat × Nat × Nat × Nat) : Prop := P.1 < 3 ∧ P.2.1 < 2 ∧ P.2.2.1 ≤ 100000 ∧ P.2.2.2 ≤ 100000
theorem mstep_ok {R : xRl} (hR : RV R) {P P' : Nat × Nat × Nat × Nat} (h : PV P) (e : mstep R P = some P') : PV P' := by
  obtain ⟨q, u, f, g⟩ := P
  unfold mstep at e
  dsimp only at e
  split at e
  · cases e
  · next z hz =>
    obtain ⟨z1, z2, z3⟩ := hR _ _ hz
    obtain ⟨h1, h2, h3, h4⟩ := h
    dsimp only at h1 h2 h3 h4
    split at e
    · split at e
      · cases e; refine ⟨z3, ?_, ?_, ?_⟩ <;> dsimp only <;> omega
      · cases e
    · split at e
      · cases e; refine ⟨z3, ?_, ?_, ?_⟩ <;> dsimp only <;> omega
      · cases e

set_option maxHeartbeats 4000000 in
set_option maxRecDepth 100000 in
theorem c_X3_putRule (l : Launch) (Z : xZ) (hm a0 a1 a2 a3 : Nat) (ru sg wy ts : Nat → Nat) (rc q u f g : Nat) (R : xRl) (hM : MR R ru sg wy ts) (hrc : rc = rcount R) (j w y t : Nat) (hj : j < 6) : xMi l Z yX3_putRule vX3_putRule ({ frames := 0, cells := 0, slots := 0, locals := 0 } : Room) [.ref hm, .int (nI j), .int (nI w), .int (nI y), .int (nI t)] [(hm, .inr (3, [.ref a0, .ref a1, .ref a2, .ref a3, .int (nI rc), .int (nI q), .int (nI u), .int (nI f), .int (nI g)])), (a0, xO Z 6 ru), (a1, xI Z 6 sg), (a2, xI Z 6 wy), (a3, xI Z 6 ts)] (fun r v => ∃ ru2 sg2 wy2 ts2, MR (va_up R j (some (w, y, t))) ru2 sg2 wy2 ts2 ∧ r = nI (rcount (va_up R j (some (w, y, t)))) ∧ v = [(hm, .inr (3, [.ref a0, .ref a1, .ref a2, .ref a3, .int (nI (rcount (va_up R j (some (w, y, t))))), .int (nI q), .int (nI u), .int (nI f), .int (nI g)])), (a0, xO Z 6 ru2), (a1, xI Z 6 sg2), (a2, xI Z 6 wy2), (a3, xI Z 6 ts2)]) := by
  refine x_i (by decide) rfl (Nat.le_of_ble_eq_true rfl) ?_
  intro p e s m args below meth c ls A hC hr hk hl hP hD hS
  have hx := hC.1.1
  have hb := hC.1.2.1
  have hml := hC.1.2.2.1
  have hown : s.vm.findClass RX3 = some m.cls := hC.1.2.2.2.1
  have hts := hC.1.2.2.2.2
  have hK := hC.2.1
  have qq_89 := hts (Cond.fieldLink RX3 9 "TagTower$Machine" "ruled" "[Z") (List.mem_cons_of_mem _ wq_89)
  have iX3 : ∀ w ∈ wsX30, w ∈ vX3_putRule := fun w h => List.mem_cons_of_mem _ (wi_X3 w h)
  have qq_93 := hts (Cond.fieldLink RX3 25 "TagTower$Machine" "rules" "I") (List.mem_cons_of_mem _ wq_93)
  have qq_90 := hts (Cond.fieldLink RX3 15 "TagTower$Machine" "signs" "[I") (List.mem_cons_of_mem _ wq_90)
  have qq_91 := hts (Cond.fieldLink RX3 19 "TagTower$Machine" "ways" "[I") (List.mem_cons_of_mem _ wq_91)
  have qq_92 := hts (Cond.fieldLink RX3 22 "TagTower$Machine" "states" "[I") (List.mem_cons_of_mem _ wq_92)
  have hl : lv_has ls 5 [(0, .ref hm), (1, .int (nI j)), (2, .int (nI w)), (3, .int (nI y)), (4, .int (nI t))] := hl
  have hP : va_P Z.1 vwCl [(hm, .inr (3, [.ref a0, .ref a1, .ref a2, .ref a3, .int (nI rc), .int (nI q), .int (nI u), .int (nI f), .int (nI g)])), (a0, xO Z 6 ru), (a1, xI Z 6 sg), (a2, xI Z 6 wy), (a3, xI Z 6 ts)] s.heap := hP
  have hD : va_D A [(hm, .inr (3, [.ref a0, .ref a1, .ref a2, .ref a3, .int (nI rc), .int (nI q), .int (nI u), .int (nI f), .int (nI g)])), (a0, xO Z 6 ru), (a1, xI Z 6 sg), (a2, xI Z 6 wy), (a3, xI Z 6 ts)] := hD
  have hput := rcount_put (R := R) hj (w, y, t)
  have hle := rcount_le R
  rcases hcase : R j with _ | z
  · have hput := rcount_put (R := R) hj (w, y, t)
    have hle := rcount_le R
    refine lv_aload_n hx hb dX3_putRule_0 rfl (lv_at hl 0 rfl) ?_
    refine va_get (D := Z.1) (ci := 3) (v := .ref a0) (C := RX3) (T := TX3) (N := 9) hx hb hts iX3 hown hK hP 0 rfl rfl 0 (Nat.le_of_ble_eq_true rfl) qq_89 (fun _ h9 => h9) rfl dX3_putRule_1 ?_
    refine lv_iload_n hx hb dX3_putRule_4 rfl (lv_at hl 1 rfl) ?_
    refine ln_zald hx hb hK hP 1 rfl (by omega) (by omega) dX3_putRule_5 ?_
    refine ln_top (y := nI 0) (by rw [hM.1 j hj hcase]) ?_
    refine ln_if_ne (tgt := 26) hx hb dX3_putRule_6 (by decide) (by omega) (fun h6 => False.elim (by omega)) (fun h6 => ?_)
    refine lv_aload_n hx hb dX3_putRule_9 rfl (lv_at hl 0 rfl) ?_
    refine va_get (D := Z.1) (ci := 3) (v := .ref a0) (C := RX3) (T := TX3) (N := 9) hx hb hts iX3 hown hK hP 0 rfl rfl 0 (Nat.le_of_ble_eq_true rfl) qq_89 (fun _ h9 => h9) rfl dX3_putRule_10 ?_
    refine lv_iload_n hx hb dX3_putRule_13 rfl (lv_at hl 1 rfl) ?_
    refine ln_const 1 hx hb dX3_putRule_14 (by decide) ?_
    refine ln_zast hx hb hK hP hD hS 1 rfl (by omega) (by omega) (by omega) dX3_putRule_15 (fun H locs hP hD hS => ?_)
    have hP : va_P Z.1 vwCl [(hm, .inr (3, [.ref a0, .ref a1, .ref a2, .ref a3, .int (nI rc), .int (nI q), .int (nI u), .int (nI f), .int (nI g)])), (a0, xO Z 6 (va_up ru j 1)), (a1, xI Z 6 sg), (a2, xI Z 6 wy), (a3, xI Z 6 ts)] H := hP
    have hD : va_D A [(hm, .inr (3, [.ref a0, .ref a1, .ref a2, .ref a3, .int (nI rc), .int (nI q), .int (nI u), .int (nI f), .int (nI g)])), (a0, xO Z 6 (va_up ru j 1)), (a1, xI Z 6 sg), (a2, xI Z 6 wy), (a3, xI Z 6 ts)] := hD
    refine lv_aload_n hx hb dX3_putRule_16 rfl (lv_at hl 0 rfl) ?_
    refine lv_dup hx hb dX3_putRule_17 rfl ?_
    refine va_get (D := Z.1) (ci := 3) (v := .int (nI rc)) (C := RX3) (T := TX3) (N := 9) hx hb hts iX3 hown hK hP 0 rfl rfl 4 (Nat.le_of_ble_eq_true rfl) qq_93 (fun _ h9 => h9) rfl dX3_putRule_18 ?_
    refine ln_const 1 hx hb dX3_putRule_21 (by decide) ?_
    refine ln_iadd (rc + 1) hx hb dX3_putRule_22 (by first | rfl | omega) ?_
    refine va_put (D := Z.1) (ci := 3) (v := .int (nI (rc + 1))) (ty := tyX3 4) (C := RX3) (T := TX3) (N := 9) hx hb hts iX3 tyX3 tyX3_ok nmX3 hown hK hP hD hS 0 rfl rfl 4 (Nat.le_of_ble_eq_true rfl) qq_93 (fun _ h9 => h9) rfl (tyX3_ok 4 (Nat.le_of_ble_eq_true rfl)) rfl rfl (Nat.le_of_ble_eq_true rfl) dX3_putRule_23 (fun H locs hP hD hS => ?_)
    have hP : va_P Z.1 vwCl [(hm, .inr (3, [.ref a0, .ref a1, .ref a2, .ref a3, .int (nI (rc + 1)), .int (nI q), .int (nI u), .int (nI f), .int (nI g)])), (a0, xO Z 6 (va_up ru j 1)), (a1, xI Z 6 sg), (a2, xI Z 6 wy), (a3, xI Z 6 ts)] H := hP
    have hD : va_D A [(hm, .inr (3, [.ref a0, .ref a1, .ref a2, .ref a3, .int (nI (rc + 1)), .int (nI q), .int (nI u), .int (nI f), .int (nI g)])), (a0, xO Z 6 (va_up ru j 1)), (a1, xI Z 6 sg), (a2, xI Z 6 wy), (a3, xI Z 6 ts)] := hD
    refine lv_aload_n hx hb dX3_putRule_26 rfl (lv_at hl 0 rfl) ?_
    refine va_get (D := Z.1) (ci := 3) (v := .ref a1) (C := RX3) (T := TX3) (N := 9) hx hb hts iX3 hown hK hP 0 rfl rfl 1 (Nat.le_of_ble_eq_true rfl) qq_90 (fun _ h9 => h9) rfl dX3_putRule_27 ?_
    refine lv_iload_n hx hb dX3_putRule_30 rfl (lv_at hl 1 rfl) ?_
    refine lv_iload_n hx hb dX3_putRule_31 rfl (lv_at hl 2 rfl) ?_
    refine ln_iast hx hb hK hP hD hS 2 rfl (by omega) (by omega) dX3_putRule_32 (fun H locs hP hD hS => ?_)
    have hP : va_P Z.1 vwCl [(hm, .inr (3, [.ref a0, .ref a1, .ref a2, .ref a3, .int (nI (rc + 1)), .int (nI q), .int (nI u), .int (nI f), .int (nI g)])), (a0, xO Z 6 (va_up ru j 1)), (a1, xI Z 6 (va_up sg j w)), (a2, xI Z 6 wy), (a3, xI Z 6 ts)] H := hP
    have hD : va_D A [(hm, .inr (3, [.ref a0, .ref a1, .ref a2, .ref a3, .int (nI (rc + 1)), .int (nI q), .int (nI u), .int (nI f), .int (nI g)])), (a0, xO Z 6 (va_up ru j 1)), (a1, xI Z 6 (va_up sg j w)), (a2, xI Z 6 wy), (a3, xI Z 6 ts)] := hD
    refine lv_aload_n hx hb dX3_putRule_33 rfl (lv_at hl 0 rfl) ?_
    refine va_get (D := Z.1) (ci := 3) (v := .ref a2) (C := RX3) (T := TX3) (N := 9) hx hb hts iX3 hown hK hP 0 rfl rfl 2 (Nat.le_of_ble_eq_true rfl) qq_91 (fun _ h9 => h9) rfl dX3_putRule_34 ?_
    refine lv_iload_n hx hb dX3_putRule_37 rfl (lv_at hl 1 rfl) ?_
    refine lv_iload_n hx hb dX3_putRule_38 rfl (lv_at hl 3 rfl) ?_
    refine ln_iast hx hb hK hP hD hS 3 rfl (by omega) (by omega) dX3_putRule_39 (fun H locs hP hD hS => ?_)
    have hP : va_P Z.1 vwCl [(hm, .inr (3, [.ref a0, .ref a1, .ref a2, .ref a3, .int (nI (rc + 1)), .int (nI q), .int (nI u), .int (nI f), .int (nI g)])), (a0, xO Z 6 (va_up ru j 1)), (a1, xI Z 6 (va_up sg j w)), (a2, xI Z 6 (va_up wy j y)), (a3, xI Z 6 ts)] H := hP
    have hD : va_D A [(hm, .inr (3, [.ref a0, .ref a1, .ref a2, .ref a3, .int (nI (rc + 1)), .int (nI q), .int (nI u), .int (nI f), .int (nI g)])), (a0, xO Z 6 (va_up ru j 1)), (a1, xI Z 6 (va_up sg j w)), (a2, xI Z 6 (va_up wy j y)), (a3, xI Z 6 ts)] := hD
    refine lv_aload_n hx hb dX3_putRule_40 rfl (lv_at hl 0 rfl) ?_
    refine va_get (D := Z.1) (ci := 3) (v := .ref a3) (C := RX3) (T := TX3) (N := 9) hx hb hts iX3 hown hK hP 0 rfl rfl 3 (Nat.le_of_ble_eq_true rfl) qq_92 (fun _ h9 => h9) rfl dX3_putRule_41 ?_
    refine lv_iload_n hx hb dX3_putRule_44 rfl (lv_at hl 1 rfl) ?_
    refine lv_iload hx hb dX3_putRule_45 (lv_at hl 4 rfl) ?_
    refine ln_iast hx hb hK hP hD hS 4 rfl (by omega) (by omega) dX3_putRule_47 (fun H locs hP hD hS => ?_)
    have hP : va_P Z.1 vwCl [(hm, .inr (3, [.ref a0, .ref a1, .ref a2, .ref a3, .int (nI (rc + 1)), .int (nI q), .int (nI u), .int (nI f), .int (nI g)])), (a0, xO Z 6 (va_up ru j 1)), (a1, xI Z 6 (va_up sg j w)), (a2, xI Z 6 (va_up wy j y)), (a3, xI Z 6 (va_up ts j t))] H := hP
    have hD : va_D A [(hm, .inr (3, [.ref a0, .ref a1, .ref a2, .ref a3, .int (nI (rc + 1)), .int (nI q), .int (nI u), .int (nI f), .int (nI g)])), (a0, xO Z 6 (va_up ru j 1)), (a1, xI Z 6 (va_up sg j w)), (a2, xI Z 6 (va_up wy j y)), (a3, xI Z 6 (va_up ts j t))] := hD
    refine lv_aload_n hx hb dX3_putRule_48 rfl (lv_at hl 0 rfl) ?_
    refine va_get (D := Z.1) (ci := 3) (v := .int (nI (rc + 1))) (C := RX3) (T := TX3) (N := 9) hx hb hts iX3 hown hK hP 0 rfl rfl 4 (Nat.le_of_ble_eq_true rfl) qq_93 (fun _ h9 => h9) rfl dX3_putRule_49 ?_
    rw [rone_none hcase] at hput
    exact x_iret hC hr hk hP hD hS dX3_putRule_52 ⟨_, _, _, _, hM.put j w y t, by rw [show rc + 1 = rcount (va_up R j (some (w, y, t))) by omega], by rw [show rc + 1 = rcount (va_up R j (some (w, y, t))) by omega]⟩
  · have hput := rcount_put (R := R) hj (w, y, t)
    have hle := rcount_le R
    refine lv_aload_n hx hb dX3_putRule_0 rfl (lv_at hl 0 rfl) ?_
    refine va_get (D := Z.1) (ci := 3) (v := .ref a0) (C := RX3) (T := TX3) (N := 9) hx hb hts iX3 hown hK hP 0 rfl rfl 0 (Nat.le_of_ble_eq_true rfl) qq_89 (fun _ h9 => h9) rfl dX3_putRule_1 ?_
    refine lv_iload_n hx hb dX3_putRule_4 rfl (lv_at hl 1 rfl) ?_
    refine ln_zald hx hb hK hP 1 rfl (by omega) (by omega) dX3_putRule_5 ?_
    refine ln_top (y := nI 1) (by rw [(hM.2 j z hj hcase).1]) ?_
    refine ln_if_ne (tgt := 26) hx hb dX3_putRule_6 (by decide) (by omega) (fun h6 => ?_) (fun h6 => False.elim (by omega))
    refine lv_aload_n hx hb dX3_putRule_26 rfl (lv_at hl 0 rfl) ?_
    refine va_get (D := Z.1) (ci := 3) (v := .ref a1) (C := RX3) (T := TX3) (N := 9) hx hb hts iX3 hown hK hP 0 rfl rfl 1 (Nat.le_of_ble_eq_true rfl) qq_90 (fun _ h9 => h9) rfl dX3_putRule_27 ?_
    refine lv_iload_n hx hb dX3_putRule_30 rfl (lv_at hl 1 rfl) ?_
    refine lv_iload_n hx hb dX3_putRule_31 rfl (lv_at hl 2 rfl) ?_
    refine ln_iast hx hb hK hP hD hS 2 rfl (by omega) (by omega) dX3_putRule_32 (fun H locs hP hD hS => ?_)
    have hP : va_P Z.1 vwCl [(hm, .inr (3, [.ref a0, .ref a1, .ref a2, .ref a3, .int (nI rc), .int (nI q), .int (nI u), .int (nI f), .int (nI g)])), (a0, xO Z 6 ru), (a1, xI Z 6 (va_up sg j w)), (a2, xI Z 6 wy), (a3, xI Z 6 ts)] H := hP
    have hD : va_D A [(hm, .inr (3, [.ref a0, .ref a1, .ref a2, .ref a3, .int (nI rc), .int (nI q), .int (nI u), .int (nI f), .int (nI g)])), (a0, xO Z 6 ru), (a1, xI Z 6 (va_up sg j w)), (a2, xI Z 6 wy), (a3, xI Z 6 ts)] := hD
    refine lv_aload_n hx hb dX3_putRule_33 rfl (lv_at hl 0 rfl) ?_
    refine va_get (D := Z.1) (ci := 3) (v := .ref a2) (C := RX3) (T := TX3) (N := 9) hx hb hts iX3 hown hK hP 0 rfl rfl 2 (Nat.le_of_ble_eq_true rfl) qq_91 (fun _ h9 => h9) rfl dX3_putRule_34 ?_
    refine lv_iload_n hx hb dX3_putRule_37 rfl (lv_at hl 1 rfl) ?_
    refine lv_iload_n hx hb dX3_putRule_38 rfl (lv_at hl 3 rfl) ?_
    refine ln_iast hx hb hK hP hD hS 3 rfl (by omega) (by omega) dX3_putRule_39 (fun H locs hP hD hS => ?_)
    have hP : va_P Z.1 vwCl [(hm, .inr (3, [.ref a0, .ref a1, .ref a2, .ref a3, .int (nI rc), .int (nI q), .int (nI u), .int (nI f), .int (nI g)])), (a0, xO Z 6 ru), (a1, xI Z 6 (va_up sg j w)), (a2, xI Z 6 (va_up wy j y)), (a3, xI Z 6 ts)] H := hP
    have hD : va_D A [(hm, .inr (3, [.ref a0, .ref a1, .ref a2, .ref a3, .int (nI rc), .int (nI q), .int (nI u), .int (nI f), .int (nI g)])), (a0, xO Z 6 ru), (a1, xI Z 6 (va_up sg j w)), (a2, xI Z 6 (va_up wy j y)), (a3, xI Z 6 ts)] := hD
    refine lv_aload_n hx hb dX3_putRule_40 rfl (lv_at hl 0 rfl) ?_
    refine va_get (D := Z.1) (ci := 3) (v := .ref a3) (C := RX3) (T := TX3) (N := 9) hx hb hts iX3 hown hK hP 0 rfl rfl 3 (Nat.le_of_ble_eq_true rfl) qq_92 (fun _ h9 => h9) rfl dX3_putRule_41 ?_
    refine lv_iload_n hx hb dX3_putRule_44 rfl (lv_at hl 1 rfl) ?_
    refine lv_iload hx hb dX3_putRule_45 (lv_at hl 4 rfl) ?_
    refine ln_iast hx hb hK hP hD hS 4 rfl (by omega) (by omega) dX3_putRule_47 (fun H locs hP hD hS => ?_)
    have hP : va_P Z.1 vwCl [(hm, .inr (3, [.ref a0, .ref a1, .ref a2, .ref a3, .int (nI rc), .int (nI q), .int (nI u), .int (nI f), .int (nI g)])), (a0, xO Z 6 ru), (a1, xI Z 6 (va_up sg j w)), (a2, xI Z 6 (va_up wy j y)), (a3, xI Z 6 (va_up ts j t))] H := hP
    have hD : va_D A [(hm, .inr (3, [.ref a0, .ref a1, .ref a2, .ref a3, .int (nI rc), .int (nI q), .int (nI u), .int (nI f), .int (nI g)])), (a0, xO Z 6 ru), (a1, xI Z 6 (va_up sg j w)), (a2, xI Z 6 (va_up wy j y)), (a3, xI Z 6 (va_up ts j t))] := hD
    refine lv_aload_n hx hb dX3_putRule_48 rfl (lv_at hl 0 rfl) ?_
    refine va_get (D := Z.1) (ci := 3) (v := .int (nI rc)) (C := RX3) (T := TX3) (N := 9) hx hb hts iX3 hown hK hP 0 rfl rfl 4 (Nat.le_of_ble_eq_true rfl) qq_93 (fun _ h9 => h9) rfl dX3_putRule_49 ?_
    rw [rone_some hcase] at hput
    exact x_iret hC hr hk hP hD hS dX3_putRule_52 ⟨_, _, _, _, hM.put1 j w y t (hM.2 j z hj hcase).1, by rw [show rc = rcount (va_up R j (some (w, y, t))) by omega], by rw [show rc = rcount (va_up R j (some (w, y, t))) by omega]⟩

set_option maxHeartbeats 4000000 in
set_option maxRecDepth 100000 in
theorem c_X3_dropRule (l : Launch) (Z : xZ) (hm a0 a1 a2 a3 : Nat) (ru sg wy ts : Nat → Nat) (rc q u f g : Nat) (R : xRl) (hM : MR R ru sg wy ts) (hrc : rc = rcount R) (j : Nat) (hj : j < 6) : xMi l Z yX3_dropRule vX3_dropRule ({ frames := 0, cells := 0, slots := 0, locals := 0 } : Room) [.ref hm, .int (nI j)] [(hm, .inr (3, [.ref a0, .ref a1, .ref a2, .ref a3, .int (nI rc), .int (nI q), .int (nI u), .int (nI f), .int (nI g)])), (a0, xO Z 6 ru), (a1, xI Z 6 sg), (a2, xI Z 6 wy), (a3, xI Z 6 ts)] (fun r v => ∃ ru2, MR (va_up R j none) ru2 sg wy ts ∧ r = nI (rone R j) ∧ v = [(hm, .inr (3, [.ref a0, .ref a1, .ref a2, .ref a3, .int (nI (rcount (va_up R j none))), .int (nI q), .int (nI u), .int (nI f), .int (nI g)])), (a0, xO Z 6 ru2), (a1, xI Z 6 sg), (a2, xI Z 6 wy), (a3, xI Z 6 ts)]) := by
  refine x_i (by decide) rfl (Nat.le_of_ble_eq_true rfl) ?_
  intro p e s m args below meth c ls A hC hr hk hl hP hD hS
  have hx := hC.1.1
  have hb := hC.1.2.1
  have hml := hC.1.2.2.1
  have hown : s.vm.findClass RX3 = some m.cls := hC.1.2.2.2.1
  have hts := hC.1.2.2.2.2
  have hK := hC.2.1
  have qq_89 := hts (Cond.fieldLink RX3 9 "TagTower$Machine" "ruled" "[Z") (List.mem_cons_of_mem _ wq_89)
  have iX3 : ∀ w ∈ wsX30, w ∈ vX3_dropRule := fun w h => List.mem_cons_of_mem _ (wi_X3 w h)
  have qq_93 := hts (Cond.fieldLink RX3 25 "TagTower$Machine" "rules" "I") (List.mem_cons_of_mem _ wq_93)
  have hl : lv_has ls 2 [(0, .ref hm), (1, .int (nI j))] := hl
  have hP : va_P Z.1 vwCl [(hm, .inr (3, [.ref a0, .ref a1, .ref a2, .ref a3, .int (nI rc), .int (nI q), .int (nI u), .int (nI f), .int (nI g)])), (a0, xO Z 6 ru), (a1, xI Z 6 sg), (a2, xI Z 6 wy), (a3, xI Z 6 ts)] s.heap := hP
  have hD : va_D A [(hm, .inr (3, [.ref a0, .ref a1, .ref a2, .ref a3, .int (nI rc), .int (nI q), .int (nI u), .int (nI f), .int (nI g)])), (a0, xO Z 6 ru), (a1, xI Z 6 sg), (a2, xI Z 6 wy), (a3, xI Z 6 ts)] := hD
  have hput := rcount_drop (R := R) hj
  have hle := rcount_le R
  rcases hcase : R j with _ | z
  · have hput := rcount_drop (R := R) hj
    have hle := rcount_le R
    refine lv_aload_n hx hb dX3_dropRule_0 rfl (lv_at hl 0 rfl) ?_
    refine va_get (D := Z.1) (ci := 3) (v := .ref a0) (C := RX3) (T := TX3) (N := 9) hx hb hts iX3 hown hK hP 0 rfl rfl 0 (Nat.le_of_ble_eq_true rfl) qq_89 (fun _ h9 => h9) rfl dX3_dropRule_1 ?_
    refine lv_iload_n hx hb dX3_dropRule_4 rfl (lv_at hl 1 rfl) ?_
    refine ln_zald hx hb hK hP 1 rfl (by omega) (by omega) dX3_dropRule_5 ?_
    refine ln_top (y := nI 0) (by rw [hM.1 j hj hcase]) ?_
    refine ln_if_ne (tgt := 11) hx hb dX3_dropRule_6 (by decide) (by omega) (fun h6 => False.elim (by omega)) (fun h6 => ?_)
    refine ln_const 0 hx hb dX3_dropRule_9 (by decide) ?_
    rw [rone_none hcase] at hput
    have he : va_up R j none = R := by
      funext i
      unfold va_up
      split
      · next e => rw [e, hcase]
      · rfl
    exact x_iret hC hr hk hP hD hS dX3_dropRule_10 ⟨ru, by rw [he]; exact hM, by rw [rone_none hcase], by rw [he, hrc]⟩
  · have hput := rcount_drop (R := R) hj
    have hle := rcount_le R
    refine lv_aload_n hx hb dX3_dropRule_0 rfl (lv_at hl 0 rfl) ?_
    refine va_get (D := Z.1) (ci := 3) (v := .ref a0) (C := RX3) (T := TX3) (N := 9) hx hb hts iX3 hown hK hP 0 rfl rfl 0 (Nat.le_of_ble_eq_true rfl) qq_89 (fun _ h9 => h9) rfl dX3_dropRule_1 ?_
    refine lv_iload_n hx hb dX3_dropRule_4 rfl (lv_at hl 1 rfl) ?_
    refine ln_zald hx hb hK hP 1 rfl (by omega) (by omega) dX3_dropRule_5 ?_
    refine ln_top (y := nI 1) (by rw [(hM.2 j z hj hcase).1]) ?_
    refine ln_if_ne (tgt := 11) hx hb dX3_dropRule_6 (by decide) (by omega) (fun h6 => ?_) (fun h6 => False.elim (by omega))
    refine lv_aload_n hx hb dX3_dropRule_11 rfl (lv_at hl 0 rfl) ?_
    refine va_get (D := Z.1) (ci := 3) (v := .ref a0) (C := RX3) (T := TX3) (N := 9) hx hb hts iX3 hown hK hP 0 rfl rfl 0 (Nat.le_of_ble_eq_true rfl) qq_89 (fun _ h9 => h9) rfl dX3_dropRule_12 ?_
    refine lv_iload_n hx hb dX3_dropRule_15 rfl (lv_at hl 1 rfl) ?_
    refine ln_const 0 hx hb dX3_dropRule_16 (by decide) ?_
    refine ln_zast hx hb hK hP hD hS 1 rfl (by omega) (by omega) (by omega) dX3_dropRule_17 (fun H locs hP hD hS => ?_)
    have hP : va_P Z.1 vwCl [(hm, .inr (3, [.ref a0, .ref a1, .ref a2, .ref a3, .int (nI rc), .int (nI q), .int (nI u), .int (nI f), .int (nI g)])), (a0, xO Z 6 (va_up ru j 0)), (a1, xI Z 6 sg), (a2, xI Z 6 wy), (a3, xI Z 6 ts)] H := hP
    have hD : va_D A [(hm, .inr (3, [.ref a0, .ref a1, .ref a2, .ref a3, .int (nI rc), .int (nI q), .int (nI u), .int (nI f), .int (nI g)])), (a0, xO Z 6 (va_up ru j 0)), (a1, xI Z 6 sg), (a2, xI Z 6 wy), (a3, xI Z 6 ts)] := hD
    refine lv_aload_n hx hb dX3_dropRule_18 rfl (lv_at hl 0 rfl) ?_
    refine lv_dup hx hb dX3_dropRule_19 rfl ?_
    refine va_get (D := Z.1) (ci := 3) (v := .int (nI rc)) (C := RX3) (T := TX3) (N := 9) hx hb hts iX3 hown hK hP 0 rfl rfl 4 (Nat.le_of_ble_eq_true rfl) qq_93 (fun _ h9 => h9) rfl dX3_dropRule_20 ?_
    refine ln_const 1 hx hb dX3_dropRule_23 (by decide) ?_
    rw [rone_some hcase] at hput
    refine ln_isub (rc - 1) hx hb dX3_dropRule_24 (by omega) (by first | rfl | omega) ?_
    refine va_put (D := Z.1) (ci := 3) (v := .int (nI (rc - 1))) (ty := tyX3 4) (C := RX3) (T := TX3) (N := 9) hx hb hts iX3 tyX3 tyX3_ok nmX3 hown hK hP hD hS 0 rfl rfl 4 (Nat.le_of_ble_eq_true rfl) qq_93 (fun _ h9 => h9) rfl (tyX3_ok 4 (Nat.le_of_ble_eq_true rfl)) rfl rfl (Nat.le_of_ble_eq_true rfl) dX3_dropRule_25 (fun H locs hP hD hS => ?_)
    have hP : va_P Z.1 vwCl [(hm, .inr (3, [.ref a0, .ref a1, .ref a2, .ref a3, .int (nI (rc - 1)), .int (nI q), .int (nI u), .int (nI f), .int (nI g)])), (a0, xO Z 6 (va_up ru j 0)), (a1, xI Z 6 sg), (a2, xI Z 6 wy), (a3, xI Z 6 ts)] H := hP
    have hD : va_D A [(hm, .inr (3, [.ref a0, .ref a1, .ref a2, .ref a3, .int (nI (rc - 1)), .int (nI q), .int (nI u), .int (nI f), .int (nI g)])), (a0, xO Z 6 (va_up ru j 0)), (a1, xI Z 6 sg), (a2, xI Z 6 wy), (a3, xI Z 6 ts)] := hD
    refine ln_const 1 hx hb dX3_dropRule_28 (by decide) ?_
    exact x_iret hC hr hk hP hD hS dX3_dropRule_29 ⟨_, hM.drop j, by rw [rone_some hcase], by rw [show rc - 1 = rcount (va_up R j none) by omega]⟩

set_option maxHeartbeats 4000000 in
set_option maxRecDepth 100000 in
theorem c_X3_putPlace (l : Launch) (Z : xZ) (hm a0 a1 a2 a3 : Nat) (ru sg wy ts : Nat → Nat) (rc q u f g : Nat) (q1 u1 f1 g1 : Nat) : xMv l Z yX3_putPlace vX3_putPlace ({ frames := 0, cells := 0, slots := 0, locals := 0 } : Room) [.ref hm, .int (nI q1), .int (nI u1), .int (nI f1), .int (nI g1)] [(hm, .inr (3, [.ref a0, .ref a1, .ref a2, .ref a3, .int (nI rc), .int (nI q), .int (nI u), .int (nI f), .int (nI g)])), (a0, xO Z 6 ru), (a1, xI Z 6 sg), (a2, xI Z 6 wy), (a3, xI Z 6 ts)] (fun v => v = [(hm, .inr (3, [.ref a0, .ref a1, .ref a2, .ref a3, .int (nI rc), .int (nI q1), .int (nI u1), .int (nI f1), .int (nI g1)])), (a0, xO Z 6 ru), (a1, xI Z 6 sg), (a2, xI Z 6 wy), (a3, xI Z 6 ts)]) := by
  refine x_v (by decide) rfl (Nat.le_of_ble_eq_true rfl) ?_
  intro p e s m args below meth c ls A hC hr hk hname hl hP hD hS
  have hx := hC.1.1
  have hb := hC.1.2.1
  have hml := hC.1.2.2.1
  have hown : s.vm.findClass RX3 = some m.cls := hC.1.2.2.2.1
  have hts := hC.1.2.2.2.2
  have hK := hC.2.1
  have qq_94 := hts (Cond.fieldLink RX3 29 "TagTower$Machine" "state" "I") (List.mem_cons_of_mem _ wq_94)
  have iX3 : ∀ w ∈ wsX30, w ∈ vX3_putPlace := fun w h => List.mem_cons_of_mem _ (wi_X3 w h)
  have qq_96 := hts (Cond.fieldLink RX3 32 "TagTower$Machine" "sign" "I") (List.mem_cons_of_mem _ wq_96)
  have qq_98 := hts (Cond.fieldLink RX3 35 "TagTower$Machine" "left" "I") (List.mem_cons_of_mem _ wq_98)
  have qq_100 := hts (Cond.fieldLink RX3 38 "TagTower$Machine" "right" "I") (List.mem_cons_of_mem _ wq_100)
  have hl : lv_has ls 5 [(0, .ref hm), (1, .int (nI q1)), (2, .int (nI u1)), (3, .int (nI f1)), (4, .int (nI g1))] := hl
  have hP : va_P Z.1 vwCl [(hm, .inr (3, [.ref a0, .ref a1, .ref a2, .ref a3, .int (nI rc), .int (nI q), .int (nI u), .int (nI f), .int (nI g)])), (a0, xO Z 6 ru), (a1, xI Z 6 sg), (a2, xI Z 6 wy), (a3, xI Z 6 ts)] s.heap := hP
  have hD : va_D A [(hm, .inr (3, [.ref a0, .ref a1, .ref a2, .ref a3, .int (nI rc), .int (nI q), .int (nI u), .int (nI f), .int (nI g)])), (a0, xO Z 6 ru), (a1, xI Z 6 sg), (a2, xI Z 6 wy), (a3, xI Z 6 ts)] := hD
  refine lv_aload_n hx hb dX3_putPlace_0 rfl (lv_at hl 0 rfl) ?_
  refine lv_iload_n hx hb dX3_putPlace_1 rfl (lv_at hl 1 rfl) ?_
  refine va_put (D := Z.1) (ci := 3) (v := .int (nI q1)) (ty := tyX3 5) (C := RX3) (T := TX3) (N := 9) hx hb hts iX3 tyX3 tyX3_ok nmX3 hown hK hP hD hS 0 rfl rfl 5 (Nat.le_of_ble_eq_true rfl) qq_94 (fun _ h9 => h9) rfl (tyX3_ok 5 (Nat.le_of_ble_eq_true rfl)) rfl rfl (Nat.le_of_ble_eq_true rfl) dX3_putPlace_2 (fun H locs hP hD hS => ?_)
  have hP : va_P Z.1 vwCl [(hm, .inr (3, [.ref a0, .ref a1, .ref a2, .ref a3, .int (nI rc), .int (nI q1), .int (nI u), .int (nI f), .int (nI g)])), (a0, xO Z 6 ru), (a1, xI Z 6 sg), (a2, xI Z 6 wy), (a3, xI Z 6 ts)] H := hP
  have hD : va_D A [(hm, .inr (3, [.ref a0, .ref a1, .ref a2, .ref a3, .int (nI rc), .int (nI q1), .int (nI u), .int (nI f), .int (nI g)])), (a0, xO Z 6 ru), (a1, xI Z 6 sg), (a2, xI Z 6 wy), (a3, xI Z 6 ts)] := hD
  refine lv_aload_n hx hb dX3_putPlace_5 rfl (lv_at hl 0 rfl) ?_
  refine lv_iload_n hx hb dX3_putPlace_6 rfl (lv_at hl 2 rfl) ?_
  refine va_put (D := Z.1) (ci := 3) (v := .int (nI u1)) (ty := tyX3 6) (C := RX3) (T := TX3) (N := 9) hx hb hts iX3 tyX3 tyX3_ok nmX3 hown hK hP hD hS 0 rfl rfl 6 (Nat.le_of_ble_eq_true rfl) qq_96 (fun _ h9 => h9) rfl (tyX3_ok 6 (Nat.le_of_ble_eq_true rfl)) rfl rfl (Nat.le_of_ble_eq_true rfl) dX3_putPlace_7 (fun H locs hP hD hS => ?_)
  have hP : va_P Z.1 vwCl [(hm, .inr (3, [.ref a0, .ref a1, .ref a2, .ref a3, .int (nI rc), .int (nI q1), .int (nI u1), .int (nI f), .int (nI g)])), (a0, xO Z 6 ru), (a1, xI Z 6 sg), (a2, xI Z 6 wy), (a3, xI Z 6 ts)] H := hP
  have hD : va_D A [(hm, .inr (3, [.ref a0, .ref a1, .ref a2, .ref a3, .int (nI rc), .int (nI q1), .int (nI u1), .int (nI f), .int (nI g)])), (a0, xO Z 6 ru), (a1, xI Z 6 sg), (a2, xI Z 6 wy), (a3, xI Z 6 ts)] := hD
  refine lv_aload_n hx hb dX3_putPlace_10 rfl (lv_at hl 0 rfl) ?_
  refine lv_iload_n hx hb dX3_putPlace_11 rfl (lv_at hl 3 rfl) ?_
  refine va_put (D := Z.1) (ci := 3) (v := .int (nI f1)) (ty := tyX3 7) (C := RX3) (T := TX3) (N := 9) hx hb hts iX3 tyX3 tyX3_ok nmX3 hown hK hP hD hS 0 rfl rfl 7 (Nat.le_of_ble_eq_true rfl) qq_98 (fun _ h9 => h9) rfl (tyX3_ok 7 (Nat.le_of_ble_eq_true rfl)) rfl rfl (Nat.le_of_ble_eq_true rfl) dX3_putPlace_12 (fun H locs hP hD hS => ?_)
  have hP : va_P Z.1 vwCl [(hm, .inr (3, [.ref a0, .ref a1, .ref a2, .ref a3, .int (nI rc), .int (nI q1), .int (nI u1), .int (nI f1), .int (nI g)])), (a0, xO Z 6 ru), (a1, xI Z 6 sg), (a2, xI Z 6 wy), (a3, xI Z 6 ts)] H := hP
  have hD : va_D A [(hm, .inr (3, [.ref a0, .ref a1, .ref a2, .ref a3, .int (nI rc), .int (nI q1), .int (nI u1), .int (nI f1), .int (nI g)])), (a0, xO Z 6 ru), (a1, xI Z 6 sg), (a2, xI Z 6 wy), (a3, xI Z 6 ts)] := hD
  refine lv_aload_n hx hb dX3_putPlace_15 rfl (lv_at hl 0 rfl) ?_
  refine lv_iload hx hb dX3_putPlace_16 (lv_at hl 4 rfl) ?_
  refine va_put (D := Z.1) (ci := 3) (v := .int (nI g1)) (ty := tyX3 8) (C := RX3) (T := TX3) (N := 9) hx hb hts iX3 tyX3 tyX3_ok nmX3 hown hK hP hD hS 0 rfl rfl 8 (Nat.le_of_ble_eq_true rfl) qq_100 (fun _ h9 => h9) rfl (tyX3_ok 8 (Nat.le_of_ble_eq_true rfl)) rfl rfl (Nat.le_of_ble_eq_true rfl) dX3_putPlace_18 (fun H locs hP hD hS => ?_)
  have hP : va_P Z.1 vwCl [(hm, .inr (3, [.ref a0, .ref a1, .ref a2, .ref a3, .int (nI rc), .int (nI q1), .int (nI u1), .int (nI f1), .int (nI g1)])), (a0, xO Z 6 ru), (a1, xI Z 6 sg), (a2, xI Z 6 wy), (a3, xI Z 6 ts)] H := hP
  have hD : va_D A [(hm, .inr (3, [.ref a0, .ref a1, .ref a2, .ref a3, .int (nI rc), .int (nI q1), .int (nI u1), .int (nI f1), .int (nI g1)])), (a0, xO Z 6 ru), (a1, xI Z 6 sg), (a2, xI Z 6 wy), (a3, xI Z 6 ts)] := hD
  exact x_vret hC hr hk hP hD hS dX3_putPlace_21 (rfl)

theorem ks_X6_pairOf : yX6_pairOf.cls ≠ "java/lang/invoke/MethodHandle" ∧ yX6_pairOf.cls ≠ "java/lang/invoke/VarHandle" ∧ (parseMethodDescriptor yX6_pairOf.desc).map (fun d => d.parameters.length) = some 2 := by decide +kernel
set_option maxHeartbeats 4000000 in
set_option maxRecDepth 100000 in
theorem c_X3_isStill (l : Launch) (Z : xZ) (hm a0 a1 a2 a3 : Nat) (ru sg wy ts : Nat → Nat) (rc q u f g : Nat) (R : xRl) (hV : RV R) (hM : MR R ru sg wy ts) (hP0 : PV (q, u, f, g)) : xMi l Z yX3_isStill vX3_isStill ({ frames := 1, cells := 0, slots := 0, locals := 21 } : Room) [.ref hm] [(hm, .inr (3, [.ref a0, .ref a1, .ref a2, .ref a3, .int (nI rc), .int (nI q), .int (nI u), .int (nI f), .int (nI g)])), (a0, xO Z 6 ru), (a1, xI Z 6 sg), (a2, xI Z 6 wy), (a3, xI Z 6 ts)] (fun r v => r = nI (1 - rone R (2 * q + u)) ∧ v = [(hm, .inr (3, [.ref a0, .ref a1, .ref a2, .ref a3, .int (nI rc), .int (nI q), .int (nI u), .int (nI f), .int (nI g)])), (a0, xO Z 6 ru), (a1, xI Z 6 sg), (a2, xI Z 6 wy), (a3, xI Z 6 ts)]) := by
  refine x_i (by decide) rfl (Nat.le_of_ble_eq_true rfl) ?_
  intro p e s m args below meth c ls A hC hr hk hl hP hD hS
  have hx := hC.1.1
  have hb := hC.1.2.1
  have hml := hC.1.2.2.1
  have hown : s.vm.findClass RX3 = some m.cls := hC.1.2.2.2.1
  have hts := hC.1.2.2.2.2
  have hK := hC.2.1
  have qq_89 := hts (Cond.fieldLink RX3 9 "TagTower$Machine" "ruled" "[Z") (List.mem_cons_of_mem _ wq_89)
  have iX3 : ∀ w ∈ wsX30, w ∈ vX3_isStill := fun w h => List.mem_cons_of_mem _ (wi_X3 w h)
  have qq_94 := hts (Cond.fieldLink RX3 29 "TagTower$Machine" "state" "I") (List.mem_cons_of_mem _ wq_94)
  have qq_96 := hts (Cond.fieldLink RX3 32 "TagTower$Machine" "sign" "I") (List.mem_cons_of_mem _ wq_96)
  have qq_32 := hts (Cond.initialized RX6) (List.mem_cons_of_mem _ wq_32)
  have qq_252 := hts (Cond.static yX6_pairOf) (List.mem_cons_of_mem _ wq_252)
  have qn_41 := hC.2.2.2.1.1 (RX3, 41, yX6_pairOf, RX6) (List.mem_of_getElem? (i := 6) rfl)
  have hl : lv_has ls 1 [(0, .ref hm)] := hl
  have hP : va_P Z.1 vwCl [(hm, .inr (3, [.ref a0, .ref a1, .ref a2, .ref a3, .int (nI rc), .int (nI q), .int (nI u), .int (nI f), .int (nI g)])), (a0, xO Z 6 ru), (a1, xI Z 6 sg), (a2, xI Z 6 wy), (a3, xI Z 6 ts)] s.heap := hP
  have hD : va_D A [(hm, .inr (3, [.ref a0, .ref a1, .ref a2, .ref a3, .int (nI rc), .int (nI q), .int (nI u), .int (nI f), .int (nI g)])), (a0, xO Z 6 ru), (a1, xI Z 6 sg), (a2, xI Z 6 wy), (a3, xI Z 6 ts)] := hD
  obtain ⟨hq1, hq2, hq3, hq4⟩ := id hP0
  dsimp only at hq1 hq2 hq3 hq4
  rcases hcase : R (2 * q + u) with _ | z
  · obtain ⟨hq1, hq2, hq3, hq4⟩ := id hP0
    dsimp only at hq1 hq2 hq3 hq4
    refine lv_aload_n hx hb dX3_isStill_0 rfl (lv_at hl 0 rfl) ?_
    refine va_get (D := Z.1) (ci := 3) (v := .ref a0) (C := RX3) (T := TX3) (N := 9) hx hb hts iX3 hown hK hP 0 rfl rfl 0 (Nat.le_of_ble_eq_true rfl) qq_89 (fun _ h9 => h9) rfl dX3_isStill_1 ?_
    refine lv_aload_n hx hb dX3_isStill_4 rfl (lv_at hl 0 rfl) ?_
    refine va_get (D := Z.1) (ci := 3) (v := .int (nI q)) (C := RX3) (T := TX3) (N := 9) hx hb hts iX3 hown hK hP 0 rfl rfl 5 (Nat.le_of_ble_eq_true rfl) qq_94 (fun _ h9 => h9) rfl dX3_isStill_5 ?_
    refine lv_aload_n hx hb dX3_isStill_8 rfl (lv_at hl 0 rfl) ?_
    refine va_get (D := Z.1) (ci := 3) (v := .int (nI u)) (C := RX3) (T := TX3) (N := 9) hx hb hts iX3 hown hK hP 0 rfl rfl 6 (Nat.le_of_ble_eq_true rfl) qq_96 (fun _ h9 => h9) rfl dX3_isStill_9 ?_
    refine x_SNi (y := yX6_pairOf) (As := [.int (nI q), .int (nI u)]) (wc := []) (wr := [(hm, .inr (3, [.ref a0, .ref a1, .ref a2, .ref a3, .int (nI rc), .int (nI q), .int (nI u), .int (nI f), .int (nI g)])), (a0, xO Z 6 ru), (a1, xI Z 6 sg), (a2, xI Z 6 wy), (a3, xI Z 6 ts)]) hC hP hD hS (c_X6_pairOf l Z q u) (gCo wq_253) qn_41 qq_32 qq_252 rfl ks_X6_pairOf ⟨rfl, rfl⟩ rfl hl.1 rfl ⟨Nat.le_of_ble_eq_true rfl, Nat.le_of_ble_eq_true rfl⟩ ([] : List Nat) [0, 1, 2, 3, 4] rfl rfl (by decide) (by decide) (by decide) rfl dX3_isStill_12 (fun r12 w1 H locs hw hP hD hS => ?_)
    obtain ⟨rfl, rfl⟩ := hw
    have hP : va_P Z.1 vwCl [(hm, .inr (3, [.ref a0, .ref a1, .ref a2, .ref a3, .int (nI rc), .int (nI q), .int (nI u), .int (nI f), .int (nI g)])), (a0, xO Z 6 ru), (a1, xI Z 6 sg), (a2, xI Z 6 wy), (a3, xI Z 6 ts)] H := hP
    have hD : va_D A [(hm, .inr (3, [.ref a0, .ref a1, .ref a2, .ref a3, .int (nI rc), .int (nI q), .int (nI u), .int (nI f), .int (nI g)])), (a0, xO Z 6 ru), (a1, xI Z 6 sg), (a2, xI Z 6 wy), (a3, xI Z 6 ts)] := hD
    refine ln_zald hx hb hK hP 1 rfl (by omega) (by omega) dX3_isStill_15 ?_
    refine ln_top (y := nI 0) (by rw [hM.1 _ (by omega) hcase]) ?_
    refine ln_if_ne (tgt := 23) hx hb dX3_isStill_16 (by decide) (by omega) (fun h16 => False.elim (by omega)) (fun h16 => ?_)
    refine ln_const 1 hx hb dX3_isStill_19 (by decide) ?_
    refine lv_goto (tgt := 24) hx hb dX3_isStill_20 (by decide) ?_
    exact x_zret hC hr rfl hk hP hD hS dX3_isStill_24 ⟨by rw [rone_none hcase], rfl⟩
  · obtain ⟨hq1, hq2, hq3, hq4⟩ := id hP0
    dsimp only at hq1 hq2 hq3 hq4
    refine lv_aload_n hx hb dX3_isStill_0 rfl (lv_at hl 0 rfl) ?_
    refine va_get (D := Z.1) (ci := 3) (v := .ref a0) (C := RX3) (T := TX3) (N := 9) hx hb hts iX3 hown hK hP 0 rfl rfl 0 (Nat.le_of_ble_eq_true rfl) qq_89 (fun _ h9 => h9) rfl dX3_isStill_1 ?_
    refine lv_aload_n hx hb dX3_isStill_4 rfl (lv_at hl 0 rfl) ?_
    refine va_get (D := Z.1) (ci := 3) (v := .int (nI q)) (C := RX3) (T := TX3) (N := 9) hx hb hts iX3 hown hK hP 0 rfl rfl 5 (Nat.le_of_ble_eq_true rfl) qq_94 (fun _ h9 => h9) rfl dX3_isStill_5 ?_
    refine lv_aload_n hx hb dX3_isStill_8 rfl (lv_at hl 0 rfl) ?_
    refine va_get (D := Z.1) (ci := 3) (v := .int (nI u)) (C := RX3) (T := TX3) (N := 9) hx hb hts iX3 hown hK hP 0 rfl rfl 6 (Nat.le_of_ble_eq_true rfl) qq_96 (fun _ h9 => h9) rfl dX3_isStill_9 ?_
    refine x_SNi (y := yX6_pairOf) (As := [.int (nI q), .int (nI u)]) (wc := []) (wr := [(hm, .inr (3, [.ref a0, .ref a1, .ref a2, .ref a3, .int (nI rc), .int (nI q), .int (nI u), .int (nI f), .int (nI g)])), (a0, xO Z 6 ru), (a1, xI Z 6 sg), (a2, xI Z 6 wy), (a3, xI Z 6 ts)]) hC hP hD hS (c_X6_pairOf l Z q u) (gCo wq_253) qn_41 qq_32 qq_252 rfl ks_X6_pairOf ⟨rfl, rfl⟩ rfl hl.1 rfl ⟨Nat.le_of_ble_eq_true rfl, Nat.le_of_ble_eq_true rfl⟩ ([] : List Nat) [0, 1, 2, 3, 4] rfl rfl (by decide) (by decide) (by decide) rfl dX3_isStill_12 (fun r12 w1 H locs hw hP hD hS => ?_)
    obtain ⟨rfl, rfl⟩ := hw
    have hP : va_P Z.1 vwCl [(hm, .inr (3, [.ref a0, .ref a1, .ref a2, .ref a3, .int (nI rc), .int (nI q), .int (nI u), .int (nI f), .int (nI g)])), (a0, xO Z 6 ru), (a1, xI Z 6 sg), (a2, xI Z 6 wy), (a3, xI Z 6 ts)] H := hP
    have hD : va_D A [(hm, .inr (3, [.ref a0, .ref a1, .ref a2, .ref a3, .int (nI rc), .int (nI q), .int (nI u), .int (nI f), .int (nI g)])), (a0, xO Z 6 ru), (a1, xI Z 6 sg), (a2, xI Z 6 wy), (a3, xI Z 6 ts)] := hD
    refine ln_zald hx hb hK hP 1 rfl (by omega) (by omega) dX3_isStill_15 ?_
    refine ln_top (y := nI 1) (by rw [(hM.2 _ z (by omega) hcase).1]) ?_
    refine ln_if_ne (tgt := 23) hx hb dX3_isStill_16 (by decide) (by omega) (fun h16 => ?_) (fun h16 => False.elim (by omega))
    refine ln_const 0 hx hb dX3_isStill_23 (by decide) ?_
    exact x_zret hC hr rfl hk hP hD hS dX3_isStill_24 ⟨by rw [rone_some hcase], rfl⟩

theorem kv_X3_isStill : yX3_isStill.cls = RX3 ∧ yX3_isStill.cls ≠ "java/lang/invoke/MethodHandle" ∧ yX3_isStill.cls ≠ "java/lang/invoke/VarHandle" ∧ (parseMethodDescriptor yX3_isStill.desc).map (fun d => d.parameters.length) = some 0 := by decide +kernel
set_option maxHeartbeats 4000000 in
set_option maxRecDepth 100000 in
theorem c_X3_doStep (l : Launch) (Z : xZ) (hm a0 a1 a2 a3 : Nat) (ru sg wy ts : Nat → Nat) (rc q u f g : Nat) (R : xRl) (hV : RV R) (hM : MR R ru sg wy ts) (hP0 : PV (q, u, f, g)) : xMi l Z yX3_doStep vX3_doStep ({ frames := 2, cells := 0, slots := 0, locals := 41 } : Room) [.ref hm] [(hm, .inr (3, [.ref a0, .ref a1, .ref a2, .ref a3, .int (nI rc), .int (nI q), .int (nI u), .int (nI f), .int (nI g)])), (a0, xO Z 6 ru), (a1, xI Z 6 sg), (a2, xI Z 6 wy), (a3, xI Z 6 ts)] (fun r v => (mstep R (q, u, f, g) = none ∧ r = nI 0 ∧ v = [(hm, .inr (3, [.ref a0, .ref a1, .ref a2, .ref a3, .int (nI rc), .int (nI q), .int (nI u), .int (nI f), .int (nI g)])), (a0, xO Z 6 ru), (a1, xI Z 6 sg), (a2, xI Z 6 wy), (a3, xI Z 6 ts)]) ∨ (∃ P, mstep R (q, u, f, g) = some P ∧ r = nI 1 ∧ v = [(hm, .inr (3, [.ref a0, .ref a1, .ref a2, .ref a3, .int (nI rc), .int (nI P.1), .int (nI P.2.1), .int (nI P.2.2.1), .int (nI P.2.2.2)])), (a0, xO Z 6 ru), (a1, xI Z 6 sg), (a2, xI Z 6 wy), (a3, xI Z 6 ts)])) := by
  refine x_i (by decide) rfl (Nat.le_of_ble_eq_true rfl) ?_
  intro p e s m args below meth c ls A hC hr hk hl hP hD hS
  have hx := hC.1.1
  have hb := hC.1.2.1
  have hml := hC.1.2.2.1
  have hown : s.vm.findClass RX3 = some m.cls := hC.1.2.2.2.1
  have hts := hC.1.2.2.2.2
  have hK := hC.2.1
  have qq_94 := hts (Cond.fieldLink RX3 29 "TagTower$Machine" "state" "I") (List.mem_cons_of_mem _ wq_94)
  have iX3 : ∀ w ∈ wsX30, w ∈ vX3_doStep := fun w h => List.mem_cons_of_mem _ (wi_X3 w h)
  have qq_96 := hts (Cond.fieldLink RX3 32 "TagTower$Machine" "sign" "I") (List.mem_cons_of_mem _ wq_96)
  have qq_32 := hts (Cond.initialized RX6) (List.mem_cons_of_mem _ wq_32)
  have qq_252 := hts (Cond.static yX6_pairOf) (List.mem_cons_of_mem _ wq_252)
  have qn_41 := hC.2.2.2.1.1 (RX3, 41, yX6_pairOf, RX6) (List.mem_of_getElem? (i := 6) rfl)
  have qq_91 := hts (Cond.fieldLink RX3 19 "TagTower$Machine" "ways" "[I") (List.mem_cons_of_mem _ wq_91)
  have qq_100 := hts (Cond.fieldLink RX3 38 "TagTower$Machine" "right" "I") (List.mem_cons_of_mem _ wq_100)
  have qq_90 := hts (Cond.fieldLink RX3 15 "TagTower$Machine" "signs" "[I") (List.mem_cons_of_mem _ wq_90)
  have qq_98 := hts (Cond.fieldLink RX3 35 "TagTower$Machine" "left" "I") (List.mem_cons_of_mem _ wq_98)
  have qq_458 := hts (Cond.constant RX3 52 (100000)) (List.mem_cons_of_mem _ wq_458)
  have qq_92 := hts (Cond.fieldLink RX3 22 "TagTower$Machine" "states" "[I") (List.mem_cons_of_mem _ wq_92)
  have hl : lv_has ls 5 [(0, .ref hm)] := hl
  have hP : va_P Z.1 vwCl [(hm, .inr (3, [.ref a0, .ref a1, .ref a2, .ref a3, .int (nI rc), .int (nI q), .int (nI u), .int (nI f), .int (nI g)])), (a0, xO Z 6 ru), (a1, xI Z 6 sg), (a2, xI Z 6 wy), (a3, xI Z 6 ts)] s.heap := hP
  have hD : va_D A [(hm, .inr (3, [.ref a0, .ref a1, .ref a2, .ref a3, .int (nI rc), .int (nI q), .int (nI u), .int (nI f), .int (nI g)])), (a0, xO Z 6 ru), (a1, xI Z 6 sg), (a2, xI Z 6 wy), (a3, xI Z 6 ts)] := hD
  obtain ⟨hq1, hq2, hq3, hq4⟩ := id hP0
  dsimp only at hq1 hq2 hq3 hq4
  rcases hcase : R (2 * q + u) with _ | ⟨w, y, t⟩
  · obtain ⟨hq1, hq2, hq3, hq4⟩ := id hP0
    dsimp only at hq1 hq2 hq3 hq4
    refine lv_aload_n hx hb dX3_doStep_0 rfl (lv_at hl 0 rfl) ?_
    refine x_Vi (y := yX3_isStill) (As := []) (wc := [(hm, .inr (3, [.ref a0, .ref a1, .ref a2, .ref a3, .int (nI rc), .int (nI q), .int (nI u), .int (nI f), .int (nI g)])), (a0, xO Z 6 ru), (a1, xI Z 6 sg), (a2, xI Z 6 wy), (a3, xI Z 6 ts)]) (wr := []) hC hP hD hS (c_X3_isStill l Z hm a0 a1 a2 a3 ru sg wy ts rc q u f g R hV hM hP0) (gV wq_456 wq_453 wq_454 wq_455 wq_34) rfl kv_X3_isStill rfl rfl ⟨rfl, rfl⟩ rfl hl.1 rfl ⟨Nat.le_of_ble_eq_true rfl, Nat.le_of_ble_eq_true rfl⟩ [0, 1, 2, 3, 4] ([] : List Nat) rfl rfl (by decide) (by decide) (by decide) rfl dX3_doStep_1 (fun r1 w1 H locs hw hP hD hS => ?_)
    obtain ⟨hr1, rfl⟩ := hw
    have hP : va_P Z.1 vwCl [(hm, .inr (3, [.ref a0, .ref a1, .ref a2, .ref a3, .int (nI rc), .int (nI q), .int (nI u), .int (nI f), .int (nI g)])), (a0, xO Z 6 ru), (a1, xI Z 6 sg), (a2, xI Z 6 wy), (a3, xI Z 6 ts)] H := hP
    have hD : va_D A [(hm, .inr (3, [.ref a0, .ref a1, .ref a2, .ref a3, .int (nI rc), .int (nI q), .int (nI u), .int (nI f), .int (nI g)])), (a0, xO Z 6 ru), (a1, xI Z 6 sg), (a2, xI Z 6 wy), (a3, xI Z 6 ts)] := hD
    rw [rone_none hcase] at hr1
    subst hr1
    refine ln_if_eq (tgt := 9) hx hb dX3_doStep_4 (by decide) (by omega) (fun h4 => False.elim (by omega)) (fun h4 => ?_)
    refine ln_const 0 hx hb dX3_doStep_7 (by decide) ?_
    exact x_zret hC hr rfl hk hP hD hS dX3_doStep_8 (Or.inl ⟨by unfold mstep; dsimp only; rw [hcase], rfl, rfl⟩)
  · obtain ⟨v1, v2, v3⟩ := hV _ _ hcase
    dsimp only at v1 v2 v3
    obtain ⟨e0, e1, e2, e3⟩ := hM.2 _ _ (by omega) hcase
    dsimp only at e1 e2 e3
    obtain ⟨hq1, hq2, hq3, hq4⟩ := id hP0
    dsimp only at hq1 hq2 hq3 hq4
    refine lv_aload_n hx hb dX3_doStep_0 rfl (lv_at hl 0 rfl) ?_
    refine x_Vi (y := yX3_isStill) (As := []) (wc := [(hm, .inr (3, [.ref a0, .ref a1, .ref a2, .ref a3, .int (nI rc), .int (nI q), .int (nI u), .int (nI f), .int (nI g)])), (a0, xO Z 6 ru), (a1, xI Z 6 sg), (a2, xI Z 6 wy), (a3, xI Z 6 ts)]) (wr := []) hC hP hD hS (c_X3_isStill l Z hm a0 a1 a2 a3 ru sg wy ts rc q u f g R hV hM hP0) (gV wq_456 wq_453 wq_454 wq_455 wq_34) rfl kv_X3_isStill rfl rfl ⟨rfl, rfl⟩ rfl hl.1 rfl ⟨Nat.le_of_ble_eq_true rfl, Nat.le_of_ble_eq_true rfl⟩ [0, 1, 2, 3, 4] ([] : List Nat) rfl rfl (by decide) (by decide) (by decide) rfl dX3_doStep_1 (fun r1 w1 H locs hw hP hD hS => ?_)
    obtain ⟨hr1, rfl⟩ := hw
    have hP : va_P Z.1 vwCl [(hm, .inr (3, [.ref a0, .ref a1, .ref a2, .ref a3, .int (nI rc), .int (nI q), .int (nI u), .int (nI f), .int (nI g)])), (a0, xO Z 6 ru), (a1, xI Z 6 sg), (a2, xI Z 6 wy), (a3, xI Z 6 ts)] H := hP
    have hD : va_D A [(hm, .inr (3, [.ref a0, .ref a1, .ref a2, .ref a3, .int (nI rc), .int (nI q), .int (nI u), .int (nI f), .int (nI g)])), (a0, xO Z 6 ru), (a1, xI Z 6 sg), (a2, xI Z 6 wy), (a3, xI Z 6 ts)] := hD
    rw [rone_some hcase] at hr1
    subst hr1
    refine ln_if_eq (tgt := 9) hx hb dX3_doStep_4 (by decide) (by omega) (fun h4 => ?_) (fun h4 => False.elim (by omega))
    refine lv_aload_n hx hb dX3_doStep_9 rfl (lv_at hl 0 rfl) ?_
    refine va_get (D := Z.1) (ci := 3) (v := .int (nI q)) (C := RX3) (T := TX3) (N := 9) hx hb hts iX3 hown hK hP 0 rfl rfl 5 (Nat.le_of_ble_eq_true rfl) qq_94 (fun _ h9 => h9) rfl dX3_doStep_10 ?_
    refine lv_aload_n hx hb dX3_doStep_13 rfl (lv_at hl 0 rfl) ?_
    refine va_get (D := Z.1) (ci := 3) (v := .int (nI u)) (C := RX3) (T := TX3) (N := 9) hx hb hts iX3 hown hK hP 0 rfl rfl 6 (Nat.le_of_ble_eq_true rfl) qq_96 (fun _ h9 => h9) rfl dX3_doStep_14 ?_
    refine x_SNi (y := yX6_pairOf) (As := [.int (nI q), .int (nI u)]) (wc := []) (wr := [(hm, .inr (3, [.ref a0, .ref a1, .ref a2, .ref a3, .int (nI rc), .int (nI q), .int (nI u), .int (nI f), .int (nI g)])), (a0, xO Z 6 ru), (a1, xI Z 6 sg), (a2, xI Z 6 wy), (a3, xI Z 6 ts)]) hC hP hD hS (c_X6_pairOf l Z q u) (gCo wq_253) qn_41 qq_32 qq_252 rfl ks_X6_pairOf ⟨rfl, rfl⟩ rfl hl.1 rfl ⟨Nat.le_of_ble_eq_true rfl, Nat.le_of_ble_eq_true rfl⟩ ([] : List Nat) [0, 1, 2, 3, 4] rfl rfl (by decide) (by decide) (by decide) rfl dX3_doStep_17 (fun r17 w1 H locs hw hP hD hS => ?_)
    obtain ⟨rfl, rfl⟩ := hw
    have hP : va_P Z.1 vwCl [(hm, .inr (3, [.ref a0, .ref a1, .ref a2, .ref a3, .int (nI rc), .int (nI q), .int (nI u), .int (nI f), .int (nI g)])), (a0, xO Z 6 ru), (a1, xI Z 6 sg), (a2, xI Z 6 wy), (a3, xI Z 6 ts)] H := hP
    have hD : va_D A [(hm, .inr (3, [.ref a0, .ref a1, .ref a2, .ref a3, .int (nI rc), .int (nI q), .int (nI u), .int (nI f), .int (nI g)])), (a0, xO Z 6 ru), (a1, xI Z 6 sg), (a2, xI Z 6 wy), (a3, xI Z 6 ts)] := hD
    refine lv_istore_n (lv' := [(1, .int (nI (2 * q + u))), (0, .ref hm)]) hx hb dX3_doStep_20 rfl hl (by decide) rfl (fun ls hl => ?_)
    refine lv_aload_n hx hb dX3_doStep_21 rfl (lv_at hl 1 rfl) ?_
    refine va_get (D := Z.1) (ci := 3) (v := .ref a2) (C := RX3) (T := TX3) (N := 9) hx hb hts iX3 hown hK hP 0 rfl rfl 2 (Nat.le_of_ble_eq_true rfl) qq_91 (fun _ h9 => h9) rfl dX3_doStep_22 ?_
    refine lv_iload_n hx hb dX3_doStep_25 rfl (lv_at hl 0 rfl) ?_
    refine ln_iald hx hb hK hP 3 rfl (by omega) (by omega) dX3_doStep_26 ?_
    refine ln_top (y := nI y) (by rw [e2]) ?_
    refine ln_const 1 hx hb dX3_doStep_27 (by decide) ?_
    refine ln_icmp_ne (tgt := 35) hx hb dX3_doStep_28 (by decide) (by omega) (by omega) (fun h28 => ?_) (fun h28 => ?_)
    · refine ln_const 0 hx hb dX3_doStep_35 (by decide) ?_
      refine lv_istore_n (lv' := [(2, .int (nI 0)), (1, .int (nI (2 * q + u))), (0, .ref hm)]) hx hb dX3_doStep_36 rfl hl (by decide) rfl (fun ls hl => ?_)
      refine ln_const 2 hx hb dX3_doStep_37 (by decide) ?_
      refine lv_iload_n hx hb dX3_doStep_38 rfl (lv_at hl 0 rfl) ?_
      refine ln_if_eq (tgt := 49) hx hb dX3_doStep_39 (by decide) (by omega) (fun h39 => ?_) (fun h39 => False.elim (by omega))
      refine lv_aload_n hx hb dX3_doStep_49 rfl (lv_at hl 2 rfl) ?_
      refine va_get (D := Z.1) (ci := 3) (v := .int (nI g)) (C := RX3) (T := TX3) (N := 9) hx hb hts iX3 hown hK hP 0 rfl rfl 8 (Nat.le_of_ble_eq_true rfl) qq_100 (fun _ h9 => h9) rfl dX3_doStep_50 ?_
      refine ln_imul (2 * g) hx hb dX3_doStep_53 (by first | rfl | omega) ?_
      refine lv_aload_n hx hb dX3_doStep_54 rfl (lv_at hl 2 rfl) ?_
      refine va_get (D := Z.1) (ci := 3) (v := .ref a1) (C := RX3) (T := TX3) (N := 9) hx hb hts iX3 hown hK hP 0 rfl rfl 1 (Nat.le_of_ble_eq_true rfl) qq_90 (fun _ h9 => h9) rfl dX3_doStep_55 ?_
      refine lv_iload_n hx hb dX3_doStep_58 rfl (lv_at hl 1 rfl) ?_
      refine ln_iald hx hb hK hP 2 rfl (by omega) (by omega) dX3_doStep_59 ?_
      refine ln_top (y := nI w) (by rw [e1]) ?_
      refine ln_iadd ((2 * g) + w) hx hb dX3_doStep_60 (by first | rfl | omega) ?_
      refine lv_istore_n (lv' := [(3, .int (nI ((2 * g) + w))), (2, .int (nI 0)), (1, .int (nI (2 * q + u))), (0, .ref hm)]) hx hb dX3_doStep_61 rfl hl (by decide) rfl (fun ls hl => ?_)
      refine lv_iload_n hx hb dX3_doStep_62 rfl (lv_at hl 1 rfl) ?_
      refine ln_if_eq (tgt := 73) hx hb dX3_doStep_63 (by decide) (by omega) (fun h63 => ?_) (fun h63 => False.elim (by omega))
      refine lv_aload_n hx hb dX3_doStep_73 rfl (lv_at hl 3 rfl) ?_
      refine va_get (D := Z.1) (ci := 3) (v := .int (nI f)) (C := RX3) (T := TX3) (N := 9) hx hb hts iX3 hown hK hP 0 rfl rfl 7 (Nat.le_of_ble_eq_true rfl) qq_98 (fun _ h9 => h9) rfl dX3_doStep_74 ?_
      refine lv_istore (lv' := [(4, .int (nI f)), (3, .int (nI ((2 * g) + w))), (2, .int (nI 0)), (1, .int (nI (2 * q + u))), (0, .ref hm)]) hx hb dX3_doStep_77 hl (by decide) rfl (fun ls hl => ?_)
      refine lv_iload_n hx hb dX3_doStep_79 rfl (lv_at hl 1 rfl) ?_
      refine lv_ldc (v := nI 100000) hx hb hown qq_458 dX3_doStep_80 ?_
      refine ln_icmp_le (tgt := 87) hx hb dX3_doStep_82 (by decide) (by omega) (by omega) (fun h82 => ?_) (fun h82 => ?_)
      · refine lv_aload_n hx hb dX3_doStep_87 rfl (lv_at hl 4 rfl) ?_
        refine lv_iload_n hx hb dX3_doStep_88 rfl (lv_at hl 2 rfl) ?_
        refine ln_if_eq (tgt := 96) hx hb dX3_doStep_89 (by decide) (by omega) (fun h89 => ?_) (fun h89 => False.elim (by omega))
        refine lv_iload hx hb dX3_doStep_96 (lv_at hl 0 rfl) ?_
        refine ln_const 2 hx hb dX3_doStep_98 (by decide) ?_
        refine ln_idiv (f / 2) hx hb dX3_doStep_99 (by omega) (by omega) (by omega) (by first | rfl | omega) ?_
        refine va_put (D := Z.1) (ci := 3) (v := .int (nI (f / 2))) (ty := tyX3 7) (C := RX3) (T := TX3) (N := 9) hx hb hts iX3 tyX3 tyX3_ok nmX3 hown hK hP hD hS 0 rfl rfl 7 (Nat.le_of_ble_eq_true rfl) qq_98 (fun _ h9 => h9) rfl (tyX3_ok 7 (Nat.le_of_ble_eq_true rfl)) rfl rfl (Nat.le_of_ble_eq_true rfl) dX3_doStep_100 (fun H locs hP hD hS => ?_)
        have hP : va_P Z.1 vwCl [(hm, .inr (3, [.ref a0, .ref a1, .ref a2, .ref a3, .int (nI rc), .int (nI q), .int (nI u), .int (nI (f / 2)), .int (nI g)])), (a0, xO Z 6 ru), (a1, xI Z 6 sg), (a2, xI Z 6 wy), (a3, xI Z 6 ts)] H := hP
        have hD : va_D A [(hm, .inr (3, [.ref a0, .ref a1, .ref a2, .ref a3, .int (nI rc), .int (nI q), .int (nI u), .int (nI (f / 2)), .int (nI g)])), (a0, xO Z 6 ru), (a1, xI Z 6 sg), (a2, xI Z 6 wy), (a3, xI Z 6 ts)] := hD
        refine lv_aload_n hx hb dX3_doStep_103 rfl (lv_at hl 4 rfl) ?_
        refine lv_iload_n hx hb dX3_doStep_104 rfl (lv_at hl 2 rfl) ?_
        refine ln_if_eq (tgt := 115) hx hb dX3_doStep_105 (by decide) (by omega) (fun h105 => ?_) (fun h105 => False.elim (by omega))
        refine lv_iload_n hx hb dX3_doStep_115 rfl (lv_at hl 1 rfl) ?_
        refine va_put (D := Z.1) (ci := 3) (v := .int (nI ((2 * g) + w))) (ty := tyX3 8) (C := RX3) (T := TX3) (N := 9) hx hb hts iX3 tyX3 tyX3_ok nmX3 hown hK hP hD hS 0 rfl rfl 8 (Nat.le_of_ble_eq_true rfl) qq_100 (fun _ h9 => h9) rfl (tyX3_ok 8 (Nat.le_of_ble_eq_true rfl)) rfl rfl (Nat.le_of_ble_eq_true rfl) dX3_doStep_116 (fun H locs hP hD hS => ?_)
        have hP : va_P Z.1 vwCl [(hm, .inr (3, [.ref a0, .ref a1, .ref a2, .ref a3, .int (nI rc), .int (nI q), .int (nI u), .int (nI (f / 2)), .int (nI ((2 * g) + w))])), (a0, xO Z 6 ru), (a1, xI Z 6 sg), (a2, xI Z 6 wy), (a3, xI Z 6 ts)] H := hP
        have hD : va_D A [(hm, .inr (3, [.ref a0, .ref a1, .ref a2, .ref a3, .int (nI rc), .int (nI q), .int (nI u), .int (nI (f / 2)), .int (nI ((2 * g) + w))])), (a0, xO Z 6 ru), (a1, xI Z 6 sg), (a2, xI Z 6 wy), (a3, xI Z 6 ts)] := hD
        refine lv_aload_n hx hb dX3_doStep_119 rfl (lv_at hl 4 rfl) ?_
        refine lv_iload hx hb dX3_doStep_120 (lv_at hl 0 rfl) ?_
        refine ln_const 2 hx hb dX3_doStep_122 (by decide) ?_
        refine ln_irem (f % 2) hx hb dX3_doStep_123 (by omega) (by omega) (by omega) (by first | rfl | omega) ?_
        refine va_put (D := Z.1) (ci := 3) (v := .int (nI (f % 2))) (ty := tyX3 6) (C := RX3) (T := TX3) (N := 9) hx hb hts iX3 tyX3 tyX3_ok nmX3 hown hK hP hD hS 0 rfl rfl 6 (Nat.le_of_ble_eq_true rfl) qq_96 (fun _ h9 => h9) rfl (tyX3_ok 6 (Nat.le_of_ble_eq_true rfl)) rfl rfl (Nat.le_of_ble_eq_true rfl) dX3_doStep_124 (fun H locs hP hD hS => ?_)
        have hP : va_P Z.1 vwCl [(hm, .inr (3, [.ref a0, .ref a1, .ref a2, .ref a3, .int (nI rc), .int (nI q), .int (nI (f % 2)), .int (nI (f / 2)), .int (nI ((2 * g) + w))])), (a0, xO Z 6 ru), (a1, xI Z 6 sg), (a2, xI Z 6 wy), (a3, xI Z 6 ts)] H := hP
        have hD : va_D A [(hm, .inr (3, [.ref a0, .ref a1, .ref a2, .ref a3, .int (nI rc), .int (nI q), .int (nI (f % 2)), .int (nI (f / 2)), .int (nI ((2 * g) + w))])), (a0, xO Z 6 ru), (a1, xI Z 6 sg), (a2, xI Z 6 wy), (a3, xI Z 6 ts)] := hD
        refine lv_aload_n hx hb dX3_doStep_127 rfl (lv_at hl 4 rfl) ?_
        refine lv_aload_n hx hb dX3_doStep_128 rfl (lv_at hl 4 rfl) ?_
        refine va_get (D := Z.1) (ci := 3) (v := .ref a3) (C := RX3) (T := TX3) (N := 9) hx hb hts iX3 hown hK hP 0 rfl rfl 3 (Nat.le_of_ble_eq_true rfl) qq_92 (fun _ h9 => h9) rfl dX3_doStep_129 ?_
        refine lv_iload_n hx hb dX3_doStep_132 rfl (lv_at hl 3 rfl) ?_
        refine ln_iald hx hb hK hP 4 rfl (by omega) (by omega) dX3_doStep_133 ?_
        refine ln_top (y := nI t) (by rw [e3]) ?_
        refine va_put (D := Z.1) (ci := 3) (v := .int (nI t)) (ty := tyX3 5) (C := RX3) (T := TX3) (N := 9) hx hb hts iX3 tyX3 tyX3_ok nmX3 hown hK hP hD hS 0 rfl rfl 5 (Nat.le_of_ble_eq_true rfl) qq_94 (fun _ h9 => h9) rfl (tyX3_ok 5 (Nat.le_of_ble_eq_true rfl)) rfl rfl (Nat.le_of_ble_eq_true rfl) dX3_doStep_134 (fun H locs hP hD hS => ?_)
        have hP : va_P Z.1 vwCl [(hm, .inr (3, [.ref a0, .ref a1, .ref a2, .ref a3, .int (nI rc), .int (nI t), .int (nI (f % 2)), .int (nI (f / 2)), .int (nI ((2 * g) + w))])), (a0, xO Z 6 ru), (a1, xI Z 6 sg), (a2, xI Z 6 wy), (a3, xI Z 6 ts)] H := hP
        have hD : va_D A [(hm, .inr (3, [.ref a0, .ref a1, .ref a2, .ref a3, .int (nI rc), .int (nI t), .int (nI (f % 2)), .int (nI (f / 2)), .int (nI ((2 * g) + w))])), (a0, xO Z 6 ru), (a1, xI Z 6 sg), (a2, xI Z 6 wy), (a3, xI Z 6 ts)] := hD
        refine ln_const 1 hx hb dX3_doStep_137 (by decide) ?_
        exact x_zret hC hr rfl hk hP hD hS dX3_doStep_138 (Or.inr ⟨_, by unfold mstep; dsimp only; rw [hcase]; dsimp only; rw [if_neg (by omega), if_pos (by omega)], rfl, rfl⟩)
      · refine ln_const 0 hx hb dX3_doStep_85 (by decide) ?_
        exact x_zret hC hr rfl hk hP hD hS dX3_doStep_86 (Or.inl ⟨by unfold mstep; dsimp only; rw [hcase]; dsimp only; rw [if_neg (by omega), if_neg (by omega)], rfl, rfl⟩)
    · refine ln_const 1 hx hb dX3_doStep_31 (by decide) ?_
      refine lv_goto (tgt := 36) hx hb dX3_doStep_32 (by decide) ?_
      refine lv_istore_n (lv' := [(2, .int (nI 1)), (1, .int (nI (2 * q + u))), (0, .ref hm)]) hx hb dX3_doStep_36 rfl hl (by decide) rfl (fun ls hl => ?_)
      refine ln_const 2 hx hb dX3_doStep_37 (by decide) ?_
      refine lv_iload_n hx hb dX3_doStep_38 rfl (lv_at hl 0 rfl) ?_
      refine ln_if_eq (tgt := 49) hx hb dX3_doStep_39 (by decide) (by omega) (fun h39 => False.elim (by omega)) (fun h39 => ?_)
      refine lv_aload_n hx hb dX3_doStep_42 rfl (lv_at hl 2 rfl) ?_
      refine va_get (D := Z.1) (ci := 3) (v := .int (nI f)) (C := RX3) (T := TX3) (N := 9) hx hb hts iX3 hown hK hP 0 rfl rfl 7 (Nat.le_of_ble_eq_true rfl) qq_98 (fun _ h9 => h9) rfl dX3_doStep_43 ?_
      refine lv_goto (tgt := 53) hx hb dX3_doStep_46 (by decide) ?_
      refine ln_imul (2 * f) hx hb dX3_doStep_53 (by first | rfl | omega) ?_
      refine lv_aload_n hx hb dX3_doStep_54 rfl (lv_at hl 2 rfl) ?_
      refine va_get (D := Z.1) (ci := 3) (v := .ref a1) (C := RX3) (T := TX3) (N := 9) hx hb hts iX3 hown hK hP 0 rfl rfl 1 (Nat.le_of_ble_eq_true rfl) qq_90 (fun _ h9 => h9) rfl dX3_doStep_55 ?_
      refine lv_iload_n hx hb dX3_doStep_58 rfl (lv_at hl 1 rfl) ?_
      refine ln_iald hx hb hK hP 2 rfl (by omega) (by omega) dX3_doStep_59 ?_
      refine ln_top (y := nI w) (by rw [e1]) ?_
      refine ln_iadd ((2 * f) + w) hx hb dX3_doStep_60 (by first | rfl | omega) ?_
      refine lv_istore_n (lv' := [(3, .int (nI ((2 * f) + w))), (2, .int (nI 1)), (1, .int (nI (2 * q + u))), (0, .ref hm)]) hx hb dX3_doStep_61 rfl hl (by decide) rfl (fun ls hl => ?_)
      refine lv_iload_n hx hb dX3_doStep_62 rfl (lv_at hl 1 rfl) ?_
      refine ln_if_eq (tgt := 73) hx hb dX3_doStep_63 (by decide) (by omega) (fun h63 => False.elim (by omega)) (fun h63 => ?_)
      refine lv_aload_n hx hb dX3_doStep_66 rfl (lv_at hl 3 rfl) ?_
      refine va_get (D := Z.1) (ci := 3) (v := .int (nI g)) (C := RX3) (T := TX3) (N := 9) hx hb hts iX3 hown hK hP 0 rfl rfl 8 (Nat.le_of_ble_eq_true rfl) qq_100 (fun _ h9 => h9) rfl dX3_doStep_67 ?_
      refine lv_goto (tgt := 77) hx hb dX3_doStep_70 (by decide) ?_
      refine lv_istore (lv' := [(4, .int (nI g)), (3, .int (nI ((2 * f) + w))), (2, .int (nI 1)), (1, .int (nI (2 * q + u))), (0, .ref hm)]) hx hb dX3_doStep_77 hl (by decide) rfl (fun ls hl => ?_)
      refine lv_iload_n hx hb dX3_doStep_79 rfl (lv_at hl 1 rfl) ?_
      refine lv_ldc (v := nI 100000) hx hb hown qq_458 dX3_doStep_80 ?_
      refine ln_icmp_le (tgt := 87) hx hb dX3_doStep_82 (by decide) (by omega) (by omega) (fun h82 => ?_) (fun h82 => ?_)
      · refine lv_aload_n hx hb dX3_doStep_87 rfl (lv_at hl 4 rfl) ?_
        refine lv_iload_n hx hb dX3_doStep_88 rfl (lv_at hl 2 rfl) ?_
        refine ln_if_eq (tgt := 96) hx hb dX3_doStep_89 (by decide) (by omega) (fun h89 => False.elim (by omega)) (fun h89 => ?_)
        refine lv_iload_n hx hb dX3_doStep_92 rfl (lv_at hl 1 rfl) ?_
        refine lv_goto (tgt := 100) hx hb dX3_doStep_93 (by decide) ?_
        refine va_put (D := Z.1) (ci := 3) (v := .int (nI ((2 * f) + w))) (ty := tyX3 7) (C := RX3) (T := TX3) (N := 9) hx hb hts iX3 tyX3 tyX3_ok nmX3 hown hK hP hD hS 0 rfl rfl 7 (Nat.le_of_ble_eq_true rfl) qq_98 (fun _ h9 => h9) rfl (tyX3_ok 7 (Nat.le_of_ble_eq_true rfl)) rfl rfl (Nat.le_of_ble_eq_true rfl) dX3_doStep_100 (fun H locs hP hD hS => ?_)
        have hP : va_P Z.1 vwCl [(hm, .inr (3, [.ref a0, .ref a1, .ref a2, .ref a3, .int (nI rc), .int (nI q), .int (nI u), .int (nI ((2 * f) + w)), .int (nI g)])), (a0, xO Z 6 ru), (a1, xI Z 6 sg), (a2, xI Z 6 wy), (a3, xI Z 6 ts)] H := hP
        have hD : va_D A [(hm, .inr (3, [.ref a0, .ref a1, .ref a2, .ref a3, .int (nI rc), .int (nI q), .int (nI u), .int (nI ((2 * f) + w)), .int (nI g)])), (a0, xO Z 6 ru), (a1, xI Z 6 sg), (a2, xI Z 6 wy), (a3, xI Z 6 ts)] := hD
        refine lv_aload_n hx hb dX3_doStep_103 rfl (lv_at hl 4 rfl) ?_
        refine lv_iload_n hx hb dX3_doStep_104 rfl (lv_at hl 2 rfl) ?_
        refine ln_if_eq (tgt := 115) hx hb dX3_doStep_105 (by decide) (by omega) (fun h105 => False.elim (by omega)) (fun h105 => ?_)
        refine lv_iload hx hb dX3_doStep_108 (lv_at hl 0 rfl) ?_
        refine ln_const 2 hx hb dX3_doStep_110 (by decide) ?_
        refine ln_idiv (g / 2) hx hb dX3_doStep_111 (by omega) (by omega) (by omega) (by first | rfl | omega) ?_
        refine lv_goto (tgt := 116) hx hb dX3_doStep_112 (by decide) ?_
        refine va_put (D := Z.1) (ci := 3) (v := .int (nI (g / 2))) (ty := tyX3 8) (C := RX3) (T := TX3) (N := 9) hx hb hts iX3 tyX3 tyX3_ok nmX3 hown hK hP hD hS 0 rfl rfl 8 (Nat.le_of_ble_eq_true rfl) qq_100 (fun _ h9 => h9) rfl (tyX3_ok 8 (Nat.le_of_ble_eq_true rfl)) rfl rfl (Nat.le_of_ble_eq_true rfl) dX3_doStep_116 (fun H locs hP hD hS => ?_)
        have hP : va_P Z.1 vwCl [(hm, .inr (3, [.ref a0, .ref a1, .ref a2, .ref a3, .int (nI rc), .int (nI q), .int (nI u), .int (nI ((2 * f) + w)), .int (nI (g / 2))])), (a0, xO Z 6 ru), (a1, xI Z 6 sg), (a2, xI Z 6 wy), (a3, xI Z 6 ts)] H := hP
        have hD : va_D A [(hm, .inr (3, [.ref a0, .ref a1, .ref a2, .ref a3, .int (nI rc), .int (nI q), .int (nI u), .int (nI ((2 * f) + w)), .int (nI (g / 2))])), (a0, xO Z 6 ru), (a1, xI Z 6 sg), (a2, xI Z 6 wy), (a3, xI Z 6 ts)] := hD
        refine lv_aload_n hx hb dX3_doStep_119 rfl (lv_at hl 4 rfl) ?_
        refine lv_iload hx hb dX3_doStep_120 (lv_at hl 0 rfl) ?_
        refine ln_const 2 hx hb dX3_doStep_122 (by decide) ?_
        refine ln_irem (g % 2) hx hb dX3_doStep_123 (by omega) (by omega) (by omega) (by first | rfl | omega) ?_
        refine va_put (D := Z.1) (ci := 3) (v := .int (nI (g % 2))) (ty := tyX3 6) (C := RX3) (T := TX3) (N := 9) hx hb hts iX3 tyX3 tyX3_ok nmX3 hown hK hP hD hS 0 rfl rfl 6 (Nat.le_of_ble_eq_true rfl) qq_96 (fun _ h9 => h9) rfl (tyX3_ok 6 (Nat.le_of_ble_eq_true rfl)) rfl rfl (Nat.le_of_ble_eq_true rfl) dX3_doStep_124 (fun H locs hP hD hS => ?_)
        have hP : va_P Z.1 vwCl [(hm, .inr (3, [.ref a0, .ref a1, .ref a2, .ref a3, .int (nI rc), .int (nI q), .int (nI (g % 2)), .int (nI ((2 * f) + w)), .int (nI (g / 2))])), (a0, xO Z 6 ru), (a1, xI Z 6 sg), (a2, xI Z 6 wy), (a3, xI Z 6 ts)] H := hP
        have hD : va_D A [(hm, .inr (3, [.ref a0, .ref a1, .ref a2, .ref a3, .int (nI rc), .int (nI q), .int (nI (g % 2)), .int (nI ((2 * f) + w)), .int (nI (g / 2))])), (a0, xO Z 6 ru), (a1, xI Z 6 sg), (a2, xI Z 6 wy), (a3, xI Z 6 ts)] := hD
        refine lv_aload_n hx hb dX3_doStep_127 rfl (lv_at hl 4 rfl) ?_
        refine lv_aload_n hx hb dX3_doStep_128 rfl (lv_at hl 4 rfl) ?_
        refine va_get (D := Z.1) (ci := 3) (v := .ref a3) (C := RX3) (T := TX3) (N := 9) hx hb hts iX3 hown hK hP 0 rfl rfl 3 (Nat.le_of_ble_eq_true rfl) qq_92 (fun _ h9 => h9) rfl dX3_doStep_129 ?_
        refine lv_iload_n hx hb dX3_doStep_132 rfl (lv_at hl 3 rfl) ?_
        refine ln_iald hx hb hK hP 4 rfl (by omega) (by omega) dX3_doStep_133 ?_
        refine ln_top (y := nI t) (by rw [e3]) ?_
        refine va_put (D := Z.1) (ci := 3) (v := .int (nI t)) (ty := tyX3 5) (C := RX3) (T := TX3) (N := 9) hx hb hts iX3 tyX3 tyX3_ok nmX3 hown hK hP hD hS 0 rfl rfl 5 (Nat.le_of_ble_eq_true rfl) qq_94 (fun _ h9 => h9) rfl (tyX3_ok 5 (Nat.le_of_ble_eq_true rfl)) rfl rfl (Nat.le_of_ble_eq_true rfl) dX3_doStep_134 (fun H locs hP hD hS => ?_)
        have hP : va_P Z.1 vwCl [(hm, .inr (3, [.ref a0, .ref a1, .ref a2, .ref a3, .int (nI rc), .int (nI t), .int (nI (g % 2)), .int (nI ((2 * f) + w)), .int (nI (g / 2))])), (a0, xO Z 6 ru), (a1, xI Z 6 sg), (a2, xI Z 6 wy), (a3, xI Z 6 ts)] H := hP
        have hD : va_D A [(hm, .inr (3, [.ref a0, .ref a1, .ref a2, .ref a3, .int (nI rc), .int (nI t), .int (nI (g % 2)), .int (nI ((2 * f) + w)), .int (nI (g / 2))])), (a0, xO Z 6 ru), (a1, xI Z 6 sg), (a2, xI Z 6 wy), (a3, xI Z 6 ts)] := hD
        refine ln_const 1 hx hb dX3_doStep_137 (by decide) ?_
        exact x_zret hC hr rfl hk hP hD hS dX3_doStep_138 (Or.inr ⟨_, by unfold mstep; dsimp only; rw [hcase]; dsimp only; rw [if_pos (by omega), if_pos (by omega)], rfl, rfl⟩)
      · refine ln_const 0 hx hb dX3_doStep_85 (by decide) ?_
        exact x_zret hC hr rfl hk hP hD hS dX3_doStep_86 (Or.inl ⟨by unfold mstep; dsimp only; rw [hcase]; dsimp only; rw [if_pos (by omega), if_neg (by omega)], rfl, rfl⟩)

theorem kv_X3_doStep : yX3_doStep.cls = RX3 ∧ yX3_doStep.cls ≠ "java/lang/invoke/MethodHandle" ∧ yX3_doStep.cls ≠ "java/lang/invoke/VarHandle" ∧ (parseMethodDescriptor yX3_doStep.desc).map (fun d => d.parameters.length) = some 0 := by decide +kernel
set_option maxHeartbeats 4000000 in
set_option maxRecDepth 100000 in
theorem c_X3_doSteps (l : Launch) (Z : xZ) (hm a0 a1 a2 a3 : Nat) (ru sg wy ts : Nat → Nat) (rc q u f g : Nat) (R : xRl) (hV : RV R) (hM : MR R ru sg wy ts) (hP0 : PV (q, u, f, g)) (n : Nat) (hn : n ≤ 5000) : xMi l Z yX3_doSteps vX3_doSteps ({ frames := 3, cells := 0, slots := 0, locals := 65 } : Room) [.ref hm, .int (nI n)] [(hm, .inr (3, [.ref a0, .ref a1, .ref a2, .ref a3, .int (nI rc), .int (nI q), .int (nI u), .int (nI f), .int (nI g)])), (a0, xO Z 6 ru), (a1, xI Z 6 sg), (a2, xI Z 6 wy), (a3, xI Z 6 ts)] (fun r v => ∃ k P, xrun (mstep R) n (q, u, f, g) = (k, P) ∧ r = nI k ∧ v = [(hm, .inr (3, [.ref a0, .ref a1, .ref a2, .ref a3, .int (nI rc), .int (nI P.1), .int (nI P.2.1), .int (nI P.2.2.1), .int (nI P.2.2.2)])), (a0, xO Z 6 ru), (a1, xI Z 6 sg), (a2, xI Z 6 wy), (a3, xI Z 6 ts)]) := by
  refine x_i (by decide) rfl (Nat.le_of_ble_eq_true rfl) ?_
  intro p e s m args below meth c ls A hC hr hk hl hP hD hS
  have hx := hC.1.1
  have hb := hC.1.2.1
  have hml := hC.1.2.2.1
  have hown : s.vm.findClass RX3 = some m.cls := hC.1.2.2.2.1
  have hts := hC.1.2.2.2.2
  have hK := hC.2.1
  have hl : lv_has ls 3 [(0, .ref hm), (1, .int (nI n))] := hl
  have hP : va_P Z.1 vwCl [(hm, .inr (3, [.ref a0, .ref a1, .ref a2, .ref a3, .int (nI rc), .int (nI q), .int (nI u), .int (nI f), .int (nI g)])), (a0, xO Z 6 ru), (a1, xI Z 6 sg), (a2, xI Z 6 wy), (a3, xI Z 6 ts)] s.heap := hP
  have hD : va_D A [(hm, .inr (3, [.ref a0, .ref a1, .ref a2, .ref a3, .int (nI rc), .int (nI q), .int (nI u), .int (nI f), .int (nI g)])), (a0, xO Z 6 ru), (a1, xI Z 6 sg), (a2, xI Z 6 wy), (a3, xI Z 6 ts)] := hD
  refine ln_const 0 hx hb dX3_doSteps_0 (by decide) ?_
  refine lv_istore_n (lv' := [(2, .int (nI 0)), (0, .ref hm), (1, .int (nI n))]) hx hb dX3_doSteps_1 rfl hl (by decide) rfl (fun ls hl => ?_)
  have hloop2 : ∀ (nn : Nat) (k q1 u1 f1 g1 : Nat) (H : Heap) (locs : List Loc) (ls : Array Slot) (hX : XR (mstep R) n (q, u, f, g) k (q1, u1, f1, g1)) (hP1 : PV (q1, u1, f1, g1)) (hmu : n - k < nn) (hP : va_P Z.1 vwCl [(hm, .inr (3, [.ref a0, .ref a1, .ref a2, .ref a3, .int (nI rc), .int (nI q1), .int (nI u1), .int (nI f1), .int (nI g1)])), (a0, xO Z 6 ru), (a1, xI Z 6 sg), (a2, xI Z 6 wy), (a3, xI Z 6 ts)] H) (hD : va_D A [(hm, .inr (3, [.ref a0, .ref a1, .ref a2, .ref a3, .int (nI rc), .int (nI q1), .int (nI u1), .int (nI f1), .int (nI g1)])), (a0, xO Z 6 ru), (a1, xI Z 6 sg), (a2, xI Z 6 wy), (a3, xI Z 6 ts)]) (hS : va_S A s.heap H locs) (hl : lv_has ls 3 [(0, .ref hm), (1, .int (nI n)), (2, .int (nI k))]), W p l e ({ frames := 3, cells := 0, slots := 0, locals := 65 } : Room) s m args below meth c H locs 0 0 (MQ below (va_Qi (fun r v => ∃ k P, xrun (mstep R) n (q, u, f, g) = (k, P) ∧ r = nI k ∧ v = [(hm, .inr (3, [.ref a0, .ref a1, .ref a2, .ref a3, .int (nI rc), .int (nI P.1), .int (nI P.2.1), .int (nI P.2.2.1), .int (nI P.2.2.2)])), (a0, xO Z 6 ru), (a1, xI Z 6 sg), (a2, xI Z 6 wy), (a3, xI Z 6 ts)]) (xB Z A) A) args s ({ frames := 3, cells := 0, slots := 0, locals := 65 } : Room).cells ({ frames := 3, cells := 0, slots := 0, locals := 65 } : Room).slots A) (F0 m 2 ls []) := by
    intro nn
    induction nn with
    | zero => intro k q1 u1 f1 g1 H locs ls hX hP1 hmu; exact absurd hmu (Nat.not_lt_zero _)
    | succ nn ih =>
      intro k q1 u1 f1 g1 H locs ls hX hP1 hmu hP hD hS hl
      have hk1 := hX.1
      refine lv_iload_n hx hb dX3_doSteps_2 rfl (lv_at hl 2 rfl) ?_
      refine lv_iload_n hx hb dX3_doSteps_3 rfl (lv_at hl 1 rfl) ?_
      refine ln_icmp_ge (tgt := 20) hx hb dX3_doSteps_4 (by decide) (by omega) (by omega) (fun h4 => ?_) (fun h4 => ?_)
      · refine lv_iload_n hx hb dX3_doSteps_20 rfl (lv_at hl 2 rfl) ?_
        exact x_iret hC hr hk hP hD hS dX3_doSteps_21 ⟨k, _, hX.full (by omega), rfl, rfl⟩
      · refine lv_aload_n hx hb dX3_doSteps_7 rfl (lv_at hl 0 rfl) ?_
        refine x_Vi (y := yX3_doStep) (As := []) (wc := [(hm, .inr (3, [.ref a0, .ref a1, .ref a2, .ref a3, .int (nI rc), .int (nI q1), .int (nI u1), .int (nI f1), .int (nI g1)])), (a0, xO Z 6 ru), (a1, xI Z 6 sg), (a2, xI Z 6 wy), (a3, xI Z 6 ts)]) (wr := []) hC hP hD hS (c_X3_doStep l Z hm a0 a1 a2 a3 ru sg wy ts rc q1 u1 f1 g1 R hV hM hP1) (gV wq_452 wq_449 wq_451 wq_5 wq_34) rfl kv_X3_doStep rfl rfl ⟨rfl, rfl⟩ rfl hl.1 rfl ⟨Nat.le_of_ble_eq_true rfl, Nat.le_of_ble_eq_true rfl⟩ [0, 1, 2, 3, 4] ([] : List Nat) rfl rfl (by decide) (by decide) (by decide) rfl dX3_doSteps_8 (fun r8 w1 H locs hw hP hD hS => ?_)
        rcases hw with ⟨hst, rfl, rfl⟩ | ⟨P, hst, rfl, rfl⟩
        · have hP : va_P Z.1 vwCl [(hm, .inr (3, [.ref a0, .ref a1, .ref a2, .ref a3, .int (nI rc), .int (nI q1), .int (nI u1), .int (nI f1), .int (nI g1)])), (a0, xO Z 6 ru), (a1, xI Z 6 sg), (a2, xI Z 6 wy), (a3, xI Z 6 ts)] H := hP
          have hD : va_D A [(hm, .inr (3, [.ref a0, .ref a1, .ref a2, .ref a3, .int (nI rc), .int (nI q1), .int (nI u1), .int (nI f1), .int (nI g1)])), (a0, xO Z 6 ru), (a1, xI Z 6 sg), (a2, xI Z 6 wy), (a3, xI Z 6 ts)] := hD
          refine ln_if_eq (tgt := 20) hx hb dX3_doSteps_11 (by decide) (by omega) (fun h11 => ?_) (fun h11 => False.elim (by omega))
          refine lv_iload_n hx hb dX3_doSteps_20 rfl (lv_at hl 2 rfl) ?_
          exact x_iret hC hr hk hP hD hS dX3_doSteps_21 ⟨k, _, hX.stop hst, rfl, rfl⟩
        · have hP : va_P Z.1 vwCl [(hm, .inr (3, [.ref a0, .ref a1, .ref a2, .ref a3, .int (nI rc), .int (nI P.1), .int (nI P.2.1), .int (nI P.2.2.1), .int (nI P.2.2.2)])), (a0, xO Z 6 ru), (a1, xI Z 6 sg), (a2, xI Z 6 wy), (a3, xI Z 6 ts)] H := hP
          have hD : va_D A [(hm, .inr (3, [.ref a0, .ref a1, .ref a2, .ref a3, .int (nI rc), .int (nI P.1), .int (nI P.2.1), .int (nI P.2.2.1), .int (nI P.2.2.2)])), (a0, xO Z 6 ru), (a1, xI Z 6 sg), (a2, xI Z 6 wy), (a3, xI Z 6 ts)] := hD
          refine ln_if_eq (tgt := 20) hx hb dX3_doSteps_11 (by decide) (by omega) (fun h11 => False.elim (by omega)) (fun h11 => ?_)
          refine ln_iinc (k0 := 2) (k := 1) (k + 1) (lv' := [(2, .int (nI (k + 1))), (0, .ref hm), (1, .int (nI n))]) hx hb dX3_doSteps_14 hl rfl rfl (by first | rfl | omega) (by decide) rfl (fun ls hl => ?_)
          refine lv_goto (tgt := 2) hx hb dX3_doSteps_17 (by decide) ?_
          exact ih  (k + 1) P.1 P.2.1 P.2.2.1 P.2.2.2 _ _ _ (hX.step (by omega) hst) (mstep_ok hV hP1 hst) (by omega) hP hD hS (lv_sub hl [1, 2, 0] rfl)
  exact hloop2 ((n - 0) + 1) 0 q u f g _ _ _ (XR.beg _ _ _) hP0 (Nat.lt_succ_self _) hP hD hS (lv_sub hl [1, 2, 0] rfl)

/-- the program and the counters as they can be -/
def CV (nl : Nat) (op wk on iz : Nat → Nat) (S : (Nat → Nat) × Nat) : Prop := nl ≤ 24 ∧ (∀ j, j < nl → op j ≤ 2 ∧ wk j ≤ 3 ∧ on j ≤ 24 ∧ iz j ≤ 24) ∧ (∀ j, j < 4 → S.1 j ≤ 1000) ∧ S.2 ≤ 24
theorem cstep_ok {nl : Nat} {op wk on iz : Nat → Nat} {S S' : (Nat → Nat) × Nat} (h : CV nl op wk on iz S) (e : cstep nl op wk on iz S = some S') : CV nl op wk on iz S' := by
  obtain ⟨v, now⟩ := S
  obtain ⟨h1, h2, h3, h4⟩ := h
  dsimp only at h3 h4
  unfold cstep at e
  dsimp only at e
  split at e
  · next hn =>
    obtain ⟨p1, p2, p3, p4⟩ := h2 now hn
    split at e
    · split at e
      · cases e
        refine ⟨h1, h2, fun j hj => ?_, p3⟩
        dsimp only
        unfold va_up
        split
        · omega
        · exact h3 j hj
      · cases e
    · split at e
      · split at e
        · cases e; exact ⟨h1, h2, h3, p4⟩
        · cases e
          refine ⟨h1, h2, fun j hj => ?_, p3⟩
          dsimp only
          unfold va_up
          split
          · have := h3 (wk now) (by omega); omega
          · exact h3 j hj
      · cases e
  · cases e

set_option maxHeartbeats 4000000 in
set_option maxRecDepth 100000 in
theorem c_X1_addLine (l : Launch) (Z : xZ) (hc b0 b1 b2 b3 b4 : Nat) (v op wk on iz : Nat → Nat) (nl now : Nat) (o1 w1 n1 z1 : Nat) (hnl : nl < 24) : xMi l Z yX1_addLine vX1_addLine ({ frames := 0, cells := 0, slots := 0, locals := 0 } : Room) [.ref hc, .int (nI o1), .int (nI w1), .int (nI n1), .int (nI z1)] [(hc, .inr (1, [.ref b0, .ref b1, .ref b2, .ref b3, .ref b4, .int (nI nl), .int (nI now)])), (b0, xI Z 4 v), (b1, xI Z 24 op), (b2, xI Z 24 wk), (b3, xI Z 24 on), (b4, xI Z 24 iz)] (fun r w => r = nI (nl + 1) ∧ w = [(hc, .inr (1, [.ref b0, .ref b1, .ref b2, .ref b3, .ref b4, .int (nI (nl + 1)), .int (nI now)])), (b0, xI Z 4 v), (b1, xI Z 24 (va_up op nl o1)), (b2, xI Z 24 (va_up wk nl w1)), (b3, xI Z 24 (va_up on nl n1)), (b4, xI Z 24 (va_up iz nl z1))]) := by
  refine x_i (by decide) rfl (Nat.le_of_ble_eq_true rfl) ?_
  intro p e s m args below meth c ls A hC hr hk hl hP hD hS
  have hx := hC.1.1
  have hb := hC.1.2.1
  have hml := hC.1.2.2.1
  have hown : s.vm.findClass RX1 = some m.cls := hC.1.2.2.2.1
  have hts := hC.1.2.2.2.2
  have hK := hC.2.1
  have qq_65 := hts (Cond.fieldLink RX1 27 "TagTower$Counters" "lines" "I") (List.mem_cons_of_mem _ wq_65)
  have iX1 : ∀ w ∈ wsX10, w ∈ vX1_addLine := fun w h => List.mem_cons_of_mem _ (wi_X1 w h)
  have qq_61 := hts (Cond.fieldLink RX1 15 "TagTower$Counters" "ops" "[I") (List.mem_cons_of_mem _ wq_61)
  have qq_62 := hts (Cond.fieldLink RX1 18 "TagTower$Counters" "worked" "[I") (List.mem_cons_of_mem _ wq_62)
  have qq_63 := hts (Cond.fieldLink RX1 21 "TagTower$Counters" "onward" "[I") (List.mem_cons_of_mem _ wq_63)
  have qq_64 := hts (Cond.fieldLink RX1 24 "TagTower$Counters" "ifZero" "[I") (List.mem_cons_of_mem _ wq_64)
  have hl : lv_has ls 5 [(0, .ref hc), (1, .int (nI o1)), (2, .int (nI w1)), (3, .int (nI n1)), (4, .int (nI z1))] := hl
  have hP : va_P Z.1 vwCl [(hc, .inr (1, [.ref b0, .ref b1, .ref b2, .ref b3, .ref b4, .int (nI nl), .int (nI now)])), (b0, xI Z 4 v), (b1, xI Z 24 op), (b2, xI Z 24 wk), (b3, xI Z 24 on), (b4, xI Z 24 iz)] s.heap := hP
  have hD : va_D A [(hc, .inr (1, [.ref b0, .ref b1, .ref b2, .ref b3, .ref b4, .int (nI nl), .int (nI now)])), (b0, xI Z 4 v), (b1, xI Z 24 op), (b2, xI Z 24 wk), (b3, xI Z 24 on), (b4, xI Z 24 iz)] := hD
  refine lv_aload_n hx hb dX1_addLine_0 rfl (lv_at hl 0 rfl) ?_
  refine va_get (D := Z.1) (ci := 1) (v := .int (nI nl)) (C := RX1) (T := TX1) (N := 7) hx hb hts iX1 hown hK hP 0 rfl rfl 5 (Nat.le_of_ble_eq_true rfl) qq_65 (fun _ h9 => h9) rfl dX1_addLine_1 ?_
  refine ln_bipush 24 hx hb dX1_addLine_4 (by decide) ?_
  refine ln_icmp_lt (tgt := 12) hx hb dX1_addLine_6 (by decide) (by omega) (by omega) (fun h6 => ?_) (fun h6 => False.elim (by omega))
  refine lv_aload_n hx hb dX1_addLine_12 rfl (lv_at hl 0 rfl) ?_
  refine va_get (D := Z.1) (ci := 1) (v := .ref b1) (C := RX1) (T := TX1) (N := 7) hx hb hts iX1 hown hK hP 0 rfl rfl 1 (Nat.le_of_ble_eq_true rfl) qq_61 (fun _ h9 => h9) rfl dX1_addLine_13 ?_
  refine lv_aload_n hx hb dX1_addLine_16 rfl (lv_at hl 0 rfl) ?_
  refine va_get (D := Z.1) (ci := 1) (v := .int (nI nl)) (C := RX1) (T := TX1) (N := 7) hx hb hts iX1 hown hK hP 0 rfl rfl 5 (Nat.le_of_ble_eq_true rfl) qq_65 (fun _ h9 => h9) rfl dX1_addLine_17 ?_
  refine lv_iload_n hx hb dX1_addLine_20 rfl (lv_at hl 1 rfl) ?_
  refine ln_iast hx hb hK hP hD hS 2 rfl (by omega) (by omega) dX1_addLine_21 (fun H locs hP hD hS => ?_)
  have hP : va_P Z.1 vwCl [(hc, .inr (1, [.ref b0, .ref b1, .ref b2, .ref b3, .ref b4, .int (nI nl), .int (nI now)])), (b0, xI Z 4 v), (b1, xI Z 24 (va_up op nl o1)), (b2, xI Z 24 wk), (b3, xI Z 24 on), (b4, xI Z 24 iz)] H := hP
  have hD : va_D A [(hc, .inr (1, [.ref b0, .ref b1, .ref b2, .ref b3, .ref b4, .int (nI nl), .int (nI now)])), (b0, xI Z 4 v), (b1, xI Z 24 (va_up op nl o1)), (b2, xI Z 24 wk), (b3, xI Z 24 on), (b4, xI Z 24 iz)] := hD
  refine lv_aload_n hx hb dX1_addLine_22 rfl (lv_at hl 0 rfl) ?_
  refine va_get (D := Z.1) (ci := 1) (v := .ref b2) (C := RX1) (T := TX1) (N := 7) hx hb hts iX1 hown hK hP 0 rfl rfl 2 (Nat.le_of_ble_eq_true rfl) qq_62 (fun _ h9 => h9) rfl dX1_addLine_23 ?_
  refine lv_aload_n hx hb dX1_addLine_26 rfl (lv_at hl 0 rfl) ?_
  refine va_get (D := Z.1) (ci := 1) (v := .int (nI nl)) (C := RX1) (T := TX1) (N := 7) hx hb hts iX1 hown hK hP 0 rfl rfl 5 (Nat.le_of_ble_eq_true rfl) qq_65 (fun _ h9 => h9) rfl dX1_addLine_27 ?_
  refine lv_iload_n hx hb dX1_addLine_30 rfl (lv_at hl 2 rfl) ?_
  refine ln_iast hx hb hK hP hD hS 3 rfl (by omega) (by omega) dX1_addLine_31 (fun H locs hP hD hS => ?_)
  have hP : va_P Z.1 vwCl [(hc, .inr (1, [.ref b0, .ref b1, .ref b2, .ref b3, .ref b4, .int (nI nl), .int (nI now)])), (b0, xI Z 4 v), (b1, xI Z 24 (va_up op nl o1)), (b2, xI Z 24 (va_up wk nl w1)), (b3, xI Z 24 on), (b4, xI Z 24 iz)] H := hP
  have hD : va_D A [(hc, .inr (1, [.ref b0, .ref b1, .ref b2, .ref b3, .ref b4, .int (nI nl), .int (nI now)])), (b0, xI Z 4 v), (b1, xI Z 24 (va_up op nl o1)), (b2, xI Z 24 (va_up wk nl w1)), (b3, xI Z 24 on), (b4, xI Z 24 iz)] := hD
  refine lv_aload_n hx hb dX1_addLine_32 rfl (lv_at hl 0 rfl) ?_
  refine va_get (D := Z.1) (ci := 1) (v := .ref b3) (C := RX1) (T := TX1) (N := 7) hx hb hts iX1 hown hK hP 0 rfl rfl 3 (Nat.le_of_ble_eq_true rfl) qq_63 (fun _ h9 => h9) rfl dX1_addLine_33 ?_
  refine lv_aload_n hx hb dX1_addLine_36 rfl (lv_at hl 0 rfl) ?_
  refine va_get (D := Z.1) (ci := 1) (v := .int (nI nl)) (C := RX1) (T := TX1) (N := 7) hx hb hts iX1 hown hK hP 0 rfl rfl 5 (Nat.le_of_ble_eq_true rfl) qq_65 (fun _ h9 => h9) rfl dX1_addLine_37 ?_
  refine lv_iload_n hx hb dX1_addLine_40 rfl (lv_at hl 3 rfl) ?_
  refine ln_iast hx hb hK hP hD hS 4 rfl (by omega) (by omega) dX1_addLine_41 (fun H locs hP hD hS => ?_)
  have hP : va_P Z.1 vwCl [(hc, .inr (1, [.ref b0, .ref b1, .ref b2, .ref b3, .ref b4, .int (nI nl), .int (nI now)])), (b0, xI Z 4 v), (b1, xI Z 24 (va_up op nl o1)), (b2, xI Z 24 (va_up wk nl w1)), (b3, xI Z 24 (va_up on nl n1)), (b4, xI Z 24 iz)] H := hP
  have hD : va_D A [(hc, .inr (1, [.ref b0, .ref b1, .ref b2, .ref b3, .ref b4, .int (nI nl), .int (nI now)])), (b0, xI Z 4 v), (b1, xI Z 24 (va_up op nl o1)), (b2, xI Z 24 (va_up wk nl w1)), (b3, xI Z 24 (va_up on nl n1)), (b4, xI Z 24 iz)] := hD
  refine lv_aload_n hx hb dX1_addLine_42 rfl (lv_at hl 0 rfl) ?_
  refine va_get (D := Z.1) (ci := 1) (v := .ref b4) (C := RX1) (T := TX1) (N := 7) hx hb hts iX1 hown hK hP 0 rfl rfl 4 (Nat.le_of_ble_eq_true rfl) qq_64 (fun _ h9 => h9) rfl dX1_addLine_43 ?_
  refine lv_aload_n hx hb dX1_addLine_46 rfl (lv_at hl 0 rfl) ?_
  refine va_get (D := Z.1) (ci := 1) (v := .int (nI nl)) (C := RX1) (T := TX1) (N := 7) hx hb hts iX1 hown hK hP 0 rfl rfl 5 (Nat.le_of_ble_eq_true rfl) qq_65 (fun _ h9 => h9) rfl dX1_addLine_47 ?_
  refine lv_iload hx hb dX1_addLine_50 (lv_at hl 4 rfl) ?_
  refine ln_iast hx hb hK hP hD hS 5 rfl (by omega) (by omega) dX1_addLine_52 (fun H locs hP hD hS => ?_)
  have hP : va_P Z.1 vwCl [(hc, .inr (1, [.ref b0, .ref b1, .ref b2, .ref b3, .ref b4, .int (nI nl), .int (nI now)])), (b0, xI Z 4 v), (b1, xI Z 24 (va_up op nl o1)), (b2, xI Z 24 (va_up wk nl w1)), (b3, xI Z 24 (va_up on nl n1)), (b4, xI Z 24 (va_up iz nl z1))] H := hP
  have hD : va_D A [(hc, .inr (1, [.ref b0, .ref b1, .ref b2, .ref b3, .ref b4, .int (nI nl), .int (nI now)])), (b0, xI Z 4 v), (b1, xI Z 24 (va_up op nl o1)), (b2, xI Z 24 (va_up wk nl w1)), (b3, xI Z 24 (va_up on nl n1)), (b4, xI Z 24 (va_up iz nl z1))] := hD
  refine lv_aload_n hx hb dX1_addLine_53 rfl (lv_at hl 0 rfl) ?_
  refine lv_dup hx hb dX1_addLine_54 rfl ?_
  refine va_get (D := Z.1) (ci := 1) (v := .int (nI nl)) (C := RX1) (T := TX1) (N := 7) hx hb hts iX1 hown hK hP 0 rfl rfl 5 (Nat.le_of_ble_eq_true rfl) qq_65 (fun _ h9 => h9) rfl dX1_addLine_55 ?_
  refine ln_const 1 hx hb dX1_addLine_58 (by decide) ?_
  refine ln_iadd (nl + 1) hx hb dX1_addLine_59 (by first | rfl | omega) ?_
  refine va_put (D := Z.1) (ci := 1) (v := .int (nI (nl + 1))) (ty := tyX1 5) (C := RX1) (T := TX1) (N := 7) hx hb hts iX1 tyX1 tyX1_ok nmX1 hown hK hP hD hS 0 rfl rfl 5 (Nat.le_of_ble_eq_true rfl) qq_65 (fun _ h9 => h9) rfl (tyX1_ok 5 (Nat.le_of_ble_eq_true rfl)) rfl rfl (Nat.le_of_ble_eq_true rfl) dX1_addLine_60 (fun H locs hP hD hS => ?_)
  have hP : va_P Z.1 vwCl [(hc, .inr (1, [.ref b0, .ref b1, .ref b2, .ref b3, .ref b4, .int (nI (nl + 1)), .int (nI now)])), (b0, xI Z 4 v), (b1, xI Z 24 (va_up op nl o1)), (b2, xI Z 24 (va_up wk nl w1)), (b3, xI Z 24 (va_up on nl n1)), (b4, xI Z 24 (va_up iz nl z1))] H := hP
  have hD : va_D A [(hc, .inr (1, [.ref b0, .ref b1, .ref b2, .ref b3, .ref b4, .int (nI (nl + 1)), .int (nI now)])), (b0, xI Z 4 v), (b1, xI Z 24 (va_up op nl o1)), (b2, xI Z 24 (va_up wk nl w1)), (b3, xI Z 24 (va_up on nl n1)), (b4, xI Z 24 (va_up iz nl z1))] := hD
  refine lv_aload_n hx hb dX1_addLine_63 rfl (lv_at hl 0 rfl) ?_
  refine va_get (D := Z.1) (ci := 1) (v := .int (nI (nl + 1))) (C := RX1) (T := TX1) (N := 7) hx hb hts iX1 hown hK hP 0 rfl rfl 5 (Nat.le_of_ble_eq_true rfl) qq_65 (fun _ h9 => h9) rfl dX1_addLine_64 ?_
  exact x_iret hC hr hk hP hD hS dX1_addLine_67 ⟨rfl, rfl⟩

set_option maxHeartbeats 4000000 in
set_option maxRecDepth 100000 in
theorem c_X1_addLine_full (l : Launch) (Z : xZ) (hc b0 b1 b2 b3 b4 : Nat) (v op wk on iz : Nat → Nat) (nl now : Nat) (o1 w1 n1 z1 : Nat) (hnl : 24 ≤ nl) (hnl2 : nl < 1000) : xMi l Z yX1_addLine vX1_addLine ({ frames := 0, cells := 0, slots := 0, locals := 0 } : Room) [.ref hc, .int (nI o1), .int (nI w1), .int (nI n1), .int (nI z1)] [(hc, .inr (1, [.ref b0, .ref b1, .ref b2, .ref b3, .ref b4, .int (nI nl), .int (nI now)])), (b0, xI Z 4 v), (b1, xI Z 24 op), (b2, xI Z 24 wk), (b3, xI Z 24 on), (b4, xI Z 24 iz)] (fun r w => r = -3 ∧ w = [(hc, .inr (1, [.ref b0, .ref b1, .ref b2, .ref b3, .ref b4, .int (nI nl), .int (nI now)])), (b0, xI Z 4 v), (b1, xI Z 24 op), (b2, xI Z 24 wk), (b3, xI Z 24 on), (b4, xI Z 24 iz)]) := by
  refine x_i (by decide) rfl (Nat.le_of_ble_eq_true rfl) ?_
  intro p e s m args below meth c ls A hC hr hk hl hP hD hS
  have hx := hC.1.1
  have hb := hC.1.2.1
  have hml := hC.1.2.2.1
  have hown : s.vm.findClass RX1 = some m.cls := hC.1.2.2.2.1
  have hts := hC.1.2.2.2.2
  have hK := hC.2.1
  have qq_65 := hts (Cond.fieldLink RX1 27 "TagTower$Counters" "lines" "I") (List.mem_cons_of_mem _ wq_65)
  have iX1 : ∀ w ∈ wsX10, w ∈ vX1_addLine := fun w h => List.mem_cons_of_mem _ (wi_X1 w h)
  have hl : lv_has ls 5 [(0, .ref hc), (1, .int (nI o1)), (2, .int (nI w1)), (3, .int (nI n1)), (4, .int (nI z1))] := hl
  have hP : va_P Z.1 vwCl [(hc, .inr (1, [.ref b0, .ref b1, .ref b2, .ref b3, .ref b4, .int (nI nl), .int (nI now)])), (b0, xI Z 4 v), (b1, xI Z 24 op), (b2, xI Z 24 wk), (b3, xI Z 24 on), (b4, xI Z 24 iz)] s.heap := hP
  have hD : va_D A [(hc, .inr (1, [.ref b0, .ref b1, .ref b2, .ref b3, .ref b4, .int (nI nl), .int (nI now)])), (b0, xI Z 4 v), (b1, xI Z 24 op), (b2, xI Z 24 wk), (b3, xI Z 24 on), (b4, xI Z 24 iz)] := hD
  refine lv_aload_n hx hb dX1_addLine_0 rfl (lv_at hl 0 rfl) ?_
  refine va_get (D := Z.1) (ci := 1) (v := .int (nI nl)) (C := RX1) (T := TX1) (N := 7) hx hb hts iX1 hown hK hP 0 rfl rfl 5 (Nat.le_of_ble_eq_true rfl) qq_65 (fun _ h9 => h9) rfl dX1_addLine_1 ?_
  refine ln_bipush 24 hx hb dX1_addLine_4 (by decide) ?_
  refine ln_icmp_lt (tgt := 12) hx hb dX1_addLine_6 (by decide) (by omega) (by omega) (fun h6 => False.elim (by omega)) (fun h6 => ?_)
  refine lv_bipush (v := (-3)) hx hb dX1_addLine_9 (by decide) ?_
  exact x_iret hC hr hk hP hD hS dX1_addLine_11 ⟨rfl, rfl⟩

set_option maxHeartbeats 4000000 in
set_option maxRecDepth 100000 in
theorem c_X1_forgetLines (l : Launch) (Z : xZ) (hc b0 b1 b2 b3 b4 : Nat) (v op wk on iz : Nat → Nat) (nl now : Nat) : xMi l Z yX1_forgetLines vX1_forgetLines ({ frames := 0, cells := 0, slots := 0, locals := 0 } : Room) [.ref hc] [(hc, .inr (1, [.ref b0, .ref b1, .ref b2, .ref b3, .ref b4, .int (nI nl), .int (nI now)])), (b0, xI Z 4 v), (b1, xI Z 24 op), (b2, xI Z 24 wk), (b3, xI Z 24 on), (b4, xI Z 24 iz)] (fun r w => r = nI nl ∧ w = [(hc, .inr (1, [.ref b0, .ref b1, .ref b2, .ref b3, .ref b4, .int (nI 0), .int (nI 0)])), (b0, xI Z 4 v), (b1, xI Z 24 op), (b2, xI Z 24 wk), (b3, xI Z 24 on), (b4, xI Z 24 iz)]) := by
  refine x_i (by decide) rfl (Nat.le_of_ble_eq_true rfl) ?_
  intro p e s m args below meth c ls A hC hr hk hl hP hD hS
  have hx := hC.1.1
  have hb := hC.1.2.1
  have hml := hC.1.2.2.1
  have hown : s.vm.findClass RX1 = some m.cls := hC.1.2.2.2.1
  have hts := hC.1.2.2.2.2
  have hK := hC.2.1
  have qq_65 := hts (Cond.fieldLink RX1 27 "TagTower$Counters" "lines" "I") (List.mem_cons_of_mem _ wq_65)
  have iX1 : ∀ w ∈ wsX10, w ∈ vX1_forgetLines := fun w h => List.mem_cons_of_mem _ (wi_X1 w h)
  have qq_66 := hts (Cond.fieldLink RX1 31 "TagTower$Counters" "now" "I") (List.mem_cons_of_mem _ wq_66)
  have hl : lv_has ls 2 [(0, .ref hc)] := hl
  have hP : va_P Z.1 vwCl [(hc, .inr (1, [.ref b0, .ref b1, .ref b2, .ref b3, .ref b4, .int (nI nl), .int (nI now)])), (b0, xI Z 4 v), (b1, xI Z 24 op), (b2, xI Z 24 wk), (b3, xI Z 24 on), (b4, xI Z 24 iz)] s.heap := hP
  have hD : va_D A [(hc, .inr (1, [.ref b0, .ref b1, .ref b2, .ref b3, .ref b4, .int (nI nl), .int (nI now)])), (b0, xI Z 4 v), (b1, xI Z 24 op), (b2, xI Z 24 wk), (b3, xI Z 24 on), (b4, xI Z 24 iz)] := hD
  refine lv_aload_n hx hb dX1_forgetLines_0 rfl (lv_at hl 0 rfl) ?_
  refine va_get (D := Z.1) (ci := 1) (v := .int (nI nl)) (C := RX1) (T := TX1) (N := 7) hx hb hts iX1 hown hK hP 0 rfl rfl 5 (Nat.le_of_ble_eq_true rfl) qq_65 (fun _ h9 => h9) rfl dX1_forgetLines_1 ?_
  refine lv_istore_n (lv' := [(1, .int (nI nl)), (0, .ref hc)]) hx hb dX1_forgetLines_4 rfl hl (by decide) rfl (fun ls hl => ?_)
  refine lv_aload_n hx hb dX1_forgetLines_5 rfl (lv_at hl 1 rfl) ?_
  refine ln_const 0 hx hb dX1_forgetLines_6 (by decide) ?_
  refine va_put (D := Z.1) (ci := 1) (v := .int (nI 0)) (ty := tyX1 5) (C := RX1) (T := TX1) (N := 7) hx hb hts iX1 tyX1 tyX1_ok nmX1 hown hK hP hD hS 0 rfl rfl 5 (Nat.le_of_ble_eq_true rfl) qq_65 (fun _ h9 => h9) rfl (tyX1_ok 5 (Nat.le_of_ble_eq_true rfl)) rfl rfl (Nat.le_of_ble_eq_true rfl) dX1_forgetLines_7 (fun H locs hP hD hS => ?_)
  have hP : va_P Z.1 vwCl [(hc, .inr (1, [.ref b0, .ref b1, .ref b2, .ref b3, .ref b4, .int (nI 0), .int (nI now)])), (b0, xI Z 4 v), (b1, xI Z 24 op), (b2, xI Z 24 wk), (b3, xI Z 24 on), (b4, xI Z 24 iz)] H := hP
  have hD : va_D A [(hc, .inr (1, [.ref b0, .ref b1, .ref b2, .ref b3, .ref b4, .int (nI 0), .int (nI now)])), (b0, xI Z 4 v), (b1, xI Z 24 op), (b2, xI Z 24 wk), (b3, xI Z 24 on), (b4, xI Z 24 iz)] := hD
  refine lv_aload_n hx hb dX1_forgetLines_10 rfl (lv_at hl 1 rfl) ?_
  refine ln_const 0 hx hb dX1_forgetLines_11 (by decide) ?_
  refine va_put (D := Z.1) (ci := 1) (v := .int (nI 0)) (ty := tyX1 6) (C := RX1) (T := TX1) (N := 7) hx hb hts iX1 tyX1 tyX1_ok nmX1 hown hK hP hD hS 0 rfl rfl 6 (Nat.le_of_ble_eq_true rfl) qq_66 (fun _ h9 => h9) rfl (tyX1_ok 6 (Nat.le_of_ble_eq_true rfl)) rfl rfl (Nat.le_of_ble_eq_true rfl) dX1_forgetLines_12 (fun H locs hP hD hS => ?_)
  have hP : va_P Z.1 vwCl [(hc, .inr (1, [.ref b0, .ref b1, .ref b2, .ref b3, .ref b4, .int (nI 0), .int (nI 0)])), (b0, xI Z 4 v), (b1, xI Z 24 op), (b2, xI Z 24 wk), (b3, xI Z 24 on), (b4, xI Z 24 iz)] H := hP
  have hD : va_D A [(hc, .inr (1, [.ref b0, .ref b1, .ref b2, .ref b3, .ref b4, .int (nI 0), .int (nI 0)])), (b0, xI Z 4 v), (b1, xI Z 24 op), (b2, xI Z 24 wk), (b3, xI Z 24 on), (b4, xI Z 24 iz)] := hD
  refine lv_iload_n hx hb dX1_forgetLines_15 rfl (lv_at hl 0 rfl) ?_
  exact x_iret hC hr hk hP hD hS dX1_forgetLines_16 ⟨rfl, rfl⟩

set_option maxHeartbeats 4000000 in
set_option maxRecDepth 100000 in
theorem c_X1_value (l : Launch) (Z : xZ) (hc b0 b1 b2 b3 b4 : Nat) (v op wk on iz : Nat → Nat) (nl now : Nat) (j : Nat) (hj : j < 4) : xMi l Z yX1_value vX1_value ({ frames := 0, cells := 0, slots := 0, locals := 0 } : Room) [.ref hc, .int (nI j)] [(hc, .inr (1, [.ref b0, .ref b1, .ref b2, .ref b3, .ref b4, .int (nI nl), .int (nI now)])), (b0, xI Z 4 v), (b1, xI Z 24 op), (b2, xI Z 24 wk), (b3, xI Z 24 on), (b4, xI Z 24 iz)] (fun r w => r = nI (v j) ∧ w = [(hc, .inr (1, [.ref b0, .ref b1, .ref b2, .ref b3, .ref b4, .int (nI nl), .int (nI now)])), (b0, xI Z 4 v), (b1, xI Z 24 op), (b2, xI Z 24 wk), (b3, xI Z 24 on), (b4, xI Z 24 iz)]) := by
  refine x_i (by decide) rfl (Nat.le_of_ble_eq_true rfl) ?_
  intro p e s m args below meth c ls A hC hr hk hl hP hD hS
  have hx := hC.1.1
  have hb := hC.1.2.1
  have hml := hC.1.2.2.1
  have hown : s.vm.findClass RX1 = some m.cls := hC.1.2.2.2.1
  have hts := hC.1.2.2.2.2
  have hK := hC.2.1
  have qq_60 := hts (Cond.fieldLink RX1 9 "TagTower$Counters" "values" "[I") (List.mem_cons_of_mem _ wq_60)
  have iX1 : ∀ w ∈ wsX10, w ∈ vX1_value := fun w h => List.mem_cons_of_mem _ (wi_X1 w h)
  have hl : lv_has ls 2 [(0, .ref hc), (1, .int (nI j))] := hl
  have hP : va_P Z.1 vwCl [(hc, .inr (1, [.ref b0, .ref b1, .ref b2, .ref b3, .ref b4, .int (nI nl), .int (nI now)])), (b0, xI Z 4 v), (b1, xI Z 24 op), (b2, xI Z 24 wk), (b3, xI Z 24 on), (b4, xI Z 24 iz)] s.heap := hP
  have hD : va_D A [(hc, .inr (1, [.ref b0, .ref b1, .ref b2, .ref b3, .ref b4, .int (nI nl), .int (nI now)])), (b0, xI Z 4 v), (b1, xI Z 24 op), (b2, xI Z 24 wk), (b3, xI Z 24 on), (b4, xI Z 24 iz)] := hD
  refine lv_aload_n hx hb dX1_value_0 rfl (lv_at hl 0 rfl) ?_
  refine va_get (D := Z.1) (ci := 1) (v := .ref b0) (C := RX1) (T := TX1) (N := 7) hx hb hts iX1 hown hK hP 0 rfl rfl 0 (Nat.le_of_ble_eq_true rfl) qq_60 (fun _ h9 => h9) rfl dX1_value_1 ?_
  refine lv_iload_n hx hb dX1_value_4 rfl (lv_at hl 1 rfl) ?_
  refine ln_iald hx hb hK hP 1 rfl (by omega) (by omega) dX1_value_5 ?_
  exact x_iret hC hr hk hP hD hS dX1_value_6 ⟨rfl, rfl⟩

set_option maxHeartbeats 4000000 in
set_option maxRecDepth 100000 in
theorem c_X1_putValue (l : Launch) (Z : xZ) (hc b0 b1 b2 b3 b4 : Nat) (v op wk on iz : Nat → Nat) (nl now : Nat) (j y : Nat) (hj : j < 4) : xMi l Z yX1_putValue vX1_putValue ({ frames := 0, cells := 0, slots := 0, locals := 0 } : Room) [.ref hc, .int (nI j), .int (nI y)] [(hc, .inr (1, [.ref b0, .ref b1, .ref b2, .ref b3, .ref b4, .int (nI nl), .int (nI now)])), (b0, xI Z 4 v), (b1, xI Z 24 op), (b2, xI Z 24 wk), (b3, xI Z 24 on), (b4, xI Z 24 iz)] (fun r w => r = nI (v j) ∧ w = [(hc, .inr (1, [.ref b0, .ref b1, .ref b2, .ref b3, .ref b4, .int (nI nl), .int (nI now)])), (b0, xI Z 4 (va_up v j y)), (b1, xI Z 24 op), (b2, xI Z 24 wk), (b3, xI Z 24 on), (b4, xI Z 24 iz)]) := by
  refine x_i (by decide) rfl (Nat.le_of_ble_eq_true rfl) ?_
  intro p e s m args below meth c ls A hC hr hk hl hP hD hS
  have hx := hC.1.1
  have hb := hC.1.2.1
  have hml := hC.1.2.2.1
  have hown : s.vm.findClass RX1 = some m.cls := hC.1.2.2.2.1
  have hts := hC.1.2.2.2.2
  have hK := hC.2.1
  have qq_60 := hts (Cond.fieldLink RX1 9 "TagTower$Counters" "values" "[I") (List.mem_cons_of_mem _ wq_60)
  have iX1 : ∀ w ∈ wsX10, w ∈ vX1_putValue := fun w h => List.mem_cons_of_mem _ (wi_X1 w h)
  have hl : lv_has ls 4 [(0, .ref hc), (1, .int (nI j)), (2, .int (nI y))] := hl
  have hP : va_P Z.1 vwCl [(hc, .inr (1, [.ref b0, .ref b1, .ref b2, .ref b3, .ref b4, .int (nI nl), .int (nI now)])), (b0, xI Z 4 v), (b1, xI Z 24 op), (b2, xI Z 24 wk), (b3, xI Z 24 on), (b4, xI Z 24 iz)] s.heap := hP
  have hD : va_D A [(hc, .inr (1, [.ref b0, .ref b1, .ref b2, .ref b3, .ref b4, .int (nI nl), .int (nI now)])), (b0, xI Z 4 v), (b1, xI Z 24 op), (b2, xI Z 24 wk), (b3, xI Z 24 on), (b4, xI Z 24 iz)] := hD
  refine lv_aload_n hx hb dX1_putValue_0 rfl (lv_at hl 0 rfl) ?_
  refine va_get (D := Z.1) (ci := 1) (v := .ref b0) (C := RX1) (T := TX1) (N := 7) hx hb hts iX1 hown hK hP 0 rfl rfl 0 (Nat.le_of_ble_eq_true rfl) qq_60 (fun _ h9 => h9) rfl dX1_putValue_1 ?_
  refine lv_iload_n hx hb dX1_putValue_4 rfl (lv_at hl 1 rfl) ?_
  refine ln_iald hx hb hK hP 1 rfl (by omega) (by omega) dX1_putValue_5 ?_
  refine lv_istore_n (lv' := [(3, .int (nI (v j))), (0, .ref hc), (1, .int (nI j)), (2, .int (nI y))]) hx hb dX1_putValue_6 rfl hl (by decide) rfl (fun ls hl => ?_)
  refine lv_aload_n hx hb dX1_putValue_7 rfl (lv_at hl 1 rfl) ?_
  refine va_get (D := Z.1) (ci := 1) (v := .ref b0) (C := RX1) (T := TX1) (N := 7) hx hb hts iX1 hown hK hP 0 rfl rfl 0 (Nat.le_of_ble_eq_true rfl) qq_60 (fun _ h9 => h9) rfl dX1_putValue_8 ?_
  refine lv_iload_n hx hb dX1_putValue_11 rfl (lv_at hl 2 rfl) ?_
  refine lv_iload_n hx hb dX1_putValue_12 rfl (lv_at hl 3 rfl) ?_
  refine ln_iast hx hb hK hP hD hS 1 rfl (by omega) (by omega) dX1_putValue_13 (fun H locs hP hD hS => ?_)
  have hP : va_P Z.1 vwCl [(hc, .inr (1, [.ref b0, .ref b1, .ref b2, .ref b3, .ref b4, .int (nI nl), .int (nI now)])), (b0, xI Z 4 (va_up v j y)), (b1, xI Z 24 op), (b2, xI Z 24 wk), (b3, xI Z 24 on), (b4, xI Z 24 iz)] H := hP
  have hD : va_D A [(hc, .inr (1, [.ref b0, .ref b1, .ref b2, .ref b3, .ref b4, .int (nI nl), .int (nI now)])), (b0, xI Z 4 (va_up v j y)), (b1, xI Z 24 op), (b2, xI Z 24 wk), (b3, xI Z 24 on), (b4, xI Z 24 iz)] := hD
  refine lv_iload_n hx hb dX1_putValue_14 rfl (lv_at hl 0 rfl) ?_
  exact x_iret hC hr hk hP hD hS dX1_putValue_15 ⟨rfl, rfl⟩

set_option maxHeartbeats 4000000 in
set_option maxRecDepth 100000 in
theorem c_X1_lineNow (l : Launch) (Z : xZ) (hc b0 b1 b2 b3 b4 : Nat) (v op wk on iz : Nat → Nat) (nl now : Nat) : xMi l Z yX1_lineNow vX1_lineNow ({ frames := 0, cells := 0, slots := 0, locals := 0 } : Room) [.ref hc] [(hc, .inr (1, [.ref b0, .ref b1, .ref b2, .ref b3, .ref b4, .int (nI nl), .int (nI now)])), (b0, xI Z 4 v), (b1, xI Z 24 op), (b2, xI Z 24 wk), (b3, xI Z 24 on), (b4, xI Z 24 iz)] (fun r w => r = nI now ∧ w = [(hc, .inr (1, [.ref b0, .ref b1, .ref b2, .ref b3, .ref b4, .int (nI nl), .int (nI now)])), (b0, xI Z 4 v), (b1, xI Z 24 op), (b2, xI Z 24 wk), (b3, xI Z 24 on), (b4, xI Z 24 iz)]) := by
  refine x_i (by decide) rfl (Nat.le_of_ble_eq_true rfl) ?_
  intro p e s m args below meth c ls A hC hr hk hl hP hD hS
  have hx := hC.1.1
  have hb := hC.1.2.1
  have hml := hC.1.2.2.1
  have hown : s.vm.findClass RX1 = some m.cls := hC.1.2.2.2.1
  have hts := hC.1.2.2.2.2
  have hK := hC.2.1
  have qq_66 := hts (Cond.fieldLink RX1 31 "TagTower$Counters" "now" "I") (List.mem_cons_of_mem _ wq_66)
  have iX1 : ∀ w ∈ wsX10, w ∈ vX1_lineNow := fun w h => List.mem_cons_of_mem _ (wi_X1 w h)
  have hl : lv_has ls 1 [(0, .ref hc)] := hl
  have hP : va_P Z.1 vwCl [(hc, .inr (1, [.ref b0, .ref b1, .ref b2, .ref b3, .ref b4, .int (nI nl), .int (nI now)])), (b0, xI Z 4 v), (b1, xI Z 24 op), (b2, xI Z 24 wk), (b3, xI Z 24 on), (b4, xI Z 24 iz)] s.heap := hP
  have hD : va_D A [(hc, .inr (1, [.ref b0, .ref b1, .ref b2, .ref b3, .ref b4, .int (nI nl), .int (nI now)])), (b0, xI Z 4 v), (b1, xI Z 24 op), (b2, xI Z 24 wk), (b3, xI Z 24 on), (b4, xI Z 24 iz)] := hD
  refine lv_aload_n hx hb dX1_lineNow_0 rfl (lv_at hl 0 rfl) ?_
  refine va_get (D := Z.1) (ci := 1) (v := .int (nI now)) (C := RX1) (T := TX1) (N := 7) hx hb hts iX1 hown hK hP 0 rfl rfl 6 (Nat.le_of_ble_eq_true rfl) qq_66 (fun _ h9 => h9) rfl dX1_lineNow_1 ?_
  exact x_iret hC hr hk hP hD hS dX1_lineNow_4 ⟨rfl, rfl⟩

set_option maxHeartbeats 4000000 in
set_option maxRecDepth 100000 in
theorem c_X1_jump (l : Launch) (Z : xZ) (hc b0 b1 b2 b3 b4 : Nat) (v op wk on iz : Nat → Nat) (nl now : Nat) (y : Nat) : xMi l Z yX1_jump vX1_jump ({ frames := 0, cells := 0, slots := 0, locals := 0 } : Room) [.ref hc, .int (nI y)] [(hc, .inr (1, [.ref b0, .ref b1, .ref b2, .ref b3, .ref b4, .int (nI nl), .int (nI now)])), (b0, xI Z 4 v), (b1, xI Z 24 op), (b2, xI Z 24 wk), (b3, xI Z 24 on), (b4, xI Z 24 iz)] (fun r w => r = nI now ∧ w = [(hc, .inr (1, [.ref b0, .ref b1, .ref b2, .ref b3, .ref b4, .int (nI nl), .int (nI y)])), (b0, xI Z 4 v), (b1, xI Z 24 op), (b2, xI Z 24 wk), (b3, xI Z 24 on), (b4, xI Z 24 iz)]) := by
  refine x_i (by decide) rfl (Nat.le_of_ble_eq_true rfl) ?_
  intro p e s m args below meth c ls A hC hr hk hl hP hD hS
  have hx := hC.1.1
  have hb := hC.1.2.1
  have hml := hC.1.2.2.1
  have hown : s.vm.findClass RX1 = some m.cls := hC.1.2.2.2.1
  have hts := hC.1.2.2.2.2
  have hK := hC.2.1
  have qq_66 := hts (Cond.fieldLink RX1 31 "TagTower$Counters" "now" "I") (List.mem_cons_of_mem _ wq_66)
  have iX1 : ∀ w ∈ wsX10, w ∈ vX1_jump := fun w h => List.mem_cons_of_mem _ (wi_X1 w h)
  have hl : lv_has ls 3 [(0, .ref hc), (1, .int (nI y))] := hl
  have hP : va_P Z.1 vwCl [(hc, .inr (1, [.ref b0, .ref b1, .ref b2, .ref b3, .ref b4, .int (nI nl), .int (nI now)])), (b0, xI Z 4 v), (b1, xI Z 24 op), (b2, xI Z 24 wk), (b3, xI Z 24 on), (b4, xI Z 24 iz)] s.heap := hP
  have hD : va_D A [(hc, .inr (1, [.ref b0, .ref b1, .ref b2, .ref b3, .ref b4, .int (nI nl), .int (nI now)])), (b0, xI Z 4 v), (b1, xI Z 24 op), (b2, xI Z 24 wk), (b3, xI Z 24 on), (b4, xI Z 24 iz)] := hD
  refine lv_aload_n hx hb dX1_jump_0 rfl (lv_at hl 0 rfl) ?_
  refine va_get (D := Z.1) (ci := 1) (v := .int (nI now)) (C := RX1) (T := TX1) (N := 7) hx hb hts iX1 hown hK hP 0 rfl rfl 6 (Nat.le_of_ble_eq_true rfl) qq_66 (fun _ h9 => h9) rfl dX1_jump_1 ?_
  refine lv_istore_n (lv' := [(2, .int (nI now)), (0, .ref hc), (1, .int (nI y))]) hx hb dX1_jump_4 rfl hl (by decide) rfl (fun ls hl => ?_)
  refine lv_aload_n hx hb dX1_jump_5 rfl (lv_at hl 1 rfl) ?_
  refine lv_iload_n hx hb dX1_jump_6 rfl (lv_at hl 2 rfl) ?_
  refine va_put (D := Z.1) (ci := 1) (v := .int (nI y)) (ty := tyX1 6) (C := RX1) (T := TX1) (N := 7) hx hb hts iX1 tyX1 tyX1_ok nmX1 hown hK hP hD hS 0 rfl rfl 6 (Nat.le_of_ble_eq_true rfl) qq_66 (fun _ h9 => h9) rfl (tyX1_ok 6 (Nat.le_of_ble_eq_true rfl)) rfl rfl (Nat.le_of_ble_eq_true rfl) dX1_jump_7 (fun H locs hP hD hS => ?_)
  have hP : va_P Z.1 vwCl [(hc, .inr (1, [.ref b0, .ref b1, .ref b2, .ref b3, .ref b4, .int (nI nl), .int (nI y)])), (b0, xI Z 4 v), (b1, xI Z 24 op), (b2, xI Z 24 wk), (b3, xI Z 24 on), (b4, xI Z 24 iz)] H := hP
  have hD : va_D A [(hc, .inr (1, [.ref b0, .ref b1, .ref b2, .ref b3, .ref b4, .int (nI nl), .int (nI y)])), (b0, xI Z 4 v), (b1, xI Z 24 op), (b2, xI Z 24 wk), (b3, xI Z 24 on), (b4, xI Z 24 iz)] := hD
  refine lv_iload_n hx hb dX1_jump_10 rfl (lv_at hl 0 rfl) ?_
  exact x_iret hC hr hk hP hD hS dX1_jump_11 ⟨rfl, rfl⟩

set_option maxHeartbeats 4000000 in
set_option maxRecDepth 100000 in
theorem c_X1_countUp (l : Launch) (Z : xZ) (hc b0 b1 b2 b3 b4 : Nat) (v op wk on iz : Nat → Nat) (nl now : Nat) (hV : CV nl op wk on iz (v, now)) (hnow : now < nl) (hop : op now = 0) : xMi l Z yX1_countUp vX1_countUp ({ frames := 0, cells := 0, slots := 0, locals := 0 } : Room) [.ref hc, .int (nI (wk now))] [(hc, .inr (1, [.ref b0, .ref b1, .ref b2, .ref b3, .ref b4, .int (nI nl), .int (nI now)])), (b0, xI Z 4 v), (b1, xI Z 24 op), (b2, xI Z 24 wk), (b3, xI Z 24 on), (b4, xI Z 24 iz)] (fun r w => (cstep nl op wk on iz (v, now) = none ∧ r = nI 0 ∧ w = [(hc, .inr (1, [.ref b0, .ref b1, .ref b2, .ref b3, .ref b4, .int (nI nl), .int (nI now)])), (b0, xI Z 4 v), (b1, xI Z 24 op), (b2, xI Z 24 wk), (b3, xI Z 24 on), (b4, xI Z 24 iz)]) ∨ (∃ S, cstep nl op wk on iz (v, now) = some S ∧ r = nI 1 ∧ w = [(hc, .inr (1, [.ref b0, .ref b1, .ref b2, .ref b3, .ref b4, .int (nI nl), .int (nI S.2)])), (b0, xI Z 4 S.1), (b1, xI Z 24 op), (b2, xI Z 24 wk), (b3, xI Z 24 on), (b4, xI Z 24 iz)])) := by
  refine x_i (by decide) rfl (Nat.le_of_ble_eq_true rfl) ?_
  intro p e s m args below meth c ls A hC hr hk hl hP hD hS
  have hx := hC.1.1
  have hb := hC.1.2.1
  have hml := hC.1.2.2.1
  have hown : s.vm.findClass RX1 = some m.cls := hC.1.2.2.2.1
  have hts := hC.1.2.2.2.2
  have hK := hC.2.1
  have qq_60 := hts (Cond.fieldLink RX1 9 "TagTower$Counters" "values" "[I") (List.mem_cons_of_mem _ wq_60)
  have iX1 : ∀ w ∈ wsX10, w ∈ vX1_countUp := fun w h => List.mem_cons_of_mem _ (wi_X1 w h)
  have qq_63 := hts (Cond.fieldLink RX1 21 "TagTower$Counters" "onward" "[I") (List.mem_cons_of_mem _ wq_63)
  have qq_66 := hts (Cond.fieldLink RX1 31 "TagTower$Counters" "now" "I") (List.mem_cons_of_mem _ wq_66)
  have hl : lv_has ls 2 [(0, .ref hc), (1, .int (nI (wk now)))] := hl
  have hP : va_P Z.1 vwCl [(hc, .inr (1, [.ref b0, .ref b1, .ref b2, .ref b3, .ref b4, .int (nI nl), .int (nI now)])), (b0, xI Z 4 v), (b1, xI Z 24 op), (b2, xI Z 24 wk), (b3, xI Z 24 on), (b4, xI Z 24 iz)] s.heap := hP
  have hD : va_D A [(hc, .inr (1, [.ref b0, .ref b1, .ref b2, .ref b3, .ref b4, .int (nI nl), .int (nI now)])), (b0, xI Z 4 v), (b1, xI Z 24 op), (b2, xI Z 24 wk), (b3, xI Z 24 on), (b4, xI Z 24 iz)] := hD
  obtain ⟨g1, g2, g3, g4⟩ := id hV
  obtain ⟨g5, g6, g7, g8⟩ := g2 now hnow
  dsimp only at g3 g4
  have g9 := g3 (wk now) (by omega)
  refine lv_aload_n hx hb dX1_countUp_0 rfl (lv_at hl 0 rfl) ?_
  refine va_get (D := Z.1) (ci := 1) (v := .ref b0) (C := RX1) (T := TX1) (N := 7) hx hb hts iX1 hown hK hP 0 rfl rfl 0 (Nat.le_of_ble_eq_true rfl) qq_60 (fun _ h9 => h9) rfl dX1_countUp_1 ?_
  refine lv_iload_n hx hb dX1_countUp_4 rfl (lv_at hl 1 rfl) ?_
  refine ln_iald hx hb hK hP 1 rfl (by omega) (by omega) dX1_countUp_5 ?_
  refine ln_sipush 1000 hx hb dX1_countUp_6 (by decide) ?_
  refine ln_icmp_lt (tgt := 14) hx hb dX1_countUp_9 (by decide) (by omega) (by omega) (fun h9 => ?_) (fun h9 => ?_)
  · refine lv_aload_n hx hb dX1_countUp_14 rfl (lv_at hl 0 rfl) ?_
    refine va_get (D := Z.1) (ci := 1) (v := .ref b0) (C := RX1) (T := TX1) (N := 7) hx hb hts iX1 hown hK hP 0 rfl rfl 0 (Nat.le_of_ble_eq_true rfl) qq_60 (fun _ h9 => h9) rfl dX1_countUp_15 ?_
    refine lv_iload_n hx hb dX1_countUp_18 rfl (lv_at hl 1 rfl) ?_
    refine lv_dup2_11 hx hb dX1_countUp_19 rfl rfl ?_
    refine ln_iald hx hb hK hP 1 rfl (by omega) (by omega) dX1_countUp_20 ?_
    refine ln_const 1 hx hb dX1_countUp_21 (by decide) ?_
    refine ln_iadd ((v (wk now)) + 1) hx hb dX1_countUp_22 (by first | rfl | omega) ?_
    refine ln_iast hx hb hK hP hD hS 1 rfl (by omega) (by omega) dX1_countUp_23 (fun H locs hP hD hS => ?_)
    have hP : va_P Z.1 vwCl [(hc, .inr (1, [.ref b0, .ref b1, .ref b2, .ref b3, .ref b4, .int (nI nl), .int (nI now)])), (b0, xI Z 4 (va_up v (wk now) ((v (wk now)) + 1))), (b1, xI Z 24 op), (b2, xI Z 24 wk), (b3, xI Z 24 on), (b4, xI Z 24 iz)] H := hP
    have hD : va_D A [(hc, .inr (1, [.ref b0, .ref b1, .ref b2, .ref b3, .ref b4, .int (nI nl), .int (nI now)])), (b0, xI Z 4 (va_up v (wk now) ((v (wk now)) + 1))), (b1, xI Z 24 op), (b2, xI Z 24 wk), (b3, xI Z 24 on), (b4, xI Z 24 iz)] := hD
    refine lv_aload_n hx hb dX1_countUp_24 rfl (lv_at hl 0 rfl) ?_
    refine lv_aload_n hx hb dX1_countUp_25 rfl (lv_at hl 0 rfl) ?_
    refine va_get (D := Z.1) (ci := 1) (v := .ref b3) (C := RX1) (T := TX1) (N := 7) hx hb hts iX1 hown hK hP 0 rfl rfl 3 (Nat.le_of_ble_eq_true rfl) qq_63 (fun _ h9 => h9) rfl dX1_countUp_26 ?_
    refine lv_aload_n hx hb dX1_countUp_29 rfl (lv_at hl 0 rfl) ?_
    refine va_get (D := Z.1) (ci := 1) (v := .int (nI now)) (C := RX1) (T := TX1) (N := 7) hx hb hts iX1 hown hK hP 0 rfl rfl 6 (Nat.le_of_ble_eq_true rfl) qq_66 (fun _ h9 => h9) rfl dX1_countUp_30 ?_
    refine ln_iald hx hb hK hP 4 rfl (by omega) (by omega) dX1_countUp_33 ?_
    refine va_put (D := Z.1) (ci := 1) (v := .int (nI (on now))) (ty := tyX1 6) (C := RX1) (T := TX1) (N := 7) hx hb hts iX1 tyX1 tyX1_ok nmX1 hown hK hP hD hS 0 rfl rfl 6 (Nat.le_of_ble_eq_true rfl) qq_66 (fun _ h9 => h9) rfl (tyX1_ok 6 (Nat.le_of_ble_eq_true rfl)) rfl rfl (Nat.le_of_ble_eq_true rfl) dX1_countUp_34 (fun H locs hP hD hS => ?_)
    have hP : va_P Z.1 vwCl [(hc, .inr (1, [.ref b0, .ref b1, .ref b2, .ref b3, .ref b4, .int (nI nl), .int (nI (on now))])), (b0, xI Z 4 (va_up v (wk now) ((v (wk now)) + 1))), (b1, xI Z 24 op), (b2, xI Z 24 wk), (b3, xI Z 24 on), (b4, xI Z 24 iz)] H := hP
    have hD : va_D A [(hc, .inr (1, [.ref b0, .ref b1, .ref b2, .ref b3, .ref b4, .int (nI nl), .int (nI (on now))])), (b0, xI Z 4 (va_up v (wk now) ((v (wk now)) + 1))), (b1, xI Z 24 op), (b2, xI Z 24 wk), (b3, xI Z 24 on), (b4, xI Z 24 iz)] := hD
    refine ln_const 1 hx hb dX1_countUp_37 (by decide) ?_
    exact x_zret hC hr rfl hk hP hD hS dX1_countUp_38 (Or.inr ⟨_, by unfold cstep; dsimp only; rw [if_pos hnow, if_pos hop, if_pos (by omega)], rfl, rfl⟩)
  · refine ln_const 0 hx hb dX1_countUp_12 (by decide) ?_
    exact x_zret hC hr rfl hk hP hD hS dX1_countUp_13 (Or.inl ⟨by unfold cstep; dsimp only; rw [if_pos hnow, if_pos hop, if_neg (by omega)], rfl, rfl⟩)

set_option maxHeartbeats 4000000 in
set_option maxRecDepth 100000 in
theorem c_X1_countDown (l : Launch) (Z : xZ) (hc b0 b1 b2 b3 b4 : Nat) (v op wk on iz : Nat → Nat) (nl now : Nat) (hV : CV nl op wk on iz (v, now)) (hnow : now < nl) (hop : op now = 1) : xMi l Z yX1_countDown vX1_countDown ({ frames := 0, cells := 0, slots := 0, locals := 0 } : Room) [.ref hc, .int (nI (wk now))] [(hc, .inr (1, [.ref b0, .ref b1, .ref b2, .ref b3, .ref b4, .int (nI nl), .int (nI now)])), (b0, xI Z 4 v), (b1, xI Z 24 op), (b2, xI Z 24 wk), (b3, xI Z 24 on), (b4, xI Z 24 iz)] (fun r w => ∃ S, cstep nl op wk on iz (v, now) = some S ∧ r = nI 1 ∧ w = [(hc, .inr (1, [.ref b0, .ref b1, .ref b2, .ref b3, .ref b4, .int (nI nl), .int (nI S.2)])), (b0, xI Z 4 S.1), (b1, xI Z 24 op), (b2, xI Z 24 wk), (b3, xI Z 24 on), (b4, xI Z 24 iz)]) := by
  refine x_i (by decide) rfl (Nat.le_of_ble_eq_true rfl) ?_
  intro p e s m args below meth c ls A hC hr hk hl hP hD hS
  have hx := hC.1.1
  have hb := hC.1.2.1
  have hml := hC.1.2.2.1
  have hown : s.vm.findClass RX1 = some m.cls := hC.1.2.2.2.1
  have hts := hC.1.2.2.2.2
  have hK := hC.2.1
  have qq_60 := hts (Cond.fieldLink RX1 9 "TagTower$Counters" "values" "[I") (List.mem_cons_of_mem _ wq_60)
  have iX1 : ∀ w ∈ wsX10, w ∈ vX1_countDown := fun w h => List.mem_cons_of_mem _ (wi_X1 w h)
  have qq_63 := hts (Cond.fieldLink RX1 21 "TagTower$Counters" "onward" "[I") (List.mem_cons_of_mem _ wq_63)
  have qq_66 := hts (Cond.fieldLink RX1 31 "TagTower$Counters" "now" "I") (List.mem_cons_of_mem _ wq_66)
  have qq_64 := hts (Cond.fieldLink RX1 24 "TagTower$Counters" "ifZero" "[I") (List.mem_cons_of_mem _ wq_64)
  have hl : lv_has ls 2 [(0, .ref hc), (1, .int (nI (wk now)))] := hl
  have hP : va_P Z.1 vwCl [(hc, .inr (1, [.ref b0, .ref b1, .ref b2, .ref b3, .ref b4, .int (nI nl), .int (nI now)])), (b0, xI Z 4 v), (b1, xI Z 24 op), (b2, xI Z 24 wk), (b3, xI Z 24 on), (b4, xI Z 24 iz)] s.heap := hP
  have hD : va_D A [(hc, .inr (1, [.ref b0, .ref b1, .ref b2, .ref b3, .ref b4, .int (nI nl), .int (nI now)])), (b0, xI Z 4 v), (b1, xI Z 24 op), (b2, xI Z 24 wk), (b3, xI Z 24 on), (b4, xI Z 24 iz)] := hD
  obtain ⟨g1, g2, g3, g4⟩ := id hV
  obtain ⟨g5, g6, g7, g8⟩ := g2 now hnow
  dsimp only at g3 g4
  have g9 := g3 (wk now) (by omega)
  refine lv_aload_n hx hb dX1_countDown_0 rfl (lv_at hl 0 rfl) ?_
  refine va_get (D := Z.1) (ci := 1) (v := .ref b0) (C := RX1) (T := TX1) (N := 7) hx hb hts iX1 hown hK hP 0 rfl rfl 0 (Nat.le_of_ble_eq_true rfl) qq_60 (fun _ h9 => h9) rfl dX1_countDown_1 ?_
  refine lv_iload_n hx hb dX1_countDown_4 rfl (lv_at hl 1 rfl) ?_
  refine ln_iald hx hb hK hP 1 rfl (by omega) (by omega) dX1_countDown_5 ?_
  refine ln_if_ne (tgt := 25) hx hb dX1_countDown_6 (by decide) (by omega) (fun h6 => ?_) (fun h6 => ?_)
  · refine lv_aload_n hx hb dX1_countDown_25 rfl (lv_at hl 0 rfl) ?_
    refine va_get (D := Z.1) (ci := 1) (v := .ref b0) (C := RX1) (T := TX1) (N := 7) hx hb hts iX1 hown hK hP 0 rfl rfl 0 (Nat.le_of_ble_eq_true rfl) qq_60 (fun _ h9 => h9) rfl dX1_countDown_26 ?_
    refine lv_iload_n hx hb dX1_countDown_29 rfl (lv_at hl 1 rfl) ?_
    refine lv_dup2_11 hx hb dX1_countDown_30 rfl rfl ?_
    refine ln_iald hx hb hK hP 1 rfl (by omega) (by omega) dX1_countDown_31 ?_
    refine ln_const 1 hx hb dX1_countDown_32 (by decide) ?_
    refine ln_isub ((v (wk now)) - 1) hx hb dX1_countDown_33 (by omega) (by first | rfl | omega) ?_
    refine ln_iast hx hb hK hP hD hS 1 rfl (by omega) (by omega) dX1_countDown_34 (fun H locs hP hD hS => ?_)
    have hP : va_P Z.1 vwCl [(hc, .inr (1, [.ref b0, .ref b1, .ref b2, .ref b3, .ref b4, .int (nI nl), .int (nI now)])), (b0, xI Z 4 (va_up v (wk now) ((v (wk now)) - 1))), (b1, xI Z 24 op), (b2, xI Z 24 wk), (b3, xI Z 24 on), (b4, xI Z 24 iz)] H := hP
    have hD : va_D A [(hc, .inr (1, [.ref b0, .ref b1, .ref b2, .ref b3, .ref b4, .int (nI nl), .int (nI now)])), (b0, xI Z 4 (va_up v (wk now) ((v (wk now)) - 1))), (b1, xI Z 24 op), (b2, xI Z 24 wk), (b3, xI Z 24 on), (b4, xI Z 24 iz)] := hD
    refine lv_aload_n hx hb dX1_countDown_35 rfl (lv_at hl 0 rfl) ?_
    refine lv_aload_n hx hb dX1_countDown_36 rfl (lv_at hl 0 rfl) ?_
    refine va_get (D := Z.1) (ci := 1) (v := .ref b3) (C := RX1) (T := TX1) (N := 7) hx hb hts iX1 hown hK hP 0 rfl rfl 3 (Nat.le_of_ble_eq_true rfl) qq_63 (fun _ h9 => h9) rfl dX1_countDown_37 ?_
    refine lv_aload_n hx hb dX1_countDown_40 rfl (lv_at hl 0 rfl) ?_
    refine va_get (D := Z.1) (ci := 1) (v := .int (nI now)) (C := RX1) (T := TX1) (N := 7) hx hb hts iX1 hown hK hP 0 rfl rfl 6 (Nat.le_of_ble_eq_true rfl) qq_66 (fun _ h9 => h9) rfl dX1_countDown_41 ?_
    refine ln_iald hx hb hK hP 4 rfl (by omega) (by omega) dX1_countDown_44 ?_
    refine va_put (D := Z.1) (ci := 1) (v := .int (nI (on now))) (ty := tyX1 6) (C := RX1) (T := TX1) (N := 7) hx hb hts iX1 tyX1 tyX1_ok nmX1 hown hK hP hD hS 0 rfl rfl 6 (Nat.le_of_ble_eq_true rfl) qq_66 (fun _ h9 => h9) rfl (tyX1_ok 6 (Nat.le_of_ble_eq_true rfl)) rfl rfl (Nat.le_of_ble_eq_true rfl) dX1_countDown_45 (fun H locs hP hD hS => ?_)
    have hP : va_P Z.1 vwCl [(hc, .inr (1, [.ref b0, .ref b1, .ref b2, .ref b3, .ref b4, .int (nI nl), .int (nI (on now))])), (b0, xI Z 4 (va_up v (wk now) ((v (wk now)) - 1))), (b1, xI Z 24 op), (b2, xI Z 24 wk), (b3, xI Z 24 on), (b4, xI Z 24 iz)] H := hP
    have hD : va_D A [(hc, .inr (1, [.ref b0, .ref b1, .ref b2, .ref b3, .ref b4, .int (nI nl), .int (nI (on now))])), (b0, xI Z 4 (va_up v (wk now) ((v (wk now)) - 1))), (b1, xI Z 24 op), (b2, xI Z 24 wk), (b3, xI Z 24 on), (b4, xI Z 24 iz)] := hD
    refine ln_const 1 hx hb dX1_countDown_48 (by decide) ?_
    exact x_zret hC hr rfl hk hP hD hS dX1_countDown_49 ⟨_, by unfold cstep; dsimp only; rw [if_pos hnow, if_neg (by omega), if_pos hop, if_neg (by omega)], rfl, rfl⟩
  · refine lv_aload_n hx hb dX1_countDown_9 rfl (lv_at hl 0 rfl) ?_
    refine lv_aload_n hx hb dX1_countDown_10 rfl (lv_at hl 0 rfl) ?_
    refine va_get (D := Z.1) (ci := 1) (v := .ref b4) (C := RX1) (T := TX1) (N := 7) hx hb hts iX1 hown hK hP 0 rfl rfl 4 (Nat.le_of_ble_eq_true rfl) qq_64 (fun _ h9 => h9) rfl dX1_countDown_11 ?_
    refine lv_aload_n hx hb dX1_countDown_14 rfl (lv_at hl 0 rfl) ?_
    refine va_get (D := Z.1) (ci := 1) (v := .int (nI now)) (C := RX1) (T := TX1) (N := 7) hx hb hts iX1 hown hK hP 0 rfl rfl 6 (Nat.le_of_ble_eq_true rfl) qq_66 (fun _ h9 => h9) rfl dX1_countDown_15 ?_
    refine ln_iald hx hb hK hP 5 rfl (by omega) (by omega) dX1_countDown_18 ?_
    refine va_put (D := Z.1) (ci := 1) (v := .int (nI (iz now))) (ty := tyX1 6) (C := RX1) (T := TX1) (N := 7) hx hb hts iX1 tyX1 tyX1_ok nmX1 hown hK hP hD hS 0 rfl rfl 6 (Nat.le_of_ble_eq_true rfl) qq_66 (fun _ h9 => h9) rfl (tyX1_ok 6 (Nat.le_of_ble_eq_true rfl)) rfl rfl (Nat.le_of_ble_eq_true rfl) dX1_countDown_19 (fun H locs hP hD hS => ?_)
    have hP : va_P Z.1 vwCl [(hc, .inr (1, [.ref b0, .ref b1, .ref b2, .ref b3, .ref b4, .int (nI nl), .int (nI (iz now))])), (b0, xI Z 4 v), (b1, xI Z 24 op), (b2, xI Z 24 wk), (b3, xI Z 24 on), (b4, xI Z 24 iz)] H := hP
    have hD : va_D A [(hc, .inr (1, [.ref b0, .ref b1, .ref b2, .ref b3, .ref b4, .int (nI nl), .int (nI (iz now))])), (b0, xI Z 4 v), (b1, xI Z 24 op), (b2, xI Z 24 wk), (b3, xI Z 24 on), (b4, xI Z 24 iz)] := hD
    refine lv_goto (tgt := 48) hx hb dX1_countDown_22 (by decide) ?_
    refine ln_const 1 hx hb dX1_countDown_48 (by decide) ?_
    exact x_zret hC hr rfl hk hP hD hS dX1_countDown_49 ⟨_, by unfold cstep; dsimp only; rw [if_pos hnow, if_neg (by omega), if_pos hop, if_pos (by omega)], rfl, rfl⟩

theorem kv_X1_countUp : yX1_countUp.cls = RX1 ∧ yX1_countUp.cls ≠ "java/lang/invoke/MethodHandle" ∧ yX1_countUp.cls ≠ "java/lang/invoke/VarHandle" ∧ (parseMethodDescriptor yX1_countUp.desc).map (fun d => d.parameters.length) = some 1 := by decide +kernel
theorem kv_X1_countDown : yX1_countDown.cls = RX1 ∧ yX1_countDown.cls ≠ "java/lang/invoke/MethodHandle" ∧ yX1_countDown.cls ≠ "java/lang/invoke/VarHandle" ∧ (parseMethodDescriptor yX1_countDown.desc).map (fun d => d.parameters.length) = some 1 := by decide +kernel
set_option maxHeartbeats 4000000 in
set_option maxRecDepth 100000 in
theorem c_X1_doLine (l : Launch) (Z : xZ) (hc b0 b1 b2 b3 b4 : Nat) (v op wk on iz : Nat → Nat) (nl now : Nat) (hV : CV nl op wk on iz (v, now)) : xMi l Z yX1_doLine vX1_doLine ({ frames := 1, cells := 0, slots := 0, locals := 22 } : Room) [.ref hc] [(hc, .inr (1, [.ref b0, .ref b1, .ref b2, .ref b3, .ref b4, .int (nI nl), .int (nI now)])), (b0, xI Z 4 v), (b1, xI Z 24 op), (b2, xI Z 24 wk), (b3, xI Z 24 on), (b4, xI Z 24 iz)] (fun r w => (cstep nl op wk on iz (v, now) = none ∧ r = nI 0 ∧ w = [(hc, .inr (1, [.ref b0, .ref b1, .ref b2, .ref b3, .ref b4, .int (nI nl), .int (nI now)])), (b0, xI Z 4 v), (b1, xI Z 24 op), (b2, xI Z 24 wk), (b3, xI Z 24 on), (b4, xI Z 24 iz)]) ∨ (∃ S, cstep nl op wk on iz (v, now) = some S ∧ r = nI 1 ∧ w = [(hc, .inr (1, [.ref b0, .ref b1, .ref b2, .ref b3, .ref b4, .int (nI nl), .int (nI S.2)])), (b0, xI Z 4 S.1), (b1, xI Z 24 op), (b2, xI Z 24 wk), (b3, xI Z 24 on), (b4, xI Z 24 iz)])) := by
  refine x_i (by decide) rfl (Nat.le_of_ble_eq_true rfl) ?_
  intro p e s m args below meth c ls A hC hr hk hl hP hD hS
  have hx := hC.1.1
  have hb := hC.1.2.1
  have hml := hC.1.2.2.1
  have hown : s.vm.findClass RX1 = some m.cls := hC.1.2.2.2.1
  have hts := hC.1.2.2.2.2
  have hK := hC.2.1
  have qq_66 := hts (Cond.fieldLink RX1 31 "TagTower$Counters" "now" "I") (List.mem_cons_of_mem _ wq_66)
  have iX1 : ∀ w ∈ wsX10, w ∈ vX1_doLine := fun w h => List.mem_cons_of_mem _ (wi_X1 w h)
  have qq_65 := hts (Cond.fieldLink RX1 27 "TagTower$Counters" "lines" "I") (List.mem_cons_of_mem _ wq_65)
  have qq_32 := hts (Cond.initialized RX6) (List.mem_cons_of_mem _ wq_32)
  have qq_338 := hts (Cond.static yX6_outside) (List.mem_cons_of_mem _ wq_338)
  have qn_38 := hC.2.2.2.1.1 (RX1, 38, yX6_outside, RX6) (List.mem_of_getElem? (i := 5) rfl)
  have qq_61 := hts (Cond.fieldLink RX1 15 "TagTower$Counters" "ops" "[I") (List.mem_cons_of_mem _ wq_61)
  have qq_62 := hts (Cond.fieldLink RX1 18 "TagTower$Counters" "worked" "[I") (List.mem_cons_of_mem _ wq_62)
  have hl : lv_has ls 1 [(0, .ref hc)] := hl
  have hP : va_P Z.1 vwCl [(hc, .inr (1, [.ref b0, .ref b1, .ref b2, .ref b3, .ref b4, .int (nI nl), .int (nI now)])), (b0, xI Z 4 v), (b1, xI Z 24 op), (b2, xI Z 24 wk), (b3, xI Z 24 on), (b4, xI Z 24 iz)] s.heap := hP
  have hD : va_D A [(hc, .inr (1, [.ref b0, .ref b1, .ref b2, .ref b3, .ref b4, .int (nI nl), .int (nI now)])), (b0, xI Z 4 v), (b1, xI Z 24 op), (b2, xI Z 24 wk), (b3, xI Z 24 on), (b4, xI Z 24 iz)] := hD
  obtain ⟨g1, g2, g3, g4⟩ := id hV
  dsimp only at g3 g4
  rcases Nat.lt_or_ge now nl with hn1 | hn1
  · obtain ⟨g5, g6, g7, g8⟩ := g2 now hn1
    obtain ⟨g1, g2, g3, g4⟩ := id hV
    dsimp only at g3 g4
    refine lv_aload_n hx hb dX1_doLine_0 rfl (lv_at hl 0 rfl) ?_
    refine va_get (D := Z.1) (ci := 1) (v := .int (nI now)) (C := RX1) (T := TX1) (N := 7) hx hb hts iX1 hown hK hP 0 rfl rfl 6 (Nat.le_of_ble_eq_true rfl) qq_66 (fun _ h9 => h9) rfl dX1_doLine_1 ?_
    refine ln_const 0 hx hb dX1_doLine_4 (by decide) ?_
    refine lv_aload_n hx hb dX1_doLine_5 rfl (lv_at hl 0 rfl) ?_
    refine va_get (D := Z.1) (ci := 1) (v := .int (nI nl)) (C := RX1) (T := TX1) (N := 7) hx hb hts iX1 hown hK hP 0 rfl rfl 5 (Nat.le_of_ble_eq_true rfl) qq_65 (fun _ h9 => h9) rfl dX1_doLine_6 ?_
    refine ln_const 1 hx hb dX1_doLine_9 (by decide) ?_
    refine ln_isub (nl - 1) hx hb dX1_doLine_10 (by omega) (by first | rfl | omega) ?_
    refine x_SNi (y := yX6_outside) (As := [.int (nI now), .int (nI 0), .int (nI (nl - 1))]) (wc := []) (wr := [(hc, .inr (1, [.ref b0, .ref b1, .ref b2, .ref b3, .ref b4, .int (nI nl), .int (nI now)])), (b0, xI Z 4 v), (b1, xI Z 24 op), (b2, xI Z 24 wk), (b3, xI Z 24 on), (b4, xI Z 24 iz)]) hC hP hD hS (c_out_in l Z (nI now) (nI 0) (nI (nl - 1)) (o_in (by omega) (by omega) (by omega))) (gCo wq_339) qn_38 qq_32 qq_338 rfl ks_X6_outside ⟨rfl, rfl⟩ rfl hl.1 rfl ⟨Nat.le_of_ble_eq_true rfl, Nat.le_of_ble_eq_true rfl⟩ ([] : List Nat) [0, 1, 2, 3, 4, 5] rfl rfl (by decide) (by decide) (by decide) rfl dX1_doLine_11 (fun r11 w1 H locs hw hP hD hS => ?_)
    obtain ⟨rfl, rfl⟩ := hw
    have hP : va_P Z.1 vwCl [(hc, .inr (1, [.ref b0, .ref b1, .ref b2, .ref b3, .ref b4, .int (nI nl), .int (nI now)])), (b0, xI Z 4 v), (b1, xI Z 24 op), (b2, xI Z 24 wk), (b3, xI Z 24 on), (b4, xI Z 24 iz)] H := hP
    have hD : va_D A [(hc, .inr (1, [.ref b0, .ref b1, .ref b2, .ref b3, .ref b4, .int (nI nl), .int (nI now)])), (b0, xI Z 4 v), (b1, xI Z 24 op), (b2, xI Z 24 wk), (b3, xI Z 24 on), (b4, xI Z 24 iz)] := hD
    refine ln_if_eq (tgt := 19) hx hb dX1_doLine_14 (by decide) (by omega) (fun h14 => ?_) (fun h14 => False.elim (by omega))
    refine lv_aload_n hx hb dX1_doLine_19 rfl (lv_at hl 0 rfl) ?_
    refine va_get (D := Z.1) (ci := 1) (v := .ref b1) (C := RX1) (T := TX1) (N := 7) hx hb hts iX1 hown hK hP 0 rfl rfl 1 (Nat.le_of_ble_eq_true rfl) qq_61 (fun _ h9 => h9) rfl dX1_doLine_20 ?_
    refine lv_aload_n hx hb dX1_doLine_23 rfl (lv_at hl 0 rfl) ?_
    refine va_get (D := Z.1) (ci := 1) (v := .int (nI now)) (C := RX1) (T := TX1) (N := 7) hx hb hts iX1 hown hK hP 0 rfl rfl 6 (Nat.le_of_ble_eq_true rfl) qq_66 (fun _ h9 => h9) rfl dX1_doLine_24 ?_
    refine ln_iald hx hb hK hP 2 rfl (by omega) (by omega) dX1_doLine_27 ?_
    obtain ⟨oo, hoo⟩ : ∃ z, z = op now := ⟨_, rfl⟩
    rw [← hoo]
    rcases (show oo = 0 ∨ oo = 1 ∨ oo = 2 by omega) with rfl | rfl | rfl
    · refine lv_lookup (off := 28) (tgt := 56) hx hb dX1_doLine_28 (by decide) (by decide) (by decide) ?_
      have hop : op now = 0 := hoo.symm
      refine lv_aload_n hx hb dX1_doLine_56 rfl (lv_at hl 0 rfl) ?_
      refine lv_aload_n hx hb dX1_doLine_57 rfl (lv_at hl 0 rfl) ?_
      refine va_get (D := Z.1) (ci := 1) (v := .ref b2) (C := RX1) (T := TX1) (N := 7) hx hb hts iX1 hown hK hP 0 rfl rfl 2 (Nat.le_of_ble_eq_true rfl) qq_62 (fun _ h9 => h9) rfl dX1_doLine_58 ?_
      refine lv_aload_n hx hb dX1_doLine_61 rfl (lv_at hl 0 rfl) ?_
      refine va_get (D := Z.1) (ci := 1) (v := .int (nI now)) (C := RX1) (T := TX1) (N := 7) hx hb hts iX1 hown hK hP 0 rfl rfl 6 (Nat.le_of_ble_eq_true rfl) qq_66 (fun _ h9 => h9) rfl dX1_doLine_62 ?_
      refine ln_iald hx hb hK hP 3 rfl (by omega) (by omega) dX1_doLine_65 ?_
      refine x_Vi (y := yX1_countUp) (As := [.int (nI (wk now))]) (wc := [(hc, .inr (1, [.ref b0, .ref b1, .ref b2, .ref b3, .ref b4, .int (nI nl), .int (nI now)])), (b0, xI Z 4 v), (b1, xI Z 24 op), (b2, xI Z 24 wk), (b3, xI Z 24 on), (b4, xI Z 24 iz)]) (wr := []) hC hP hD hS (c_X1_countUp l Z hc b0 b1 b2 b3 b4 v op wk on iz nl now hV hn1 hop) (gV wq_384 wq_381 wq_383 wq_3 wq_33) rfl kv_X1_countUp rfl rfl ⟨rfl, rfl⟩ rfl hl.1 rfl ⟨Nat.le_of_ble_eq_true rfl, Nat.le_of_ble_eq_true rfl⟩ [0, 1, 2, 3, 4, 5] ([] : List Nat) rfl rfl (by decide) (by decide) (by decide) rfl dX1_doLine_66 (fun r66 w1 H locs hw hP hD hS => ?_)
      rcases hw with ⟨hst, rfl, rfl⟩ | ⟨S, hst, rfl, rfl⟩
      · have hP : va_P Z.1 vwCl [(hc, .inr (1, [.ref b0, .ref b1, .ref b2, .ref b3, .ref b4, .int (nI nl), .int (nI now)])), (b0, xI Z 4 v), (b1, xI Z 24 op), (b2, xI Z 24 wk), (b3, xI Z 24 on), (b4, xI Z 24 iz)] H := hP
        have hD : va_D A [(hc, .inr (1, [.ref b0, .ref b1, .ref b2, .ref b3, .ref b4, .int (nI nl), .int (nI now)])), (b0, xI Z 4 v), (b1, xI Z 24 op), (b2, xI Z 24 wk), (b3, xI Z 24 on), (b4, xI Z 24 iz)] := hD
        exact x_zret hC hr rfl hk hP hD hS dX1_doLine_69 (Or.inl ⟨hst, rfl, rfl⟩)
      · have hP : va_P Z.1 vwCl [(hc, .inr (1, [.ref b0, .ref b1, .ref b2, .ref b3, .ref b4, .int (nI nl), .int (nI S.2)])), (b0, xI Z 4 S.1), (b1, xI Z 24 op), (b2, xI Z 24 wk), (b3, xI Z 24 on), (b4, xI Z 24 iz)] H := hP
        have hD : va_D A [(hc, .inr (1, [.ref b0, .ref b1, .ref b2, .ref b3, .ref b4, .int (nI nl), .int (nI S.2)])), (b0, xI Z 4 S.1), (b1, xI Z 24 op), (b2, xI Z 24 wk), (b3, xI Z 24 on), (b4, xI Z 24 iz)] := hD
        exact x_zret hC hr rfl hk hP hD hS dX1_doLine_69 (Or.inr ⟨S, hst, rfl, rfl⟩)
    · refine lv_lookup (off := 42) (tgt := 70) hx hb dX1_doLine_28 (by decide) (by decide) (by decide) ?_
      have hop : op now = 1 := hoo.symm
      refine lv_aload_n hx hb dX1_doLine_70 rfl (lv_at hl 0 rfl) ?_
      refine lv_aload_n hx hb dX1_doLine_71 rfl (lv_at hl 0 rfl) ?_
      refine va_get (D := Z.1) (ci := 1) (v := .ref b2) (C := RX1) (T := TX1) (N := 7) hx hb hts iX1 hown hK hP 0 rfl rfl 2 (Nat.le_of_ble_eq_true rfl) qq_62 (fun _ h9 => h9) rfl dX1_doLine_72 ?_
      refine lv_aload_n hx hb dX1_doLine_75 rfl (lv_at hl 0 rfl) ?_
      refine va_get (D := Z.1) (ci := 1) (v := .int (nI now)) (C := RX1) (T := TX1) (N := 7) hx hb hts iX1 hown hK hP 0 rfl rfl 6 (Nat.le_of_ble_eq_true rfl) qq_66 (fun _ h9 => h9) rfl dX1_doLine_76 ?_
      refine ln_iald hx hb hK hP 3 rfl (by omega) (by omega) dX1_doLine_79 ?_
      refine x_Vi (y := yX1_countDown) (As := [.int (nI (wk now))]) (wc := [(hc, .inr (1, [.ref b0, .ref b1, .ref b2, .ref b3, .ref b4, .int (nI nl), .int (nI now)])), (b0, xI Z 4 v), (b1, xI Z 24 op), (b2, xI Z 24 wk), (b3, xI Z 24 on), (b4, xI Z 24 iz)]) (wr := []) hC hP hD hS (c_X1_countDown l Z hc b0 b1 b2 b3 b4 v op wk on iz nl now hV hn1 hop) (gV wq_388 wq_385 wq_387 wq_4 wq_33) rfl kv_X1_countDown rfl rfl ⟨rfl, rfl⟩ rfl hl.1 rfl ⟨Nat.le_of_ble_eq_true rfl, Nat.le_of_ble_eq_true rfl⟩ [0, 1, 2, 3, 4, 5] ([] : List Nat) rfl rfl (by decide) (by decide) (by decide) rfl dX1_doLine_80 (fun r80 w1 H locs hw hP hD hS => ?_)
      obtain ⟨S, hst, rfl, rfl⟩ := hw
      have hP : va_P Z.1 vwCl [(hc, .inr (1, [.ref b0, .ref b1, .ref b2, .ref b3, .ref b4, .int (nI nl), .int (nI S.2)])), (b0, xI Z 4 S.1), (b1, xI Z 24 op), (b2, xI Z 24 wk), (b3, xI Z 24 on), (b4, xI Z 24 iz)] H := hP
      have hD : va_D A [(hc, .inr (1, [.ref b0, .ref b1, .ref b2, .ref b3, .ref b4, .int (nI nl), .int (nI S.2)])), (b0, xI Z 4 S.1), (b1, xI Z 24 op), (b2, xI Z 24 wk), (b3, xI Z 24 on), (b4, xI Z 24 iz)] := hD
      exact x_zret hC hr rfl hk hP hD hS dX1_doLine_83 (Or.inr ⟨S, hst, rfl, rfl⟩)
    · refine lv_lookup (off := 56) (tgt := 84) hx hb dX1_doLine_28 (by decide) (by decide) (by decide) ?_
      have hop : op now = 2 := hoo.symm
      refine ln_const 0 hx hb dX1_doLine_84 (by decide) ?_
      exact x_zret hC hr rfl hk hP hD hS dX1_doLine_85 (Or.inl ⟨by unfold cstep; dsimp only; rw [if_pos hn1, if_neg (by omega), if_neg (by omega)], rfl, rfl⟩)
  · obtain ⟨g1, g2, g3, g4⟩ := id hV
    dsimp only at g3 g4
    refine lv_aload_n hx hb dX1_doLine_0 rfl (lv_at hl 0 rfl) ?_
    refine va_get (D := Z.1) (ci := 1) (v := .int (nI now)) (C := RX1) (T := TX1) (N := 7) hx hb hts iX1 hown hK hP 0 rfl rfl 6 (Nat.le_of_ble_eq_true rfl) qq_66 (fun _ h9 => h9) rfl dX1_doLine_1 ?_
    refine ln_const 0 hx hb dX1_doLine_4 (by decide) ?_
    refine lv_aload_n hx hb dX1_doLine_5 rfl (lv_at hl 0 rfl) ?_
    refine va_get (D := Z.1) (ci := 1) (v := .int (nI nl)) (C := RX1) (T := TX1) (N := 7) hx hb hts iX1 hown hK hP 0 rfl rfl 5 (Nat.le_of_ble_eq_true rfl) qq_65 (fun _ h9 => h9) rfl dX1_doLine_6 ?_
    refine ln_const 1 hx hb dX1_doLine_9 (by decide) ?_
    refine lv_isub hx hb dX1_doLine_10 ?_
    refine x_SNi (y := yX6_outside) (As := [.int (nI now), .int (nI 0), .int ((nI nl) - (nI 1))]) (wc := []) (wr := [(hc, .inr (1, [.ref b0, .ref b1, .ref b2, .ref b3, .ref b4, .int (nI nl), .int (nI now)])), (b0, xI Z 4 v), (b1, xI Z 24 op), (b2, xI Z 24 wk), (b3, xI Z 24 on), (b4, xI Z 24 iz)]) hC hP hD hS (c_out_out l Z (nI now) (nI 0) ((nI nl) - (nI 1)) (by rw [nI_toInt (by omega), pk_sub_toInt (by omega) (by omega)]; omega)) (gCo wq_339) qn_38 qq_32 qq_338 rfl ks_X6_outside ⟨rfl, rfl⟩ rfl hl.1 rfl ⟨Nat.le_of_ble_eq_true rfl, Nat.le_of_ble_eq_true rfl⟩ ([] : List Nat) [0, 1, 2, 3, 4, 5] rfl rfl (by decide) (by decide) (by decide) rfl dX1_doLine_11 (fun r11 w1 H locs hw hP hD hS => ?_)
    obtain ⟨rfl, rfl⟩ := hw
    have hP : va_P Z.1 vwCl [(hc, .inr (1, [.ref b0, .ref b1, .ref b2, .ref b3, .ref b4, .int (nI nl), .int (nI now)])), (b0, xI Z 4 v), (b1, xI Z 24 op), (b2, xI Z 24 wk), (b3, xI Z 24 on), (b4, xI Z 24 iz)] H := hP
    have hD : va_D A [(hc, .inr (1, [.ref b0, .ref b1, .ref b2, .ref b3, .ref b4, .int (nI nl), .int (nI now)])), (b0, xI Z 4 v), (b1, xI Z 24 op), (b2, xI Z 24 wk), (b3, xI Z 24 on), (b4, xI Z 24 iz)] := hD
    refine ln_if_eq (tgt := 19) hx hb dX1_doLine_14 (by decide) (by omega) (fun h14 => False.elim (by omega)) (fun h14 => ?_)
    refine ln_const 0 hx hb dX1_doLine_17 (by decide) ?_
    exact x_zret hC hr rfl hk hP hD hS dX1_doLine_18 (Or.inl ⟨by unfold cstep; dsimp only; rw [if_neg (by omega)], rfl, rfl⟩)

theorem kv_X1_doLine : yX1_doLine.cls = RX1 ∧ yX1_doLine.cls ≠ "java/lang/invoke/MethodHandle" ∧ yX1_doLine.cls ≠ "java/lang/invoke/VarHandle" ∧ (parseMethodDescriptor yX1_doLine.desc).map (fun d => d.parameters.length) = some 0 := by decide +kernel
set_option maxHeartbeats 4000000 in
set_option maxRecDepth 100000 in
theorem c_X1_doLines (l : Launch) (Z : xZ) (hc b0 b1 b2 b3 b4 : Nat) (v op wk on iz : Nat → Nat) (nl now : Nat) (hV : CV nl op wk on iz (v, now)) (n : Nat) (hn : n ≤ 5000) : xMi l Z yX1_doLines vX1_doLines ({ frames := 2, cells := 0, slots := 0, locals := 42 } : Room) [.ref hc, .int (nI n)] [(hc, .inr (1, [.ref b0, .ref b1, .ref b2, .ref b3, .ref b4, .int (nI nl), .int (nI now)])), (b0, xI Z 4 v), (b1, xI Z 24 op), (b2, xI Z 24 wk), (b3, xI Z 24 on), (b4, xI Z 24 iz)] (fun r w => ∃ k S, xrun (cstep nl op wk on iz) n (v, now) = (k, S) ∧ r = nI k ∧ w = [(hc, .inr (1, [.ref b0, .ref b1, .ref b2, .ref b3, .ref b4, .int (nI nl), .int (nI S.2)])), (b0, xI Z 4 S.1), (b1, xI Z 24 op), (b2, xI Z 24 wk), (b3, xI Z 24 on), (b4, xI Z 24 iz)]) := by
  refine x_i (by decide) rfl (Nat.le_of_ble_eq_true rfl) ?_
  intro p e s m args below meth c ls A hC hr hk hl hP hD hS
  have hx := hC.1.1
  have hb := hC.1.2.1
  have hml := hC.1.2.2.1
  have hown : s.vm.findClass RX1 = some m.cls := hC.1.2.2.2.1
  have hts := hC.1.2.2.2.2
  have hK := hC.2.1
  have hl : lv_has ls 3 [(0, .ref hc), (1, .int (nI n))] := hl
  have hP : va_P Z.1 vwCl [(hc, .inr (1, [.ref b0, .ref b1, .ref b2, .ref b3, .ref b4, .int (nI nl), .int (nI now)])), (b0, xI Z 4 v), (b1, xI Z 24 op), (b2, xI Z 24 wk), (b3, xI Z 24 on), (b4, xI Z 24 iz)] s.heap := hP
  have hD : va_D A [(hc, .inr (1, [.ref b0, .ref b1, .ref b2, .ref b3, .ref b4, .int (nI nl), .int (nI now)])), (b0, xI Z 4 v), (b1, xI Z 24 op), (b2, xI Z 24 wk), (b3, xI Z 24 on), (b4, xI Z 24 iz)] := hD
  refine ln_const 0 hx hb dX1_doLines_0 (by decide) ?_
  refine lv_istore_n (lv' := [(2, .int (nI 0)), (0, .ref hc), (1, .int (nI n))]) hx hb dX1_doLines_1 rfl hl (by decide) rfl (fun ls hl => ?_)
  have hloop2 : ∀ (nn : Nat) (k : Nat) (S1 : Nat → Nat) (now1 : Nat) (H : Heap) (locs : List Loc) (ls : Array Slot) (hX : XR (cstep nl op wk on iz) n (v, now) k (S1, now1)) (hV1 : CV nl op wk on iz (S1, now1)) (hmu : n - k < nn) (hP : va_P Z.1 vwCl [(hc, .inr (1, [.ref b0, .ref b1, .ref b2, .ref b3, .ref b4, .int (nI nl), .int (nI now1)])), (b0, xI Z 4 S1), (b1, xI Z 24 op), (b2, xI Z 24 wk), (b3, xI Z 24 on), (b4, xI Z 24 iz)] H) (hD : va_D A [(hc, .inr (1, [.ref b0, .ref b1, .ref b2, .ref b3, .ref b4, .int (nI nl), .int (nI now1)])), (b0, xI Z 4 S1), (b1, xI Z 24 op), (b2, xI Z 24 wk), (b3, xI Z 24 on), (b4, xI Z 24 iz)]) (hS : va_S A s.heap H locs) (hl : lv_has ls 3 [(0, .ref hc), (1, .int (nI n)), (2, .int (nI k))]), W p l e ({ frames := 2, cells := 0, slots := 0, locals := 42 } : Room) s m args below meth c H locs 0 0 (MQ below (va_Qi (fun r w => ∃ k S, xrun (cstep nl op wk on iz) n (v, now) = (k, S) ∧ r = nI k ∧ w = [(hc, .inr (1, [.ref b0, .ref b1, .ref b2, .ref b3, .ref b4, .int (nI nl), .int (nI S.2)])), (b0, xI Z 4 S.1), (b1, xI Z 24 op), (b2, xI Z 24 wk), (b3, xI Z 24 on), (b4, xI Z 24 iz)]) (xB Z A) A) args s ({ frames := 2, cells := 0, slots := 0, locals := 42 } : Room).cells ({ frames := 2, cells := 0, slots := 0, locals := 42 } : Room).slots A) (F0 m 2 ls []) := by
    intro nn
    induction nn with
    | zero => intro k S1 now1 H locs ls hX hV1 hmu; exact absurd hmu (Nat.not_lt_zero _)
    | succ nn ih =>
      intro k S1 now1 H locs ls hX hV1 hmu hP hD hS hl
      have hk1 := hX.1
      refine lv_iload_n hx hb dX1_doLines_2 rfl (lv_at hl 2 rfl) ?_
      refine lv_iload_n hx hb dX1_doLines_3 rfl (lv_at hl 1 rfl) ?_
      refine ln_icmp_ge (tgt := 20) hx hb dX1_doLines_4 (by decide) (by omega) (by omega) (fun h4 => ?_) (fun h4 => ?_)
      · refine lv_iload_n hx hb dX1_doLines_20 rfl (lv_at hl 2 rfl) ?_
        exact x_iret hC hr hk hP hD hS dX1_doLines_21 ⟨k, _, hX.full (by omega), rfl, rfl⟩
      · refine lv_aload_n hx hb dX1_doLines_7 rfl (lv_at hl 0 rfl) ?_
        refine x_Vi (y := yX1_doLine) (As := []) (wc := [(hc, .inr (1, [.ref b0, .ref b1, .ref b2, .ref b3, .ref b4, .int (nI nl), .int (nI now1)])), (b0, xI Z 4 S1), (b1, xI Z 24 op), (b2, xI Z 24 wk), (b3, xI Z 24 on), (b4, xI Z 24 iz)]) (wr := []) hC hP hD hS (c_X1_doLine l Z hc b0 b1 b2 b3 b4 S1 op wk on iz nl now1 hV1) (gV wq_379 wq_376 wq_378 wq_2 wq_33) rfl kv_X1_doLine rfl rfl ⟨rfl, rfl⟩ rfl hl.1 rfl ⟨Nat.le_of_ble_eq_true rfl, Nat.le_of_ble_eq_true rfl⟩ [0, 1, 2, 3, 4, 5] ([] : List Nat) rfl rfl (by decide) (by decide) (by decide) rfl dX1_doLines_8 (fun r8 w1 H locs hw hP hD hS => ?_)
        rcases hw with ⟨hst, rfl, rfl⟩ | ⟨S, hst, rfl, rfl⟩
        · have hP : va_P Z.1 vwCl [(hc, .inr (1, [.ref b0, .ref b1, .ref b2, .ref b3, .ref b4, .int (nI nl), .int (nI now1)])), (b0, xI Z 4 S1), (b1, xI Z 24 op), (b2, xI Z 24 wk), (b3, xI Z 24 on), (b4, xI Z 24 iz)] H := hP
          have hD : va_D A [(hc, .inr (1, [.ref b0, .ref b1, .ref b2, .ref b3, .ref b4, .int (nI nl), .int (nI now1)])), (b0, xI Z 4 S1), (b1, xI Z 24 op), (b2, xI Z 24 wk), (b3, xI Z 24 on), (b4, xI Z 24 iz)] := hD
          refine ln_if_eq (tgt := 20) hx hb dX1_doLines_11 (by decide) (by omega) (fun h11 => ?_) (fun h11 => False.elim (by omega))
          refine lv_iload_n hx hb dX1_doLines_20 rfl (lv_at hl 2 rfl) ?_
          exact x_iret hC hr hk hP hD hS dX1_doLines_21 ⟨k, _, hX.stop hst, rfl, rfl⟩
        · have hP : va_P Z.1 vwCl [(hc, .inr (1, [.ref b0, .ref b1, .ref b2, .ref b3, .ref b4, .int (nI nl), .int (nI S.2)])), (b0, xI Z 4 S.1), (b1, xI Z 24 op), (b2, xI Z 24 wk), (b3, xI Z 24 on), (b4, xI Z 24 iz)] H := hP
          have hD : va_D A [(hc, .inr (1, [.ref b0, .ref b1, .ref b2, .ref b3, .ref b4, .int (nI nl), .int (nI S.2)])), (b0, xI Z 4 S.1), (b1, xI Z 24 op), (b2, xI Z 24 wk), (b3, xI Z 24 on), (b4, xI Z 24 iz)] := hD
          refine ln_if_eq (tgt := 20) hx hb dX1_doLines_11 (by decide) (by omega) (fun h11 => False.elim (by omega)) (fun h11 => ?_)
          refine ln_iinc (k0 := 2) (k := 1) (k + 1) (lv' := [(2, .int (nI (k + 1))), (0, .ref hc), (1, .int (nI n))]) hx hb dX1_doLines_14 hl rfl rfl (by first | rfl | omega) (by decide) rfl (fun ls hl => ?_)
          refine lv_goto (tgt := 2) hx hb dX1_doLines_17 (by decide) ?_
          exact ih  (k + 1) S.1 S.2 _ _ _ (hX.step (by omega) hst) (cstep_ok hV1 hst) (by omega) hP hD hS (lv_sub hl [1, 2, 0] rfl)
  exact hloop2 ((n - 0) + 1) 0 v now _ _ _ (XR.beg _ _ _) hV (Nat.lt_succ_self _) hP hD hS (lv_sub hl [1, 2, 0] rfl)
