def bones (s : List Nat × Nat) : Nat := if 0 < s.1.length ∧ s.1.getD 0 0 < s.2 % 121 then s.1.length - 1 else s.1.length
theorem nI_min {a b : Nat} (ha : a < 2147483648) (hb : b < 2147483648) : (if nI b < nI a then nI b else nI a) = nI (min a b) := by
  by_cases h : b < a
  · rw [if_pos ((nI_ltI hb ha).mpr h), Nat.min_eq_right (by omega)]
  · rw [if_neg (fun q => h ((nI_ltI hb ha).mp q)), Nat.min_eq_left (by omega)]
/-- what k zeros do at once -/
def bpk (k : Nat) (s : List Nat × Nat) : List Nat × Nat := (if (s.2 + k) % 121 = 0 then s.1.drop 1 else s.1, if 242 ≤ s.2 + k then 0 else s.2 + k)
theorem bpk_1 {L : List Nat} {t : Nat} (ht : t < 242) : bpk 1 (L, t) = bpass (L, t) := by
  unfold bpk bpass
  dsimp only
  by_cases h : t + 1 = 242
  · rw [if_pos (show 242 ≤ t + 1 by omega), if_pos h]
  · rw [if_neg (show ¬ 242 ≤ t + 1 by omega), if_neg h]
theorem bstep_0 {R : xRl} {L : List Nat} {t : Nat} (hs : ¬ bstill R (L, t)) (h0 : L.getD 0 0 ≠ t % 121) : bstep R (L, t) = some (bpass (L, t)) := by
  unfold bstep
  dsimp only
  rw [if_neg (show ¬ (t = 0 ∧ (L.length < 2 ∨ (xprod R (L.getD 0 0)).length = 0)) from hs), if_neg h0]
theorem xit_some {σ : Type} {f : σ → Option σ} {n : Nat} {s s' : σ} (h : f s = some s') : xit f (n + 1) s = xit f n s' := by simp only [xit, h]
theorem bzeros (R : xRl) (L : List Nat) : ∀ k t, t < 242 → ¬ bstill R (L, t) → (∀ j, j < k + 1 → t % 121 + j ≠ L.getD 0 0) → t % 121 + (k + 1) ≤ 121 → xit (bstep R) (k + 1) (L, t) = some (bpk (k + 1) (L, t))
  | 0, t, ht, hs, hz, hk => by
    have := hz 0 (by omega)
    simp only [xit, bstep_0 hs (show L.getD 0 0 ≠ t % 121 by omega)]
    rw [bpk_1 ht]
  | k + 1, t, ht, hs, hz, hk => by
    have h0 := hz 0 (by omega)
    have e : bpass (L, t) = (L, t + 1) := by
      unfold bpass
      dsimp only
      rw [if_neg (by omega), if_neg (by omega)]
    have ih := bzeros R L k (t + 1) (by omega) (fun q => absurd q.1 (by dsimp only; omega)) (fun j hj => by have := hz (j + 1) (by omega); omega) (by omega)
    rw [xit_some (show bstep R (L, t) = some (L, t + 1) by rw [bstep_0 hs (show L.getD 0 0 ≠ t % 121 by omega), e]), ih]
    unfold bpk
    dsimp only
    rw [show t + 1 + (k + 1) = t + (k + 1 + 1) by omega]
theorem BV.one {R : xRl} {L : List Nat} {t : Nat} (h : BV (L, t)) (hs : ¬ bstill R (L, t)) : 1 ≤ L.length ∧ (t < 121 → 2 ≤ L.length) := by
  obtain ⟨h1, h2, h3, h4, h5⟩ := h
  dsimp only at h1 h2 h3 h4 h5
  by_cases ht : t = 0
  · have : ¬ (L.length < 2 ∨ (xprod R (L.getD 0 0)).length = 0) := fun q => hs ⟨ht, q⟩
    omega
  · exact ⟨h4 ht, h5 ht⟩

set_option maxHeartbeats 4000000 in
set_option maxRecDepth 100000 in
theorem c_X0_gone (l : Launch) (Z : xZ) (vb vq t : Nat) (ht : t < 1000) : xMi l Z yX0_gone vX0_gone ({ frames := 0, cells := 0, slots := 0, locals := 0 } : Room) [.ref vb] [(vb, .inr (0, [.ref vq, .int (nI t)]))] (fun r w => r = nI (t % 121) ∧ w = [(vb, .inr (0, [.ref vq, .int (nI t)]))]) := by
  refine x_i (by decide) rfl (Nat.le_of_ble_eq_true rfl) ?_
  intro p e s m args below meth c ls A hC hr hk hl hP hD hS
  have hx := hC.1.1
  have hb := hC.1.2.1
  have hml := hC.1.2.2.1
  have hown : s.vm.findClass RX0 = some m.cls := hC.1.2.2.2.1
  have hts := hC.1.2.2.2.2
  have hK := hC.2.1
  have qq_310 := hts (Cond.fieldLink RX0 29 "TagTower$Bits" "turn" "I") (List.mem_cons_of_mem _ wq_310)
  have iX0 : ∀ w ∈ wsX00, w ∈ vX0_gone := fun w h => List.mem_cons_of_mem _ (wi_X0 w h)
  have hl : lv_has ls 1 [(0, .ref vb)] := hl
  have hP : va_P Z.1 vwCl [(vb, .inr (0, [.ref vq, .int (nI t)]))] s.heap := hP
  have hD : va_D A [(vb, .inr (0, [.ref vq, .int (nI t)]))] := hD
  refine lv_aload_n hx hb dX0_gone_0 rfl (lv_at hl 0 rfl) ?_
  refine va_get (D := Z.1) (ci := 0) (v := .int (nI t)) (C := RX0) (T := TX0) (N := 2) hx hb hts iX0 hown hK hP 0 rfl rfl 1 (Nat.le_of_ble_eq_true rfl) qq_310 (fun _ h9 => h9) rfl dX0_gone_1 ?_
  refine ln_bipush 121 hx hb dX0_gone_4 (by decide) ?_
  refine ln_irem (t % 121) hx hb dX0_gone_6 (by omega) (by omega) (by omega) (by first | rfl | omega) ?_
  exact x_iret hC hr hk hP hD hS dX0_gone_7 ⟨rfl, rfl⟩

theorem kv_X0_gone : yX0_gone.cls = RX0 ∧ yX0_gone.cls ≠ "java/lang/invoke/MethodHandle" ∧ yX0_gone.cls ≠ "java/lang/invoke/VarHandle" ∧ (parseMethodDescriptor yX0_gone.desc).map (fun d => d.parameters.length) = some 0 := by decide +kernel
set_option maxHeartbeats 4000000 in
set_option maxRecDepth 100000 in
theorem c_X0_size (l : Launch) (Z : xZ) (vb vq aq hd sz t : Nat) (g : Nat → Nat) (L : List Nat) (hR : RR 662 hd g L) (hsz : sz = L.length) (hB : BV (L, t)) : xMi l Z yX0_size vX0_size ({ frames := 1, cells := 0, slots := 0, locals := 20 } : Room) [.ref vb] [(vb, .inr (0, [.ref vq, .int (nI t)])), (vq, .inr (2, [.ref aq, .int (nI hd), .int (nI sz)])), (aq, xI Z 662 g)] (fun r w => r = nI (bmany (L, t)) ∧ w = [(vb, .inr (0, [.ref vq, .int (nI t)])), (vq, .inr (2, [.ref aq, .int (nI hd), .int (nI sz)])), (aq, xI Z 662 g)]) := by
  refine x_i (by decide) rfl (Nat.le_of_ble_eq_true rfl) ?_
  intro p e s m args below meth c ls A hC hr hk hl hP hD hS
  have hx := hC.1.1
  have hb := hC.1.2.1
  have hml := hC.1.2.2.1
  have hown : s.vm.findClass RX0 = some m.cls := hC.1.2.2.2.1
  have hts := hC.1.2.2.2.2
  have hK := hC.2.1
  have qq_308 := hts (Cond.fieldLink RX0 14 "TagTower$Bits" "row" "LTagTower$LetterRow;") (List.mem_cons_of_mem _ wq_308)
  have iX0 : ∀ w ∈ wsX00, w ∈ vX0_size := fun w h => List.mem_cons_of_mem _ (wi_X0 w h)
  have qf_20 := va_Nw.use (A := args) rfl (hC.2.2.2.1.2 (RX0, 20, RX2, "size", "I", RX6) (List.mem_of_getElem? (i := 4) rfl))
  have iX2 : ∀ w ∈ wsX20, w ∈ vX0_size := fun w h => List.mem_cons_of_mem _ (wi_X2 w h)
  have hl : lv_has ls 1 [(0, .ref vb)] := hl
  have hP : va_P Z.1 vwCl [(vb, .inr (0, [.ref vq, .int (nI t)])), (vq, .inr (2, [.ref aq, .int (nI hd), .int (nI sz)])), (aq, xI Z 662 g)] s.heap := hP
  have hD : va_D A [(vb, .inr (0, [.ref vq, .int (nI t)])), (vq, .inr (2, [.ref aq, .int (nI hd), .int (nI sz)])), (aq, xI Z 662 g)] := hD
  have hR1 := hR.1
  have hR2 := hR.2.1
  obtain ⟨b1, b2, b3, b4, b5⟩ := id hB
  unfold bmany at b3
  dsimp only at b1 b2 b3 b4 b5
  refine lv_aload_n hx hb dX0_size_0 rfl (lv_at hl 0 rfl) ?_
  refine va_get (D := Z.1) (ci := 0) (v := .ref vq) (C := RX0) (T := TX0) (N := 2) hx hb hts iX0 hown hK hP 0 rfl rfl 0 (Nat.le_of_ble_eq_true rfl) qq_308 (fun _ h9 => h9) rfl dX0_size_1 ?_
  refine va_getN (D := Z.1) (ci := 2) (v := .int (nI sz)) (C := RX2) (T := TX2) (N := 3) hx hb hts iX2 hown hK hP 1 rfl rfl 2 (Nat.le_of_ble_eq_true rfl) qf_20 (fun _ h9 => h9) rfl dX0_size_4 ?_
  refine ln_bipush 121 hx hb dX0_size_7 (by decide) ?_
  refine ln_imul (sz * 121) hx hb dX0_size_9 (by first | rfl | omega) ?_
  refine lv_aload_n hx hb dX0_size_10 rfl (lv_at hl 0 rfl) ?_
  refine x_Vi (y := yX0_gone) (As := []) (wc := [(vb, .inr (0, [.ref vq, .int (nI t)]))]) (wr := [(vq, .inr (2, [.ref aq, .int (nI hd), .int (nI sz)])), (aq, xI Z 662 g)]) hC hP hD hS (c_X0_gone l Z vb vq t (by omega)) (gV wq_626 wq_623 wq_625 wq_12 wq_44) rfl kv_X0_gone rfl rfl ⟨rfl, rfl⟩ rfl hl.1 rfl ⟨Nat.le_of_ble_eq_true rfl, Nat.le_of_ble_eq_true rfl⟩ [0] [1, 2] rfl rfl (by decide) (by decide) (by decide) rfl dX0_size_11 (fun r11 w1 H locs hw hP hD hS => ?_)
  obtain ⟨rfl, rfl⟩ := hw
  have hP := hP.sub (ws' := [(vb, .inr (0, [.ref vq, .int (nI t)])), (vq, .inr (2, [.ref aq, .int (nI hd), .int (nI sz)])), (aq, xI Z 662 g)]) [2, 0, 1] rfl
  have hD := hD.sub (ws' := [(vb, .inr (0, [.ref vq, .int (nI t)])), (vq, .inr (2, [.ref aq, .int (nI hd), .int (nI sz)])), (aq, xI Z 662 g)]) [2, 0, 1] (by decide) rfl
  refine ln_isub ((sz * 121) - (t % 121)) hx hb dX0_size_14 (by omega) (by first | rfl | omega) ?_
  exact x_iret hC hr hk hP hD hS dX0_size_15 ⟨by unfold bmany; dsimp only; rw [show 121 * L.length - t % 121 = sz * 121 - t % 121 by omega], rfl⟩

set_option maxHeartbeats 4000000 in
set_option maxRecDepth 100000 in
theorem c_X0_layWord (l : Launch) (Z : xZ) (vb vq aq hd sz t : Nat) (g : Nat → Nat) (vr ar hd3 sz3 : Nat) (g3 : Nat → Nat) (L : List Nat) (hR3 : RR 600 hd3 g3 L) (hsz3 : sz3 = L.length) : xMi l Z yX0_layWord vX0_layWord ({ frames := 3, cells := 0, slots := 0, locals := 65 } : Room) [.ref vb, .ref vr] [(vb, .inr (0, [.ref vq, .int (nI t)])), (vq, .inr (2, [.ref aq, .int (nI hd), .int (nI sz)])), (aq, xI Z 662 g), (vr, .inr (2, [.ref ar, .int (nI hd3), .int (nI sz3)])), (ar, xI Z 600 g3)] (fun r w => ∃ hd2 g2, RR 662 hd2 g2 L ∧ r = nI (L.length * 121) ∧ w = [(vb, .inr (0, [.ref vq, .int (nI 0)])), (vq, .inr (2, [.ref aq, .int (nI hd2), .int (nI L.length)])), (aq, xI Z 662 g2), (vr, .inr (2, [.ref ar, .int (nI hd3), .int (nI sz3)])), (ar, xI Z 600 g3)]) := by
  refine x_i (by decide) rfl (Nat.le_of_ble_eq_true rfl) ?_
  intro p e s m args below meth c ls A hC hr hk hl hP hD hS
  have hx := hC.1.1
  have hb := hC.1.2.1
  have hml := hC.1.2.2.1
  have hown : s.vm.findClass RX0 = some m.cls := hC.1.2.2.2.1
  have hts := hC.1.2.2.2.2
  have hK := hC.2.1
  have qf_20 := va_Nw.use (A := args) rfl (hC.2.2.2.1.2 (RX0, 20, RX2, "size", "I", RX6) (List.mem_of_getElem? (i := 4) rfl))
  have iX2 : ∀ w ∈ wsX20, w ∈ vX0_layWord := fun w h => List.mem_cons_of_mem _ (wi_X2 w h)
  have qq_603 := hts (Cond.constant RX0 24 (80000)) (List.mem_cons_of_mem _ wq_603)
  have qq_308 := hts (Cond.fieldLink RX0 14 "TagTower$Bits" "row" "LTagTower$LetterRow;") (List.mem_cons_of_mem _ wq_308)
  have iX0 : ∀ w ∈ wsX00, w ∈ vX0_layWord := fun w h => List.mem_cons_of_mem _ (wi_X0 w h)
  have qq_310 := hts (Cond.fieldLink RX0 29 "TagTower$Bits" "turn" "I") (List.mem_cons_of_mem _ wq_310)
  have hl : lv_has ls 3 [(0, .ref vb), (1, .ref vr)] := hl
  have hP : va_P Z.1 vwCl [(vb, .inr (0, [.ref vq, .int (nI t)])), (vq, .inr (2, [.ref aq, .int (nI hd), .int (nI sz)])), (aq, xI Z 662 g), (vr, .inr (2, [.ref ar, .int (nI hd3), .int (nI sz3)])), (ar, xI Z 600 g3)] s.heap := hP
  have hD : va_D A [(vb, .inr (0, [.ref vq, .int (nI t)])), (vq, .inr (2, [.ref aq, .int (nI hd), .int (nI sz)])), (aq, xI Z 662 g), (vr, .inr (2, [.ref ar, .int (nI hd3), .int (nI sz3)])), (ar, xI Z 600 g3)] := hD
  have hR31 := hR3.1
  have hR32 := hR3.2.1
  refine lv_aload_n hx hb dX0_layWord_0 rfl (lv_at hl 1 rfl) ?_
  refine va_getN (D := Z.1) (ci := 2) (v := .int (nI sz3)) (C := RX2) (T := TX2) (N := 3) hx hb hts iX2 hown hK hP 3 rfl rfl 2 (Nat.le_of_ble_eq_true rfl) qf_20 (fun _ h9 => h9) rfl dX0_layWord_1 ?_
  refine ln_bipush 121 hx hb dX0_layWord_4 (by decide) ?_
  refine ln_imul (sz3 * 121) hx hb dX0_layWord_6 (by first | rfl | omega) ?_
  refine lv_istore_n (lv' := [(2, .int (nI (sz3 * 121))), (0, .ref vb), (1, .ref vr)]) hx hb dX0_layWord_7 rfl hl (by decide) rfl (fun ls hl => ?_)
  refine lv_iload_n hx hb dX0_layWord_8 rfl (lv_at hl 0 rfl) ?_
  refine lv_ldc (v := nI 80000) hx hb hown qq_603 dX0_layWord_9 ?_
  refine ln_icmp_le (tgt := 17) hx hb dX0_layWord_11 (by decide) (by omega) (by omega) (fun h11 => ?_) (fun h11 => False.elim (by omega))
  refine lv_aload_n hx hb dX0_layWord_17 rfl (lv_at hl 1 rfl) ?_
  refine va_get (D := Z.1) (ci := 0) (v := .ref vq) (C := RX0) (T := TX0) (N := 2) hx hb hts iX0 hown hK hP 0 rfl rfl 0 (Nat.le_of_ble_eq_true rfl) qq_308 (fun _ h9 => h9) rfl dX0_layWord_18 ?_
  refine lv_aload_n hx hb dX0_layWord_21 rfl (lv_at hl 2 rfl) ?_
  refine x_Vv (y := yX2_become) (As := [.ref vr]) (wc := [(vq, .inr (2, [.ref aq, .int (nI hd), .int (nI sz)])), (aq, xI Z 662 g), (vr, .inr (2, [.ref ar, .int (nI hd3), .int (nI sz3)])), (ar, xI Z 600 g3)]) (wr := [(vb, .inr (0, [.ref vq, .int (nI t)]))]) hC hP hD hS (c_X2_become l Z vq aq 662 hd sz g (by decide) vr ar 600 hd3 sz3 g3 L (by decide) hR3 hsz3 (by omega) (by decide)) (gV wq_565 wq_604 wq_563 wq_564 wq_43) rfl kv_X2_become rfl rfl ⟨rfl, rfl⟩ rfl hl.1 rfl ⟨Nat.le_of_ble_eq_true rfl, Nat.le_of_ble_eq_true rfl⟩ [1, 2, 3, 4] [0] rfl rfl (by decide) (by decide) (by decide) rfl dX0_layWord_22 (fun w1 H locs hw hP hD hS => ?_)
  obtain ⟨hd2, g2, hR2, rfl⟩ := hw
  have hP : va_P Z.1 vwCl [(vb, .inr (0, [.ref vq, .int (nI t)])), (vq, .inr (2, [.ref aq, .int (nI hd2), .int (nI sz3)])), (aq, xI Z 662 g2), (vr, .inr (2, [.ref ar, .int (nI hd3), .int (nI sz3)])), (ar, xI Z 600 g3)] H := hP
  have hD : va_D A [(vb, .inr (0, [.ref vq, .int (nI t)])), (vq, .inr (2, [.ref aq, .int (nI hd2), .int (nI sz3)])), (aq, xI Z 662 g2), (vr, .inr (2, [.ref ar, .int (nI hd3), .int (nI sz3)])), (ar, xI Z 600 g3)] := hD
  refine lv_aload_n hx hb dX0_layWord_25 rfl (lv_at hl 1 rfl) ?_
  refine ln_const 0 hx hb dX0_layWord_26 (by decide) ?_
  refine va_put (D := Z.1) (ci := 0) (v := .int (nI 0)) (ty := tyX0 1) (C := RX0) (T := TX0) (N := 2) hx hb hts iX0 tyX0 tyX0_ok nmX0 hown hK hP hD hS 0 rfl rfl 1 (Nat.le_of_ble_eq_true rfl) qq_310 (fun _ h9 => h9) rfl (tyX0_ok 1 (Nat.le_of_ble_eq_true rfl)) rfl rfl (Nat.le_of_ble_eq_true rfl) dX0_layWord_27 (fun H locs hP hD hS => ?_)
  have hP : va_P Z.1 vwCl [(vb, .inr (0, [.ref vq, .int (nI 0)])), (vq, .inr (2, [.ref aq, .int (nI hd2), .int (nI sz3)])), (aq, xI Z 662 g2), (vr, .inr (2, [.ref ar, .int (nI hd3), .int (nI sz3)])), (ar, xI Z 600 g3)] H := hP
  have hD : va_D A [(vb, .inr (0, [.ref vq, .int (nI 0)])), (vq, .inr (2, [.ref aq, .int (nI hd2), .int (nI sz3)])), (aq, xI Z 662 g2), (vr, .inr (2, [.ref ar, .int (nI hd3), .int (nI sz3)])), (ar, xI Z 600 g3)] := hD
  refine lv_iload_n hx hb dX0_layWord_30 rfl (lv_at hl 0 rfl) ?_
  exact x_iret hC hr hk hP hD hS dX0_layWord_31 ⟨hd2, g2, hR2, by rw [hsz3], by rw [hsz3]⟩

theorem kv_X0_size : yX0_size.cls = RX0 ∧ yX0_size.cls ≠ "java/lang/invoke/MethodHandle" ∧ yX0_size.cls ≠ "java/lang/invoke/VarHandle" ∧ (parseMethodDescriptor yX0_size.desc).map (fun d => d.parameters.length) = some 0 := by decide +kernel
set_option maxHeartbeats 4000000 in
set_option maxRecDepth 100000 in
theorem c_X0_get_in (l : Launch) (Z : xZ) (vb vq aq hd sz t : Nat) (g : Nat → Nat) (L : List Nat) (hR : RR 662 hd g L) (hsz : sz = L.length) (hB : BV (L, t)) (q : Nat) (hq : q < bmany (L, t)) : xMi l Z yX0_get vX0_get ({ frames := 2, cells := 0, slots := 0, locals := 43 } : Room) [.ref vb, .int (nI q)] [(vb, .inr (0, [.ref vq, .int (nI t)])), (vq, .inr (2, [.ref aq, .int (nI hd), .int (nI sz)])), (aq, xI Z 662 g)] (fun r w => r = nI (bitf L (q + t % 121)) ∧ w = [(vb, .inr (0, [.ref vq, .int (nI t)])), (vq, .inr (2, [.ref aq, .int (nI hd), .int (nI sz)])), (aq, xI Z 662 g)]) := by
  refine x_i (by decide) rfl (Nat.le_of_ble_eq_true rfl) ?_
  intro p e s m args below meth c ls A hC hr hk hl hP hD hS
  have hx := hC.1.1
  have hb := hC.1.2.1
  have hml := hC.1.2.2.1
  have hown : s.vm.findClass RX0 = some m.cls := hC.1.2.2.2.1
  have hts := hC.1.2.2.2.2
  have hK := hC.2.1
  have qq_32 := hts (Cond.initialized RX6) (List.mem_cons_of_mem _ wq_32)
  have qq_338 := hts (Cond.static yX6_outside) (List.mem_cons_of_mem _ wq_338)
  have qn_38 := hC.2.2.2.1.1 (RX0, 38, yX6_outside, RX6) (List.mem_of_getElem? (i := 10) rfl)
  have qq_308 := hts (Cond.fieldLink RX0 14 "TagTower$Bits" "row" "LTagTower$LetterRow;") (List.mem_cons_of_mem _ wq_308)
  have iX0 : ∀ w ∈ wsX00, w ∈ vX0_get := fun w h => List.mem_cons_of_mem _ (wi_X0 w h)
  have qq_465 := hts (Cond.static yX6_oneIf) (List.mem_cons_of_mem _ wq_465)
  have qn_46 := hC.2.2.2.1.1 (RX0, 46, yX6_oneIf, RX6) (List.mem_of_getElem? (i := 11) rfl)
  have hl : lv_has ls 3 [(0, .ref vb), (1, .int (nI q))] := hl
  have hP : va_P Z.1 vwCl [(vb, .inr (0, [.ref vq, .int (nI t)])), (vq, .inr (2, [.ref aq, .int (nI hd), .int (nI sz)])), (aq, xI Z 662 g)] s.heap := hP
  have hD : va_D A [(vb, .inr (0, [.ref vq, .int (nI t)])), (vq, .inr (2, [.ref aq, .int (nI hd), .int (nI sz)])), (aq, xI Z 662 g)] := hD
  have hR1 := hR.1
  have hR2 := hR.2.1
  obtain ⟨b1, b2, b3, b4, b5⟩ := id hB
  unfold bmany at b3
  dsimp only at b1 b2 b3 b4 b5
  unfold bmany at hq
  dsimp only at hq
  refine lv_iload_n hx hb dX0_get_0 rfl (lv_at hl 1 rfl) ?_
  refine ln_const 0 hx hb dX0_get_1 (by decide) ?_
  refine lv_aload_n hx hb dX0_get_2 rfl (lv_at hl 0 rfl) ?_
  refine x_Vi (y := yX0_size) (As := []) (wc := [(vb, .inr (0, [.ref vq, .int (nI t)])), (vq, .inr (2, [.ref aq, .int (nI hd), .int (nI sz)])), (aq, xI Z 662 g)]) (wr := []) hC hP hD hS (c_X0_size l Z vb vq aq hd sz t g L hR hsz hB) (gV wq_634 wq_631 wq_632 wq_633 wq_44) rfl kv_X0_size rfl rfl ⟨rfl, rfl⟩ rfl hl.1 rfl ⟨Nat.le_of_ble_eq_true rfl, Nat.le_of_ble_eq_true rfl⟩ [0, 1, 2] ([] : List Nat) rfl rfl (by decide) (by decide) (by decide) rfl dX0_get_3 (fun r3 w1 H locs hw hP hD hS => ?_)
  obtain ⟨rfl, rfl⟩ := hw
  have hP : va_P Z.1 vwCl [(vb, .inr (0, [.ref vq, .int (nI t)])), (vq, .inr (2, [.ref aq, .int (nI hd), .int (nI sz)])), (aq, xI Z 662 g)] H := hP
  have hD : va_D A [(vb, .inr (0, [.ref vq, .int (nI t)])), (vq, .inr (2, [.ref aq, .int (nI hd), .int (nI sz)])), (aq, xI Z 662 g)] := hD
  have hbm : bmany (L, t) = 121 * L.length - t % 121 := rfl
  refine ln_const 1 hx hb dX0_get_6 (by decide) ?_
  refine ln_isub ((bmany (L, t)) - 1) hx hb dX0_get_7 (by omega) (by first | rfl | omega) ?_
  refine x_SNi (y := yX6_outside) (As := [.int (nI q), .int (nI 0), .int (nI ((bmany (L, t)) - 1))]) (wc := []) (wr := [(vb, .inr (0, [.ref vq, .int (nI t)])), (vq, .inr (2, [.ref aq, .int (nI hd), .int (nI sz)])), (aq, xI Z 662 g)]) hC hP hD hS (c_out_in l Z (nI q) (nI 0) (nI ((bmany (L, t)) - 1)) (o_in (by omega) (by omega) (by omega))) (gCo wq_339) qn_38 qq_32 qq_338 rfl ks_X6_outside ⟨rfl, rfl⟩ rfl hl.1 rfl ⟨Nat.le_of_ble_eq_true rfl, Nat.le_of_ble_eq_true rfl⟩ ([] : List Nat) [0, 1, 2] rfl rfl (by decide) (by decide) (by decide) rfl dX0_get_8 (fun r8 w1 H locs hw hP hD hS => ?_)
  obtain ⟨rfl, rfl⟩ := hw
  have hP : va_P Z.1 vwCl [(vb, .inr (0, [.ref vq, .int (nI t)])), (vq, .inr (2, [.ref aq, .int (nI hd), .int (nI sz)])), (aq, xI Z 662 g)] H := hP
  have hD : va_D A [(vb, .inr (0, [.ref vq, .int (nI t)])), (vq, .inr (2, [.ref aq, .int (nI hd), .int (nI sz)])), (aq, xI Z 662 g)] := hD
  refine ln_if_eq (tgt := 17) hx hb dX0_get_11 (by decide) (by omega) (fun h11 => ?_) (fun h11 => False.elim (by omega))
  refine lv_iload_n hx hb dX0_get_17 rfl (lv_at hl 1 rfl) ?_
  refine lv_aload_n hx hb dX0_get_18 rfl (lv_at hl 0 rfl) ?_
  refine x_Vi (y := yX0_gone) (As := []) (wc := [(vb, .inr (0, [.ref vq, .int (nI t)]))]) (wr := [(vq, .inr (2, [.ref aq, .int (nI hd), .int (nI sz)])), (aq, xI Z 662 g)]) hC hP hD hS (c_X0_gone l Z vb vq t (by omega)) (gV wq_626 wq_623 wq_625 wq_12 wq_44) rfl kv_X0_gone rfl rfl ⟨rfl, rfl⟩ rfl hl.1 rfl ⟨Nat.le_of_ble_eq_true rfl, Nat.le_of_ble_eq_true rfl⟩ [0] [1, 2] rfl rfl (by decide) (by decide) (by decide) rfl dX0_get_19 (fun r19 w1 H locs hw hP hD hS => ?_)
  obtain ⟨rfl, rfl⟩ := hw
  have hP := hP.sub (ws' := [(vb, .inr (0, [.ref vq, .int (nI t)])), (vq, .inr (2, [.ref aq, .int (nI hd), .int (nI sz)])), (aq, xI Z 662 g)]) [2, 0, 1] rfl
  have hD := hD.sub (ws' := [(vb, .inr (0, [.ref vq, .int (nI t)])), (vq, .inr (2, [.ref aq, .int (nI hd), .int (nI sz)])), (aq, xI Z 662 g)]) [2, 0, 1] (by decide) rfl
  refine ln_iadd (q + (t % 121)) hx hb dX0_get_22 (by first | rfl | omega) ?_
  refine lv_istore_n (lv' := [(2, .int (nI (q + (t % 121)))), (0, .ref vb), (1, .int (nI q))]) hx hb dX0_get_23 rfl hl (by decide) rfl (fun ls hl => ?_)
  refine lv_aload_n hx hb dX0_get_24 rfl (lv_at hl 1 rfl) ?_
  refine va_get (D := Z.1) (ci := 0) (v := .ref vq) (C := RX0) (T := TX0) (N := 2) hx hb hts iX0 hown hK hP 0 rfl rfl 0 (Nat.le_of_ble_eq_true rfl) qq_308 (fun _ h9 => h9) rfl dX0_get_25 ?_
  refine lv_iload_n hx hb dX0_get_28 rfl (lv_at hl 0 rfl) ?_
  refine ln_bipush 121 hx hb dX0_get_29 (by decide) ?_
  refine ln_idiv ((q + (t % 121)) / 121) hx hb dX0_get_31 (by omega) (by omega) (by omega) (by first | rfl | omega) ?_
  refine x_Vi (y := yX2_get) (As := [.int (nI ((q + (t % 121)) / 121))]) (wc := [(vq, .inr (2, [.ref aq, .int (nI hd), .int (nI sz)])), (aq, xI Z 662 g)]) (wr := [(vb, .inr (0, [.ref vq, .int (nI t)]))]) hC hP hD hS (c_X2_get_in l Z vq aq 662 hd sz g L (by omega) hR hsz ((q + (t % 121)) / 121) (by omega)) (gV wq_524 wq_621 wq_522 wq_523 wq_43) rfl kv_X2_get rfl rfl ⟨rfl, rfl⟩ rfl hl.1 rfl ⟨Nat.le_of_ble_eq_true rfl, Nat.le_of_ble_eq_true rfl⟩ [1, 2] [0] rfl rfl (by decide) (by decide) (by decide) rfl dX0_get_32 (fun r32 w1 H locs hw hP hD hS => ?_)
  obtain ⟨rfl, rfl⟩ := hw
  have hP : va_P Z.1 vwCl [(vb, .inr (0, [.ref vq, .int (nI t)])), (vq, .inr (2, [.ref aq, .int (nI hd), .int (nI sz)])), (aq, xI Z 662 g)] H := hP
  have hD : va_D A [(vb, .inr (0, [.ref vq, .int (nI t)])), (vq, .inr (2, [.ref aq, .int (nI hd), .int (nI sz)])), (aq, xI Z 662 g)] := hD
  have hz := b2 _ (getD_mem (w := L) (i := (q + t % 121) / 121) (by omega))
  refine lv_iload_n hx hb dX0_get_35 rfl (lv_at hl 0 rfl) ?_
  refine ln_bipush 121 hx hb dX0_get_36 (by decide) ?_
  refine ln_irem ((q + (t % 121)) % 121) hx hb dX0_get_38 (by omega) (by omega) (by omega) (by first | rfl | omega) ?_
  refine ln_icmp_ne (tgt := 46) hx hb dX0_get_39 (by decide) (by omega) (by omega) (fun h39 => ?_) (fun h39 => ?_)
  · refine ln_const 0 hx hb dX0_get_46 (by decide) ?_
    refine x_SNi (y := yX6_oneIf) (As := [.int (nI 0)]) (wc := []) (wr := [(vb, .inr (0, [.ref vq, .int (nI t)])), (vq, .inr (2, [.ref aq, .int (nI hd), .int (nI sz)])), (aq, xI Z 662 g)]) hC hP hD hS (c_X6_oneIf l Z 0 (by omega)) (gCo wq_466) qn_46 qq_32 qq_465 rfl ks_X6_oneIf ⟨rfl, rfl⟩ rfl hl.1 rfl ⟨Nat.le_of_ble_eq_true rfl, Nat.le_of_ble_eq_true rfl⟩ ([] : List Nat) [0, 1, 2] rfl rfl (by decide) (by decide) (by decide) rfl dX0_get_47 (fun r47 w1 H locs hw hP hD hS => ?_)
    obtain ⟨rfl, rfl⟩ := hw
    have hP : va_P Z.1 vwCl [(vb, .inr (0, [.ref vq, .int (nI t)])), (vq, .inr (2, [.ref aq, .int (nI hd), .int (nI sz)])), (aq, xI Z 662 g)] H := hP
    have hD : va_D A [(vb, .inr (0, [.ref vq, .int (nI t)])), (vq, .inr (2, [.ref aq, .int (nI hd), .int (nI sz)])), (aq, xI Z 662 g)] := hD
    exact x_iret hC hr hk hP hD hS dX0_get_50 ⟨by unfold bitf; rw [if_neg h39], rfl⟩
  · refine ln_const 1 hx hb dX0_get_42 (by decide) ?_
    refine lv_goto (tgt := 47) hx hb dX0_get_43 (by decide) ?_
    refine x_SNi (y := yX6_oneIf) (As := [.int (nI 1)]) (wc := []) (wr := [(vb, .inr (0, [.ref vq, .int (nI t)])), (vq, .inr (2, [.ref aq, .int (nI hd), .int (nI sz)])), (aq, xI Z 662 g)]) hC hP hD hS (c_X6_oneIf l Z 1 (by omega)) (gCo wq_466) qn_46 qq_32 qq_465 rfl ks_X6_oneIf ⟨rfl, rfl⟩ rfl hl.1 rfl ⟨Nat.le_of_ble_eq_true rfl, Nat.le_of_ble_eq_true rfl⟩ ([] : List Nat) [0, 1, 2] rfl rfl (by decide) (by decide) (by decide) rfl dX0_get_47 (fun r47 w1 H locs hw hP hD hS => ?_)
    obtain ⟨rfl, rfl⟩ := hw
    have hP : va_P Z.1 vwCl [(vb, .inr (0, [.ref vq, .int (nI t)])), (vq, .inr (2, [.ref aq, .int (nI hd), .int (nI sz)])), (aq, xI Z 662 g)] H := hP
    have hD : va_D A [(vb, .inr (0, [.ref vq, .int (nI t)])), (vq, .inr (2, [.ref aq, .int (nI hd), .int (nI sz)])), (aq, xI Z 662 g)] := hD
    exact x_iret hC hr hk hP hD hS dX0_get_50 ⟨by unfold bitf; rw [if_pos h39], rfl⟩

set_option maxHeartbeats 4000000 in
set_option maxRecDepth 100000 in
theorem c_X0_get_out (l : Launch) (Z : xZ) (vb vq aq hd sz t : Nat) (g : Nat → Nat) (L : List Nat) (hR : RR 662 hd g L) (hsz : sz = L.length) (hB : BV (L, t)) (q : Int32) (hq : ¬ (0 ≤ q.toInt ∧ q.toInt < (bmany (L, t) : Int))) : xMi l Z yX0_get vX0_get ({ frames := 2, cells := 0, slots := 0, locals := 40 } : Room) [.ref vb, .int q] [(vb, .inr (0, [.ref vq, .int (nI t)])), (vq, .inr (2, [.ref aq, .int (nI hd), .int (nI sz)])), (aq, xI Z 662 g)] (fun r w => r = -9 ∧ w = [(vb, .inr (0, [.ref vq, .int (nI t)])), (vq, .inr (2, [.ref aq, .int (nI hd), .int (nI sz)])), (aq, xI Z 662 g)]) := by
  refine x_i (by decide) rfl (Nat.le_of_ble_eq_true rfl) ?_
  intro p e s m args below meth c ls A hC hr hk hl hP hD hS
  have hx := hC.1.1
  have hb := hC.1.2.1
  have hml := hC.1.2.2.1
  have hown : s.vm.findClass RX0 = some m.cls := hC.1.2.2.2.1
  have hts := hC.1.2.2.2.2
  have hK := hC.2.1
  have qq_32 := hts (Cond.initialized RX6) (List.mem_cons_of_mem _ wq_32)
  have qq_338 := hts (Cond.static yX6_outside) (List.mem_cons_of_mem _ wq_338)
  have qn_38 := hC.2.2.2.1.1 (RX0, 38, yX6_outside, RX6) (List.mem_of_getElem? (i := 10) rfl)
  have hl : lv_has ls 3 [(0, .ref vb), (1, .int q)] := hl
  have hP : va_P Z.1 vwCl [(vb, .inr (0, [.ref vq, .int (nI t)])), (vq, .inr (2, [.ref aq, .int (nI hd), .int (nI sz)])), (aq, xI Z 662 g)] s.heap := hP
  have hD : va_D A [(vb, .inr (0, [.ref vq, .int (nI t)])), (vq, .inr (2, [.ref aq, .int (nI hd), .int (nI sz)])), (aq, xI Z 662 g)] := hD
  have hR1 := hR.1
  have hR2 := hR.2.1
  obtain ⟨b1, b2, b3, b4, b5⟩ := id hB
  unfold bmany at b3
  dsimp only at b1 b2 b3 b4 b5
  refine lv_iload_n hx hb dX0_get_0 rfl (lv_at hl 1 rfl) ?_
  refine ln_const 0 hx hb dX0_get_1 (by decide) ?_
  refine lv_aload_n hx hb dX0_get_2 rfl (lv_at hl 0 rfl) ?_
  refine x_Vi (y := yX0_size) (As := []) (wc := [(vb, .inr (0, [.ref vq, .int (nI t)])), (vq, .inr (2, [.ref aq, .int (nI hd), .int (nI sz)])), (aq, xI Z 662 g)]) (wr := []) hC hP hD hS (c_X0_size l Z vb vq aq hd sz t g L hR hsz hB) (gV wq_634 wq_631 wq_632 wq_633 wq_44) rfl kv_X0_size rfl rfl ⟨rfl, rfl⟩ rfl hl.1 rfl ⟨Nat.le_of_ble_eq_true rfl, Nat.le_of_ble_eq_true rfl⟩ [0, 1, 2] ([] : List Nat) rfl rfl (by decide) (by decide) (by decide) rfl dX0_get_3 (fun r3 w1 H locs hw hP hD hS => ?_)
  obtain ⟨rfl, rfl⟩ := hw
  have hP : va_P Z.1 vwCl [(vb, .inr (0, [.ref vq, .int (nI t)])), (vq, .inr (2, [.ref aq, .int (nI hd), .int (nI sz)])), (aq, xI Z 662 g)] H := hP
  have hD : va_D A [(vb, .inr (0, [.ref vq, .int (nI t)])), (vq, .inr (2, [.ref aq, .int (nI hd), .int (nI sz)])), (aq, xI Z 662 g)] := hD
  have hbm : bmany (L, t) = 121 * L.length - t % 121 := rfl
  refine ln_const 1 hx hb dX0_get_6 (by decide) ?_
  refine lv_isub hx hb dX0_get_7 ?_
  refine x_SNi (y := yX6_outside) (As := [.int q, .int (nI 0), .int ((nI (bmany (L, t))) - (nI 1))]) (wc := []) (wr := [(vb, .inr (0, [.ref vq, .int (nI t)])), (vq, .inr (2, [.ref aq, .int (nI hd), .int (nI sz)])), (aq, xI Z 662 g)]) hC hP hD hS (c_out_out l Z q (nI 0) ((nI (bmany (L, t))) - (nI 1)) (by rw [nI_toInt (by omega), pk_sub_toInt (by omega) (by omega)]; omega)) (gCo wq_339) qn_38 qq_32 qq_338 rfl ks_X6_outside ⟨rfl, rfl⟩ rfl hl.1 rfl ⟨Nat.le_of_ble_eq_true rfl, Nat.le_of_ble_eq_true rfl⟩ ([] : List Nat) [0, 1, 2] rfl rfl (by decide) (by decide) (by decide) rfl dX0_get_8 (fun r8 w1 H locs hw hP hD hS => ?_)
  obtain ⟨rfl, rfl⟩ := hw
  have hP : va_P Z.1 vwCl [(vb, .inr (0, [.ref vq, .int (nI t)])), (vq, .inr (2, [.ref aq, .int (nI hd), .int (nI sz)])), (aq, xI Z 662 g)] H := hP
  have hD : va_D A [(vb, .inr (0, [.ref vq, .int (nI t)])), (vq, .inr (2, [.ref aq, .int (nI hd), .int (nI sz)])), (aq, xI Z 662 g)] := hD
  refine ln_if_eq (tgt := 17) hx hb dX0_get_11 (by decide) (by omega) (fun h11 => False.elim (by omega)) (fun h11 => ?_)
  refine lv_bipush (v := (-9)) hx hb dX0_get_14 (by decide) ?_
  exact x_iret hC hr hk hP hD hS dX0_get_16 ⟨rfl, rfl⟩

set_option maxHeartbeats 4000000 in
set_option maxRecDepth 100000 in
theorem c_X0_ones (l : Launch) (Z : xZ) (vb vq aq hd sz t : Nat) (g : Nat → Nat) (L : List Nat) (hR : RR 662 hd g L) (hsz : sz = L.length) (hB : BV (L, t)) : xMi l Z yX0_ones vX0_ones ({ frames := 2, cells := 0, slots := 0, locals := 43 } : Room) [.ref vb] [(vb, .inr (0, [.ref vq, .int (nI t)])), (vq, .inr (2, [.ref aq, .int (nI hd), .int (nI sz)])), (aq, xI Z 662 g)] (fun r w => r = nI (bones (L, t)) ∧ w = [(vb, .inr (0, [.ref vq, .int (nI t)])), (vq, .inr (2, [.ref aq, .int (nI hd), .int (nI sz)])), (aq, xI Z 662 g)]) := by
  refine x_i (by decide) rfl (Nat.le_of_ble_eq_true rfl) ?_
  intro p e s m args below meth c ls A hC hr hk hl hP hD hS
  have hx := hC.1.1
  have hb := hC.1.2.1
  have hml := hC.1.2.2.1
  have hown : s.vm.findClass RX0 = some m.cls := hC.1.2.2.2.1
  have hts := hC.1.2.2.2.2
  have hK := hC.2.1
  have qq_308 := hts (Cond.fieldLink RX0 14 "TagTower$Bits" "row" "LTagTower$LetterRow;") (List.mem_cons_of_mem _ wq_308)
  have iX0 : ∀ w ∈ wsX00, w ∈ vX0_ones := fun w h => List.mem_cons_of_mem _ (wi_X0 w h)
  have qf_20 := va_Nw.use (A := args) rfl (hC.2.2.2.1.2 (RX0, 20, RX2, "size", "I", RX6) (List.mem_of_getElem? (i := 4) rfl))
  have iX2 : ∀ w ∈ wsX20, w ∈ vX0_ones := fun w h => List.mem_cons_of_mem _ (wi_X2 w h)
  have hl : lv_has ls 2 [(0, .ref vb)] := hl
  have hP : va_P Z.1 vwCl [(vb, .inr (0, [.ref vq, .int (nI t)])), (vq, .inr (2, [.ref aq, .int (nI hd), .int (nI sz)])), (aq, xI Z 662 g)] s.heap := hP
  have hD : va_D A [(vb, .inr (0, [.ref vq, .int (nI t)])), (vq, .inr (2, [.ref aq, .int (nI hd), .int (nI sz)])), (aq, xI Z 662 g)] := hD
  have hR1 := hR.1
  have hR2 := hR.2.1
  obtain ⟨b1, b2, b3, b4, b5⟩ := id hB
  unfold bmany at b3
  dsimp only at b1 b2 b3 b4 b5
  refine lv_aload_n hx hb dX0_ones_0 rfl (lv_at hl 0 rfl) ?_
  refine va_get (D := Z.1) (ci := 0) (v := .ref vq) (C := RX0) (T := TX0) (N := 2) hx hb hts iX0 hown hK hP 0 rfl rfl 0 (Nat.le_of_ble_eq_true rfl) qq_308 (fun _ h9 => h9) rfl dX0_ones_1 ?_
  refine va_getN (D := Z.1) (ci := 2) (v := .int (nI sz)) (C := RX2) (T := TX2) (N := 3) hx hb hts iX2 hown hK hP 1 rfl rfl 2 (Nat.le_of_ble_eq_true rfl) qf_20 (fun _ h9 => h9) rfl dX0_ones_4 ?_
  refine ln_if_le (tgt := 29) hx hb dX0_ones_7 (by decide) (by omega) (fun h7 => ?_) (fun h7 => ?_)
  · refine ln_const 0 hx hb dX0_ones_29 (by decide) ?_
    refine lv_istore_n (lv' := [(1, .int (nI 0)), (0, .ref vb)]) hx hb dX0_ones_30 rfl hl (by decide) rfl (fun ls hl => ?_)
    refine lv_iload_n hx hb dX0_ones_31 rfl (lv_at hl 0 rfl) ?_
    refine ln_if_eq (tgt := 47) hx hb dX0_ones_32 (by decide) (by omega) (fun h32 => ?_) (fun h32 => False.elim (by omega))
    refine lv_aload_n hx hb dX0_ones_47 rfl (lv_at hl 1 rfl) ?_
    refine va_get (D := Z.1) (ci := 0) (v := .ref vq) (C := RX0) (T := TX0) (N := 2) hx hb hts iX0 hown hK hP 0 rfl rfl 0 (Nat.le_of_ble_eq_true rfl) qq_308 (fun _ h9 => h9) rfl dX0_ones_48 ?_
    refine va_getN (D := Z.1) (ci := 2) (v := .int (nI sz)) (C := RX2) (T := TX2) (N := 3) hx hb hts iX2 hown hK hP 1 rfl rfl 2 (Nat.le_of_ble_eq_true rfl) qf_20 (fun _ h9 => h9) rfl dX0_ones_51 ?_
    exact x_iret hC hr hk hP hD hS dX0_ones_54 ⟨by unfold bones; dsimp only; rw [if_neg (by omega), hsz], rfl⟩
  · refine lv_aload_n hx hb dX0_ones_10 rfl (lv_at hl 0 rfl) ?_
    refine va_get (D := Z.1) (ci := 0) (v := .ref vq) (C := RX0) (T := TX0) (N := 2) hx hb hts iX0 hown hK hP 0 rfl rfl 0 (Nat.le_of_ble_eq_true rfl) qq_308 (fun _ h9 => h9) rfl dX0_ones_11 ?_
    refine ln_const 0 hx hb dX0_ones_14 (by decide) ?_
    refine x_Vi (y := yX2_get) (As := [.int (nI 0)]) (wc := [(vq, .inr (2, [.ref aq, .int (nI hd), .int (nI sz)])), (aq, xI Z 662 g)]) (wr := [(vb, .inr (0, [.ref vq, .int (nI t)]))]) hC hP hD hS (c_X2_get_in l Z vq aq 662 hd sz g L (by omega) hR hsz 0 (by omega)) (gV wq_524 wq_621 wq_522 wq_523 wq_43) rfl kv_X2_get rfl rfl ⟨rfl, rfl⟩ rfl hl.1 rfl ⟨Nat.le_of_ble_eq_true rfl, Nat.le_of_ble_eq_true rfl⟩ [1, 2] [0] rfl rfl (by decide) (by decide) (by decide) rfl dX0_ones_15 (fun r15 w1 H locs hw hP hD hS => ?_)
    obtain ⟨rfl, rfl⟩ := hw
    have hP : va_P Z.1 vwCl [(vb, .inr (0, [.ref vq, .int (nI t)])), (vq, .inr (2, [.ref aq, .int (nI hd), .int (nI sz)])), (aq, xI Z 662 g)] H := hP
    have hD : va_D A [(vb, .inr (0, [.ref vq, .int (nI t)])), (vq, .inr (2, [.ref aq, .int (nI hd), .int (nI sz)])), (aq, xI Z 662 g)] := hD
    have hz := b2 _ (getD_mem (w := L) (i := 0) (by omega))
    refine lv_aload_n hx hb dX0_ones_18 rfl (lv_at hl 0 rfl) ?_
    refine x_Vi (y := yX0_gone) (As := []) (wc := [(vb, .inr (0, [.ref vq, .int (nI t)]))]) (wr := [(vq, .inr (2, [.ref aq, .int (nI hd), .int (nI sz)])), (aq, xI Z 662 g)]) hC hP hD hS (c_X0_gone l Z vb vq t (by omega)) (gV wq_626 wq_623 wq_625 wq_12 wq_44) rfl kv_X0_gone rfl rfl ⟨rfl, rfl⟩ rfl hl.1 rfl ⟨Nat.le_of_ble_eq_true rfl, Nat.le_of_ble_eq_true rfl⟩ [0] [1, 2] rfl rfl (by decide) (by decide) (by decide) rfl dX0_ones_19 (fun r19 w1 H locs hw hP hD hS => ?_)
    obtain ⟨rfl, rfl⟩ := hw
    have hP := hP.sub (ws' := [(vb, .inr (0, [.ref vq, .int (nI t)])), (vq, .inr (2, [.ref aq, .int (nI hd), .int (nI sz)])), (aq, xI Z 662 g)]) [2, 0, 1] rfl
    have hD := hD.sub (ws' := [(vb, .inr (0, [.ref vq, .int (nI t)])), (vq, .inr (2, [.ref aq, .int (nI hd), .int (nI sz)])), (aq, xI Z 662 g)]) [2, 0, 1] (by decide) rfl
    refine ln_icmp_ge (tgt := 29) hx hb dX0_ones_22 (by decide) (by omega) (by omega) (fun h22 => ?_) (fun h22 => ?_)
    · refine ln_const 0 hx hb dX0_ones_29 (by decide) ?_
      refine lv_istore_n (lv' := [(1, .int (nI 0)), (0, .ref vb)]) hx hb dX0_ones_30 rfl hl (by decide) rfl (fun ls hl => ?_)
      refine lv_iload_n hx hb dX0_ones_31 rfl (lv_at hl 0 rfl) ?_
      refine ln_if_eq (tgt := 47) hx hb dX0_ones_32 (by decide) (by omega) (fun h32 => ?_) (fun h32 => False.elim (by omega))
      refine lv_aload_n hx hb dX0_ones_47 rfl (lv_at hl 1 rfl) ?_
      refine va_get (D := Z.1) (ci := 0) (v := .ref vq) (C := RX0) (T := TX0) (N := 2) hx hb hts iX0 hown hK hP 0 rfl rfl 0 (Nat.le_of_ble_eq_true rfl) qq_308 (fun _ h9 => h9) rfl dX0_ones_48 ?_
      refine va_getN (D := Z.1) (ci := 2) (v := .int (nI sz)) (C := RX2) (T := TX2) (N := 3) hx hb hts iX2 hown hK hP 1 rfl rfl 2 (Nat.le_of_ble_eq_true rfl) qf_20 (fun _ h9 => h9) rfl dX0_ones_51 ?_
      exact x_iret hC hr hk hP hD hS dX0_ones_54 ⟨by unfold bones; dsimp only; rw [if_neg (by omega), hsz], rfl⟩
    · refine ln_const 1 hx hb dX0_ones_25 (by decide) ?_
      refine lv_goto (tgt := 30) hx hb dX0_ones_26 (by decide) ?_
      refine lv_istore_n (lv' := [(1, .int (nI 1)), (0, .ref vb)]) hx hb dX0_ones_30 rfl hl (by decide) rfl (fun ls hl => ?_)
      refine lv_iload_n hx hb dX0_ones_31 rfl (lv_at hl 0 rfl) ?_
      refine ln_if_eq (tgt := 47) hx hb dX0_ones_32 (by decide) (by omega) (fun h32 => False.elim (by omega)) (fun h32 => ?_)
      refine lv_aload_n hx hb dX0_ones_35 rfl (lv_at hl 1 rfl) ?_
      refine va_get (D := Z.1) (ci := 0) (v := .ref vq) (C := RX0) (T := TX0) (N := 2) hx hb hts iX0 hown hK hP 0 rfl rfl 0 (Nat.le_of_ble_eq_true rfl) qq_308 (fun _ h9 => h9) rfl dX0_ones_36 ?_
      refine va_getN (D := Z.1) (ci := 2) (v := .int (nI sz)) (C := RX2) (T := TX2) (N := 3) hx hb hts iX2 hown hK hP 1 rfl rfl 2 (Nat.le_of_ble_eq_true rfl) qf_20 (fun _ h9 => h9) rfl dX0_ones_39 ?_
      refine ln_const 1 hx hb dX0_ones_42 (by decide) ?_
      refine ln_isub (sz - 1) hx hb dX0_ones_43 (by omega) (by first | rfl | omega) ?_
      refine lv_goto (tgt := 54) hx hb dX0_ones_44 (by decide) ?_
      exact x_iret hC hr hk hP hD hS dX0_ones_54 ⟨by unfold bones; dsimp only; rw [if_pos ⟨by omega, by omega⟩, hsz], rfl⟩

set_option maxHeartbeats 4000000 in
set_option maxRecDepth 100000 in
theorem c_X0_isStill (l : Launch) (Z : xZ) (vb vq aq hd sz t : Nat) (g : Nat → Nat) (L : List Nat) (hR : RR 662 hd g L) (hsz : sz = L.length) (hB : BV (L, t)) (hp s0 s1 : Nat) (sz1 lt1 : Nat → Nat) (R : xRl) (hV : RV R) (hT : TR (xprod R) sz1 lt1) : xMi l Z yX0_isStill vX0_isStill ({ frames := 2, cells := 0, slots := 0, locals := 43 } : Room) [.ref vb, .ref hp] [(vb, .inr (0, [.ref vq, .int (nI t)])), (vq, .inr (2, [.ref aq, .int (nI hd), .int (nI sz)])), (aq, xI Z 662 g), (hp, .inr (4, [.ref s0, .ref s1])), (s0, xI Z 121 sz1), (s1, xI Z 484 lt1)] (fun r w => (bstill R (L, t) ∧ r = nI 1 ∧ w = [(vb, .inr (0, [.ref vq, .int (nI t)])), (vq, .inr (2, [.ref aq, .int (nI hd), .int (nI sz)])), (aq, xI Z 662 g), (hp, .inr (4, [.ref s0, .ref s1])), (s0, xI Z 121 sz1), (s1, xI Z 484 lt1)]) ∨ (¬ bstill R (L, t) ∧ r = nI 0 ∧ w = [(vb, .inr (0, [.ref vq, .int (nI t)])), (vq, .inr (2, [.ref aq, .int (nI hd), .int (nI sz)])), (aq, xI Z 662 g), (hp, .inr (4, [.ref s0, .ref s1])), (s0, xI Z 121 sz1), (s1, xI Z 484 lt1)])) := by
  refine x_i (by decide) rfl (Nat.le_of_ble_eq_true rfl) ?_
  intro p e s m args below meth c ls A hC hr hk hl hP hD hS
  have hx := hC.1.1
  have hb := hC.1.2.1
  have hml := hC.1.2.2.1
  have hown : s.vm.findClass RX0 = some m.cls := hC.1.2.2.2.1
  have hts := hC.1.2.2.2.2
  have hK := hC.2.1
  have qq_310 := hts (Cond.fieldLink RX0 29 "TagTower$Bits" "turn" "I") (List.mem_cons_of_mem _ wq_310)
  have iX0 : ∀ w ∈ wsX00, w ∈ vX0_isStill := fun w h => List.mem_cons_of_mem _ (wi_X0 w h)
  have qq_308 := hts (Cond.fieldLink RX0 14 "TagTower$Bits" "row" "LTagTower$LetterRow;") (List.mem_cons_of_mem _ wq_308)
  have qf_20 := va_Nw.use (A := args) rfl (hC.2.2.2.1.2 (RX0, 20, RX2, "size", "I", RX6) (List.mem_of_getElem? (i := 4) rfl))
  have iX2 : ∀ w ∈ wsX20, w ∈ vX0_isStill := fun w h => List.mem_cons_of_mem _ (wi_X2 w h)
  have hl : lv_has ls 2 [(0, .ref vb), (1, .ref hp)] := hl
  have hP : va_P Z.1 vwCl [(vb, .inr (0, [.ref vq, .int (nI t)])), (vq, .inr (2, [.ref aq, .int (nI hd), .int (nI sz)])), (aq, xI Z 662 g), (hp, .inr (4, [.ref s0, .ref s1])), (s0, xI Z 121 sz1), (s1, xI Z 484 lt1)] s.heap := hP
  have hD : va_D A [(vb, .inr (0, [.ref vq, .int (nI t)])), (vq, .inr (2, [.ref aq, .int (nI hd), .int (nI sz)])), (aq, xI Z 662 g), (hp, .inr (4, [.ref s0, .ref s1])), (s0, xI Z 121 sz1), (s1, xI Z 484 lt1)] := hD
  have hR1 := hR.1
  have hR2 := hR.2.1
  obtain ⟨b1, b2, b3, b4, b5⟩ := id hB
  unfold bmany at b3
  dsimp only at b1 b2 b3 b4 b5
  refine lv_aload_n hx hb dX0_isStill_0 rfl (lv_at hl 0 rfl) ?_
  refine va_get (D := Z.1) (ci := 0) (v := .int (nI t)) (C := RX0) (T := TX0) (N := 2) hx hb hts iX0 hown hK hP 0 rfl rfl 1 (Nat.le_of_ble_eq_true rfl) qq_310 (fun _ h9 => h9) rfl dX0_isStill_1 ?_
  refine ln_if_ne (tgt := 37) hx hb dX0_isStill_4 (by decide) (by omega) (fun h4 => ?_) (fun h4 => ?_)
  · refine ln_const 0 hx hb dX0_isStill_37 (by decide) ?_
    exact x_zret hC hr rfl hk hP hD hS dX0_isStill_38 (Or.inr ⟨fun q => h4 q.1, rfl, rfl⟩)
  · refine lv_aload_n hx hb dX0_isStill_7 rfl (lv_at hl 0 rfl) ?_
    refine va_get (D := Z.1) (ci := 0) (v := .ref vq) (C := RX0) (T := TX0) (N := 2) hx hb hts iX0 hown hK hP 0 rfl rfl 0 (Nat.le_of_ble_eq_true rfl) qq_308 (fun _ h9 => h9) rfl dX0_isStill_8 ?_
    refine va_getN (D := Z.1) (ci := 2) (v := .int (nI sz)) (C := RX2) (T := TX2) (N := 3) hx hb hts iX2 hown hK hP 1 rfl rfl 2 (Nat.le_of_ble_eq_true rfl) qf_20 (fun _ h9 => h9) rfl dX0_isStill_11 ?_
    refine ln_const 2 hx hb dX0_isStill_14 (by decide) ?_
    refine ln_icmp_lt (tgt := 33) hx hb dX0_isStill_15 (by decide) (by omega) (by omega) (fun h15 => ?_) (fun h15 => ?_)
    · refine ln_const 1 hx hb dX0_isStill_33 (by decide) ?_
      refine lv_goto (tgt := 38) hx hb dX0_isStill_34 (by decide) ?_
      exact x_zret hC hr rfl hk hP hD hS dX0_isStill_38 (Or.inl ⟨⟨h4, Or.inl (by dsimp only; omega)⟩, rfl, rfl⟩)
    · refine lv_aload_n hx hb dX0_isStill_18 rfl (lv_at hl 1 rfl) ?_
      refine lv_aload_n hx hb dX0_isStill_19 rfl (lv_at hl 0 rfl) ?_
      refine va_get (D := Z.1) (ci := 0) (v := .ref vq) (C := RX0) (T := TX0) (N := 2) hx hb hts iX0 hown hK hP 0 rfl rfl 0 (Nat.le_of_ble_eq_true rfl) qq_308 (fun _ h9 => h9) rfl dX0_isStill_20 ?_
      refine ln_const 0 hx hb dX0_isStill_23 (by decide) ?_
      refine x_Vi (y := yX2_get) (As := [.int (nI 0)]) (wc := [(vq, .inr (2, [.ref aq, .int (nI hd), .int (nI sz)])), (aq, xI Z 662 g)]) (wr := [(vb, .inr (0, [.ref vq, .int (nI t)])), (hp, .inr (4, [.ref s0, .ref s1])), (s0, xI Z 121 sz1), (s1, xI Z 484 lt1)]) hC hP hD hS (c_X2_get_in l Z vq aq 662 hd sz g L (by omega) hR hsz 0 (by omega)) (gV wq_524 wq_621 wq_522 wq_523 wq_43) rfl kv_X2_get rfl rfl ⟨rfl, rfl⟩ rfl hl.1 rfl ⟨Nat.le_of_ble_eq_true rfl, Nat.le_of_ble_eq_true rfl⟩ [1, 2] [0, 3, 4, 5] rfl rfl (by decide) (by decide) (by decide) rfl dX0_isStill_24 (fun r24 w1 H locs hw hP hD hS => ?_)
      obtain ⟨rfl, rfl⟩ := hw
      have hP := hP.sub (ws' := [(vb, .inr (0, [.ref vq, .int (nI t)])), (vq, .inr (2, [.ref aq, .int (nI hd), .int (nI sz)])), (aq, xI Z 662 g), (hp, .inr (4, [.ref s0, .ref s1])), (s0, xI Z 121 sz1), (s1, xI Z 484 lt1)]) [0, 4, 5, 1, 2, 3] rfl
      have hD := hD.sub (ws' := [(vb, .inr (0, [.ref vq, .int (nI t)])), (vq, .inr (2, [.ref aq, .int (nI hd), .int (nI sz)])), (aq, xI Z 662 g), (hp, .inr (4, [.ref s0, .ref s1])), (s0, xI Z 121 sz1), (s1, xI Z 484 lt1)]) [0, 4, 5, 1, 2, 3] (by decide) rfl
      have hz := b2 _ (getD_mem (w := L) (i := 0) (by omega))
      have htp := tapp_in (T := xprod R) hz
      have hT4 := (xprod_ok hV hz).1
      refine x_Vi (y := yX4_sizeOf) (As := [.int (nI (L.getD 0 0))]) (wc := [(hp, .inr (4, [.ref s0, .ref s1])), (s0, xI Z 121 sz1), (s1, xI Z 484 lt1)]) (wr := [(vb, .inr (0, [.ref vq, .int (nI t)])), (vq, .inr (2, [.ref aq, .int (nI hd), .int (nI sz)])), (aq, xI Z 662 g)]) hC hP hD hS (c_sizeOf l Z hp s0 s1 sz1 lt1 (xprod R) hT (L.getD 0 0) (by omega)) (gV wq_478 wq_622 wq_476 wq_477 wq_35) rfl kv_X4_sizeOf rfl rfl ⟨rfl, rfl⟩ rfl hl.1 rfl ⟨Nat.le_of_ble_eq_true rfl, Nat.le_of_ble_eq_true rfl⟩ [3, 4, 5] [0, 1, 2] rfl rfl (by decide) (by decide) (by decide) rfl dX0_isStill_27 (fun r27 w1 H locs hw hP hD hS => ?_)
      obtain ⟨rfl, rfl⟩ := hw
      have hP : va_P Z.1 vwCl [(vb, .inr (0, [.ref vq, .int (nI t)])), (vq, .inr (2, [.ref aq, .int (nI hd), .int (nI sz)])), (aq, xI Z 662 g), (hp, .inr (4, [.ref s0, .ref s1])), (s0, xI Z 121 sz1), (s1, xI Z 484 lt1)] H := hP
      have hD : va_D A [(vb, .inr (0, [.ref vq, .int (nI t)])), (vq, .inr (2, [.ref aq, .int (nI hd), .int (nI sz)])), (aq, xI Z 662 g), (hp, .inr (4, [.ref s0, .ref s1])), (s0, xI Z 121 sz1), (s1, xI Z 484 lt1)] := hD
      rw [htp]
      refine ln_if_ne (tgt := 37) hx hb dX0_isStill_30 (by decide) (by omega) (fun h30 => ?_) (fun h30 => ?_)
      · refine ln_const 0 hx hb dX0_isStill_37 (by decide) ?_
        exact x_zret hC hr rfl hk hP hD hS dX0_isStill_38 (Or.inr ⟨fun q => q.2.elim (fun z => by dsimp only at z; omega) h30, rfl, rfl⟩)
      · refine ln_const 1 hx hb dX0_isStill_33 (by decide) ?_
        refine lv_goto (tgt := 38) hx hb dX0_isStill_34 (by decide) ?_
        exact x_zret hC hr rfl hk hP hD hS dX0_isStill_38 (Or.inl ⟨⟨h4, Or.inr h30⟩, rfl, rfl⟩)

set_option maxHeartbeats 4000000 in
set_option maxRecDepth 100000 in
theorem c_X0_pass (l : Launch) (Z : xZ) (vb vq aq hd sz t : Nat) (g : Nat → Nat) (L : List Nat) (hR : RR 662 hd g L) (hsz : sz = L.length) (k : Nat) (ht : t + k ≤ 242) (hL : 1 ≤ L.length) : xMv l Z yX0_pass vX0_pass ({ frames := 2, cells := 0, slots := 0, locals := 43 } : Room) [.ref vb, .int (nI k)] [(vb, .inr (0, [.ref vq, .int (nI t)])), (vq, .inr (2, [.ref aq, .int (nI hd), .int (nI sz)])), (aq, xI Z 662 g)] (fun w => ∃ hd2, RR 662 hd2 g (bpk k (L, t)).1 ∧ w = [(vb, .inr (0, [.ref vq, .int (nI ((bpk k (L, t)).2))])), (vq, .inr (2, [.ref aq, .int (nI hd2), .int (nI ((bpk k (L, t)).1.length))])), (aq, xI Z 662 g)]) := by
  refine x_v (by decide) rfl (Nat.le_of_ble_eq_true rfl) ?_
  intro p e s m args below meth c ls A hC hr hk hname hl hP hD hS
  have hx := hC.1.1
  have hb := hC.1.2.1
  have hml := hC.1.2.2.1
  have hown : s.vm.findClass RX0 = some m.cls := hC.1.2.2.2.1
  have hts := hC.1.2.2.2.2
  have hK := hC.2.1
  have qq_310 := hts (Cond.fieldLink RX0 29 "TagTower$Bits" "turn" "I") (List.mem_cons_of_mem _ wq_310)
  have iX0 : ∀ w ∈ wsX00, w ∈ vX0_pass := fun w h => List.mem_cons_of_mem _ (wi_X0 w h)
  have qq_308 := hts (Cond.fieldLink RX0 14 "TagTower$Bits" "row" "LTagTower$LetterRow;") (List.mem_cons_of_mem _ wq_308)
  have hl : lv_has ls 2 [(0, .ref vb), (1, .int (nI k))] := hl
  have hP : va_P Z.1 vwCl [(vb, .inr (0, [.ref vq, .int (nI t)])), (vq, .inr (2, [.ref aq, .int (nI hd), .int (nI sz)])), (aq, xI Z 662 g)] s.heap := hP
  have hD : va_D A [(vb, .inr (0, [.ref vq, .int (nI t)])), (vq, .inr (2, [.ref aq, .int (nI hd), .int (nI sz)])), (aq, xI Z 662 g)] := hD
  have hR1 := hR.1
  have hR2 := hR.2.1
  refine lv_aload_n hx hb dX0_pass_0 rfl (lv_at hl 0 rfl) ?_
  refine lv_dup hx hb dX0_pass_1 rfl ?_
  refine va_get (D := Z.1) (ci := 0) (v := .int (nI t)) (C := RX0) (T := TX0) (N := 2) hx hb hts iX0 hown hK hP 0 rfl rfl 1 (Nat.le_of_ble_eq_true rfl) qq_310 (fun _ h9 => h9) rfl dX0_pass_2 ?_
  refine lv_iload_n hx hb dX0_pass_5 rfl (lv_at hl 1 rfl) ?_
  refine ln_iadd (t + k) hx hb dX0_pass_6 (by first | rfl | omega) ?_
  refine va_put (D := Z.1) (ci := 0) (v := .int (nI (t + k))) (ty := tyX0 1) (C := RX0) (T := TX0) (N := 2) hx hb hts iX0 tyX0 tyX0_ok nmX0 hown hK hP hD hS 0 rfl rfl 1 (Nat.le_of_ble_eq_true rfl) qq_310 (fun _ h9 => h9) rfl (tyX0_ok 1 (Nat.le_of_ble_eq_true rfl)) rfl rfl (Nat.le_of_ble_eq_true rfl) dX0_pass_7 (fun H locs hP hD hS => ?_)
  have hP : va_P Z.1 vwCl [(vb, .inr (0, [.ref vq, .int (nI (t + k))])), (vq, .inr (2, [.ref aq, .int (nI hd), .int (nI sz)])), (aq, xI Z 662 g)] H := hP
  have hD : va_D A [(vb, .inr (0, [.ref vq, .int (nI (t + k))])), (vq, .inr (2, [.ref aq, .int (nI hd), .int (nI sz)])), (aq, xI Z 662 g)] := hD
  refine lv_aload_n hx hb dX0_pass_10 rfl (lv_at hl 0 rfl) ?_
  refine x_Vi (y := yX0_gone) (As := []) (wc := [(vb, .inr (0, [.ref vq, .int (nI (t + k))]))]) (wr := [(vq, .inr (2, [.ref aq, .int (nI hd), .int (nI sz)])), (aq, xI Z 662 g)]) hC hP hD hS (c_X0_gone l Z vb vq (t + k) (by omega)) (gV wq_626 wq_623 wq_625 wq_12 wq_44) rfl kv_X0_gone rfl rfl ⟨rfl, rfl⟩ rfl hl.1 rfl ⟨Nat.le_of_ble_eq_true rfl, Nat.le_of_ble_eq_true rfl⟩ [0] [1, 2] rfl rfl (by decide) (by decide) (by decide) rfl dX0_pass_11 (fun r11 w1 H locs hw hP hD hS => ?_)
  obtain ⟨rfl, rfl⟩ := hw
  have hP := hP.sub (ws' := [(vb, .inr (0, [.ref vq, .int (nI (t + k))])), (vq, .inr (2, [.ref aq, .int (nI hd), .int (nI sz)])), (aq, xI Z 662 g)]) [2, 0, 1] rfl
  have hD := hD.sub (ws' := [(vb, .inr (0, [.ref vq, .int (nI (t + k))])), (vq, .inr (2, [.ref aq, .int (nI hd), .int (nI sz)])), (aq, xI Z 662 g)]) [2, 0, 1] (by decide) rfl
  refine ln_if_ne (tgt := 25) hx hb dX0_pass_14 (by decide) (by omega) (fun h14 => ?_) (fun h14 => ?_)
  · refine lv_aload_n hx hb dX0_pass_25 rfl (lv_at hl 0 rfl) ?_
    refine va_get (D := Z.1) (ci := 0) (v := .int (nI (t + k))) (C := RX0) (T := TX0) (N := 2) hx hb hts iX0 hown hK hP 0 rfl rfl 1 (Nat.le_of_ble_eq_true rfl) qq_310 (fun _ h9 => h9) rfl dX0_pass_26 ?_
    refine ln_sipush 242 hx hb dX0_pass_29 (by decide) ?_
    refine ln_icmp_lt (tgt := 40) hx hb dX0_pass_32 (by decide) (by omega) (by omega) (fun h32 => ?_) (fun h32 => ?_)
    · have e1 : (bpk k (L, t)).1 = L := by unfold bpk; dsimp only; rw [if_neg h14]
      have e2 : (bpk k (L, t)).2 = t + k := by unfold bpk; dsimp only; rw [if_neg (by omega)]
      exact x_vret hC hr hk hP hD hS dX0_pass_40 ⟨_, by rw [e1]; exact hR, by rw [e1, e2]; rw [hsz]⟩
    · refine lv_aload_n hx hb dX0_pass_35 rfl (lv_at hl 0 rfl) ?_
      refine ln_const 0 hx hb dX0_pass_36 (by decide) ?_
      refine va_put (D := Z.1) (ci := 0) (v := .int (nI 0)) (ty := tyX0 1) (C := RX0) (T := TX0) (N := 2) hx hb hts iX0 tyX0 tyX0_ok nmX0 hown hK hP hD hS 0 rfl rfl 1 (Nat.le_of_ble_eq_true rfl) qq_310 (fun _ h9 => h9) rfl (tyX0_ok 1 (Nat.le_of_ble_eq_true rfl)) rfl rfl (Nat.le_of_ble_eq_true rfl) dX0_pass_37 (fun H locs hP hD hS => ?_)
      have hP : va_P Z.1 vwCl [(vb, .inr (0, [.ref vq, .int (nI 0)])), (vq, .inr (2, [.ref aq, .int (nI hd), .int (nI sz)])), (aq, xI Z 662 g)] H := hP
      have hD : va_D A [(vb, .inr (0, [.ref vq, .int (nI 0)])), (vq, .inr (2, [.ref aq, .int (nI hd), .int (nI sz)])), (aq, xI Z 662 g)] := hD
      have e1 : (bpk k (L, t)).1 = L := by unfold bpk; dsimp only; rw [if_neg h14]
      have e2 : (bpk k (L, t)).2 = 0 := by unfold bpk; dsimp only; rw [if_pos (by omega)]
      exact x_vret hC hr hk hP hD hS dX0_pass_40 ⟨_, by rw [e1]; exact hR, by rw [e1, e2]; rw [hsz]⟩
  · refine lv_aload_n hx hb dX0_pass_17 rfl (lv_at hl 0 rfl) ?_
    refine va_get (D := Z.1) (ci := 0) (v := .ref vq) (C := RX0) (T := TX0) (N := 2) hx hb hts iX0 hown hK hP 0 rfl rfl 0 (Nat.le_of_ble_eq_true rfl) qq_308 (fun _ h9 => h9) rfl dX0_pass_18 ?_
    refine ln_const 1 hx hb dX0_pass_21 (by decide) ?_
    refine x_Vv (y := yX2_drop) (As := [.int (nI 1)]) (wc := [(vq, .inr (2, [.ref aq, .int (nI hd), .int (nI sz)])), (aq, xI Z 662 g)]) (wr := [(vb, .inr (0, [.ref vq, .int (nI (t + k))]))]) hC hP hD hS (c_X2_drop l Z vq aq 662 hd sz g L (by omega) hR hsz 1 (by omega)) (gV wq_547 wq_640 wq_545 wq_546 wq_43) rfl kv_X2_drop rfl rfl ⟨rfl, rfl⟩ rfl hl.1 rfl ⟨Nat.le_of_ble_eq_true rfl, Nat.le_of_ble_eq_true rfl⟩ [1, 2] [0] rfl rfl (by decide) (by decide) (by decide) rfl dX0_pass_22 (fun w1 H locs hw hP hD hS => ?_)
    obtain ⟨hRd, rfl⟩ := hw
    have hP : va_P Z.1 vwCl [(vb, .inr (0, [.ref vq, .int (nI (t + k))])), (vq, .inr (2, [.ref aq, .int (nI (xwr 662 (hd + 1))), .int (nI (sz - 1))])), (aq, xI Z 662 g)] H := hP
    have hD : va_D A [(vb, .inr (0, [.ref vq, .int (nI (t + k))])), (vq, .inr (2, [.ref aq, .int (nI (xwr 662 (hd + 1))), .int (nI (sz - 1))])), (aq, xI Z 662 g)] := hD
    refine lv_aload_n hx hb dX0_pass_25 rfl (lv_at hl 0 rfl) ?_
    refine va_get (D := Z.1) (ci := 0) (v := .int (nI (t + k))) (C := RX0) (T := TX0) (N := 2) hx hb hts iX0 hown hK hP 0 rfl rfl 1 (Nat.le_of_ble_eq_true rfl) qq_310 (fun _ h9 => h9) rfl dX0_pass_26 ?_
    refine ln_sipush 242 hx hb dX0_pass_29 (by decide) ?_
    refine ln_icmp_lt (tgt := 40) hx hb dX0_pass_32 (by decide) (by omega) (by omega) (fun h32 => ?_) (fun h32 => ?_)
    · have e1 : (bpk k (L, t)).1 = L.drop 1 := by unfold bpk; dsimp only; rw [if_pos h14]
      have e2 : (bpk k (L, t)).2 = t + k := by unfold bpk; dsimp only; rw [if_neg (by omega)]
      exact x_vret hC hr hk hP hD hS dX0_pass_40 ⟨_, by rw [e1]; exact hRd, by rw [e1, e2]; rw [List.length_drop, hsz]⟩
    · refine lv_aload_n hx hb dX0_pass_35 rfl (lv_at hl 0 rfl) ?_
      refine ln_const 0 hx hb dX0_pass_36 (by decide) ?_
      refine va_put (D := Z.1) (ci := 0) (v := .int (nI 0)) (ty := tyX0 1) (C := RX0) (T := TX0) (N := 2) hx hb hts iX0 tyX0 tyX0_ok nmX0 hown hK hP hD hS 0 rfl rfl 1 (Nat.le_of_ble_eq_true rfl) qq_310 (fun _ h9 => h9) rfl (tyX0_ok 1 (Nat.le_of_ble_eq_true rfl)) rfl rfl (Nat.le_of_ble_eq_true rfl) dX0_pass_37 (fun H locs hP hD hS => ?_)
      have hP : va_P Z.1 vwCl [(vb, .inr (0, [.ref vq, .int (nI 0)])), (vq, .inr (2, [.ref aq, .int (nI (xwr 662 (hd + 1))), .int (nI (sz - 1))])), (aq, xI Z 662 g)] H := hP
      have hD : va_D A [(vb, .inr (0, [.ref vq, .int (nI 0)])), (vq, .inr (2, [.ref aq, .int (nI (xwr 662 (hd + 1))), .int (nI (sz - 1))])), (aq, xI Z 662 g)] := hD
      have e1 : (bpk k (L, t)).1 = L.drop 1 := by unfold bpk; dsimp only; rw [if_pos h14]
      have e2 : (bpk k (L, t)).2 = 0 := by unfold bpk; dsimp only; rw [if_pos (by omega)]
      exact x_vret hC hr hk hP hD hS dX0_pass_40 ⟨_, by rw [e1]; exact hRd, by rw [e1, e2]; rw [List.length_drop, hsz]⟩

theorem kv_X0_pass : yX0_pass.cls = RX0 ∧ yX0_pass.cls ≠ "java/lang/invoke/MethodHandle" ∧ yX0_pass.cls ≠ "java/lang/invoke/VarHandle" ∧ (parseMethodDescriptor yX0_pass.desc).map (fun d => d.parameters.length) = some 1 := by decide +kernel
set_option maxHeartbeats 4000000 in
set_option maxRecDepth 100000 in
theorem c_X0_takeOne (l : Launch) (Z : xZ) (vb vq aq hd sz t : Nat) (g : Nat → Nat) (L : List Nat) (hR : RR 662 hd g L) (hsz : sz = L.length) (hB : BV (L, t)) (hp s0 s1 : Nat) (sz1 lt1 : Nat → Nat) (R : xRl) (hV : RV R) (hT : TR (xprod R) sz1 lt1) (hs : ¬ bstill R (L, t)) (h0 : L.getD 0 0 = t % 121) : xMi l Z yX0_takeOne vX0_takeOne ({ frames := 3, cells := 0, slots := 0, locals := 68 } : Room) [.ref vb, .ref hp] [(vb, .inr (0, [.ref vq, .int (nI t)])), (vq, .inr (2, [.ref aq, .int (nI hd), .int (nI sz)])), (aq, xI Z 662 g), (hp, .inr (4, [.ref s0, .ref s1])), (s0, xI Z 121 sz1), (s1, xI Z 484 lt1)] (fun r w => (bstep R (L, t) = none ∧ r = nI 0 ∧ w = [(vb, .inr (0, [.ref vq, .int (nI t)])), (vq, .inr (2, [.ref aq, .int (nI hd), .int (nI sz)])), (aq, xI Z 662 g), (hp, .inr (4, [.ref s0, .ref s1])), (s0, xI Z 121 sz1), (s1, xI Z 484 lt1)]) ∨ (∃ P hd2 g2, bstep R (L, t) = some P ∧ RR 662 hd2 g2 P.1 ∧ r = nI 1 ∧ w = [(vb, .inr (0, [.ref vq, .int (nI P.2)])), (vq, .inr (2, [.ref aq, .int (nI hd2), .int (nI P.1.length)])), (aq, xI Z 662 g2), (hp, .inr (4, [.ref s0, .ref s1])), (s0, xI Z 121 sz1), (s1, xI Z 484 lt1)])) := by
  refine x_i (by decide) rfl (Nat.le_of_ble_eq_true rfl) ?_
  intro p e s m args below meth c ls A hC hr hk hl hP hD hS
  have hx := hC.1.1
  have hb := hC.1.2.1
  have hml := hC.1.2.2.1
  have hown : s.vm.findClass RX0 = some m.cls := hC.1.2.2.2.1
  have hts := hC.1.2.2.2.2
  have hK := hC.2.1
  have qq_310 := hts (Cond.fieldLink RX0 29 "TagTower$Bits" "turn" "I") (List.mem_cons_of_mem _ wq_310)
  have iX0 : ∀ w ∈ wsX00, w ∈ vX0_takeOne := fun w h => List.mem_cons_of_mem _ (wi_X0 w h)
  have qq_603 := hts (Cond.constant RX0 24 (80000)) (List.mem_cons_of_mem _ wq_603)
  have qq_308 := hts (Cond.fieldLink RX0 14 "TagTower$Bits" "row" "LTagTower$LetterRow;") (List.mem_cons_of_mem _ wq_308)
  have hl : lv_has ls 2 [(0, .ref vb), (1, .ref hp)] := hl
  have hP : va_P Z.1 vwCl [(vb, .inr (0, [.ref vq, .int (nI t)])), (vq, .inr (2, [.ref aq, .int (nI hd), .int (nI sz)])), (aq, xI Z 662 g), (hp, .inr (4, [.ref s0, .ref s1])), (s0, xI Z 121 sz1), (s1, xI Z 484 lt1)] s.heap := hP
  have hD : va_D A [(vb, .inr (0, [.ref vq, .int (nI t)])), (vq, .inr (2, [.ref aq, .int (nI hd), .int (nI sz)])), (aq, xI Z 662 g), (hp, .inr (4, [.ref s0, .ref s1])), (s0, xI Z 121 sz1), (s1, xI Z 484 lt1)] := hD
  have hR1 := hR.1
  have hR2 := hR.2.1
  obtain ⟨b1, b2, b3, b4, b5⟩ := id hB
  unfold bmany at b3
  dsimp only at b1 b2 b3 b4 b5
  obtain ⟨b6, b7⟩ := hB.one hs
  have htl : (tapp (xprod R) t).length ≤ 4 := by
    rcases Nat.lt_or_ge t 121 with q | q
    · rw [tapp_in q]; exact (hT t q).2.1
    · rw [tapp_out q]; simp
  have hta : tapp (xprod R) t = bapp R t := rfl
  have hmd := Nat.mod_lt t (show 0 < 121 by decide)
  refine lv_aload_n hx hb dX0_takeOne_0 rfl (lv_at hl 0 rfl) ?_
  refine x_Vi (y := yX0_size) (As := []) (wc := [(vb, .inr (0, [.ref vq, .int (nI t)])), (vq, .inr (2, [.ref aq, .int (nI hd), .int (nI sz)])), (aq, xI Z 662 g)]) (wr := [(hp, .inr (4, [.ref s0, .ref s1])), (s0, xI Z 121 sz1), (s1, xI Z 484 lt1)]) hC hP hD hS (c_X0_size l Z vb vq aq hd sz t g L hR hsz hB) (gV wq_634 wq_631 wq_632 wq_633 wq_44) rfl kv_X0_size rfl rfl ⟨rfl, rfl⟩ rfl hl.1 rfl ⟨Nat.le_of_ble_eq_true rfl, Nat.le_of_ble_eq_true rfl⟩ [0, 1, 2] [3, 4, 5] rfl rfl (by decide) (by decide) (by decide) rfl dX0_takeOne_1 (fun r1 w1 H locs hw hP hD hS => ?_)
  obtain ⟨rfl, rfl⟩ := hw
  have hP := hP.sub (ws' := [(vb, .inr (0, [.ref vq, .int (nI t)])), (vq, .inr (2, [.ref aq, .int (nI hd), .int (nI sz)])), (aq, xI Z 662 g), (hp, .inr (4, [.ref s0, .ref s1])), (s0, xI Z 121 sz1), (s1, xI Z 484 lt1)]) [3, 4, 5, 0, 1, 2] rfl
  have hD := hD.sub (ws' := [(vb, .inr (0, [.ref vq, .int (nI t)])), (vq, .inr (2, [.ref aq, .int (nI hd), .int (nI sz)])), (aq, xI Z 662 g), (hp, .inr (4, [.ref s0, .ref s1])), (s0, xI Z 121 sz1), (s1, xI Z 484 lt1)]) [3, 4, 5, 0, 1, 2] (by decide) rfl
  have hbm : bmany (L, t) = 121 * L.length - t % 121 := rfl
  refine ln_const 1 hx hb dX0_takeOne_4 (by decide) ?_
  refine ln_isub ((bmany (L, t)) - 1) hx hb dX0_takeOne_5 (by omega) (by first | rfl | omega) ?_
  refine lv_aload_n hx hb dX0_takeOne_6 rfl (lv_at hl 1 rfl) ?_
  refine lv_aload_n hx hb dX0_takeOne_7 rfl (lv_at hl 0 rfl) ?_
  refine va_get (D := Z.1) (ci := 0) (v := .int (nI t)) (C := RX0) (T := TX0) (N := 2) hx hb hts iX0 hown hK hP 0 rfl rfl 1 (Nat.le_of_ble_eq_true rfl) qq_310 (fun _ h9 => h9) rfl dX0_takeOne_8 ?_
  refine x_Vi (y := yX4_sizeOf) (As := [.int (nI t)]) (wc := [(hp, .inr (4, [.ref s0, .ref s1])), (s0, xI Z 121 sz1), (s1, xI Z 484 lt1)]) (wr := [(vb, .inr (0, [.ref vq, .int (nI t)])), (vq, .inr (2, [.ref aq, .int (nI hd), .int (nI sz)])), (aq, xI Z 662 g)]) hC hP hD hS (c_sizeOf l Z hp s0 s1 sz1 lt1 (xprod R) hT t (by omega)) (gV wq_478 wq_622 wq_476 wq_477 wq_35) rfl kv_X4_sizeOf rfl rfl ⟨rfl, rfl⟩ rfl hl.1 rfl ⟨Nat.le_of_ble_eq_true rfl, Nat.le_of_ble_eq_true rfl⟩ [3, 4, 5] [0, 1, 2] rfl rfl (by decide) (by decide) (by decide) rfl dX0_takeOne_11 (fun r11 w1 H locs hw hP hD hS => ?_)
  obtain ⟨rfl, rfl⟩ := hw
  have hP : va_P Z.1 vwCl [(vb, .inr (0, [.ref vq, .int (nI t)])), (vq, .inr (2, [.ref aq, .int (nI hd), .int (nI sz)])), (aq, xI Z 662 g), (hp, .inr (4, [.ref s0, .ref s1])), (s0, xI Z 121 sz1), (s1, xI Z 484 lt1)] H := hP
  have hD : va_D A [(vb, .inr (0, [.ref vq, .int (nI t)])), (vq, .inr (2, [.ref aq, .int (nI hd), .int (nI sz)])), (aq, xI Z 662 g), (hp, .inr (4, [.ref s0, .ref s1])), (s0, xI Z 121 sz1), (s1, xI Z 484 lt1)] := hD
  refine ln_bipush 121 hx hb dX0_takeOne_14 (by decide) ?_
  refine ln_imul (((tapp ((xprod R)) t).length) * 121) hx hb dX0_takeOne_16 (by first | rfl | omega) ?_
  refine ln_iadd (((bmany (L, t)) - 1) + (((tapp ((xprod R)) t).length) * 121)) hx hb dX0_takeOne_17 (by first | rfl | omega) ?_
  refine lv_ldc (v := nI 80000) hx hb hown qq_603 dX0_takeOne_18 ?_
  refine ln_icmp_le (tgt := 25) hx hb dX0_takeOne_20 (by decide) (by omega) (by omega) (fun h20 => ?_) (fun h20 => ?_)
  · refine lv_aload_n hx hb dX0_takeOne_25 rfl (lv_at hl 1 rfl) ?_
    refine lv_aload_n hx hb dX0_takeOne_26 rfl (lv_at hl 0 rfl) ?_
    refine va_get (D := Z.1) (ci := 0) (v := .ref vq) (C := RX0) (T := TX0) (N := 2) hx hb hts iX0 hown hK hP 0 rfl rfl 0 (Nat.le_of_ble_eq_true rfl) qq_308 (fun _ h9 => h9) rfl dX0_takeOne_27 ?_
    refine lv_aload_n hx hb dX0_takeOne_30 rfl (lv_at hl 0 rfl) ?_
    refine va_get (D := Z.1) (ci := 0) (v := .int (nI t)) (C := RX0) (T := TX0) (N := 2) hx hb hts iX0 hown hK hP 0 rfl rfl 1 (Nat.le_of_ble_eq_true rfl) qq_310 (fun _ h9 => h9) rfl dX0_takeOne_31 ?_
    refine x_Vv (y := yX4_appendTo) (As := [.ref vq, .int (nI t)]) (wc := [(hp, .inr (4, [.ref s0, .ref s1])), (s0, xI Z 121 sz1), (s1, xI Z 484 lt1), (vq, .inr (2, [.ref aq, .int (nI hd), .int (nI sz)])), (aq, xI Z 662 g)]) (wr := [(vb, .inr (0, [.ref vq, .int (nI t)]))]) hC hP hD hS (c_X4_appendTo l Z hp s0 s1 sz1 lt1 (xprod R) hT vq aq 662 hd sz g L (by decide) hR hsz t (by omega) (by omega)) (gV wq_552 wq_635 wq_550 wq_551 wq_35) rfl kv_X4_appendTo rfl rfl ⟨rfl, rfl⟩ rfl hl.1 rfl ⟨Nat.le_of_ble_eq_true rfl, Nat.le_of_ble_eq_true rfl⟩ [3, 4, 5, 1, 2] [0] rfl rfl (by decide) (by decide) (by decide) rfl dX0_takeOne_34 (fun w1 H locs hw hP hD hS => ?_)
    obtain ⟨g2, hg2, rfl⟩ := hw
    have hP := hP.sub (ws' := [(vb, .inr (0, [.ref vq, .int (nI t)])), (vq, .inr (2, [.ref aq, .int (nI hd), .int (nI (sz + (tapp (xprod R) t).length))])), (aq, xI Z 662 g2), (hp, .inr (4, [.ref s0, .ref s1])), (s0, xI Z 121 sz1), (s1, xI Z 484 lt1)]) [0, 4, 5, 1, 2, 3] rfl
    have hD := hD.sub (ws' := [(vb, .inr (0, [.ref vq, .int (nI t)])), (vq, .inr (2, [.ref aq, .int (nI hd), .int (nI (sz + (tapp (xprod R) t).length))])), (aq, xI Z 662 g2), (hp, .inr (4, [.ref s0, .ref s1])), (s0, xI Z 121 sz1), (s1, xI Z 484 lt1)]) [0, 4, 5, 1, 2, 3] (by decide) rfl
    refine lv_aload_n hx hb dX0_takeOne_37 rfl (lv_at hl 0 rfl) ?_
    refine ln_const 1 hx hb dX0_takeOne_38 (by decide) ?_
    refine x_Vv (y := yX0_pass) (As := [.int (nI 1)]) (wc := [(vb, .inr (0, [.ref vq, .int (nI t)])), (vq, .inr (2, [.ref aq, .int (nI hd), .int (nI (sz + (tapp (xprod R) t).length))])), (aq, xI Z 662 g2)]) (wr := [(hp, .inr (4, [.ref s0, .ref s1])), (s0, xI Z 121 sz1), (s1, xI Z 484 lt1)]) hC hP hD hS (c_X0_pass l Z vb vq aq hd (sz + (tapp (xprod R) t).length) t g2 (L ++ tapp (xprod R) t) hg2 (by rw [List.length_append]; omega) 1 (by omega) (by rw [List.length_append]; omega)) (gV wq_639 wq_636 wq_638 wq_14 wq_44) rfl kv_X0_pass rfl rfl ⟨rfl, rfl⟩ rfl hl.1 rfl ⟨Nat.le_of_ble_eq_true rfl, Nat.le_of_ble_eq_true rfl⟩ [0, 1, 2] [3, 4, 5] rfl rfl (by decide) (by decide) (by decide) rfl dX0_takeOne_39 (fun w1 H locs hw hP hD hS => ?_)
    obtain ⟨hd2, hR2p, rfl⟩ := hw
    have hP := hP.sub (ws' := [(vb, .inr (0, [.ref vq, .int (nI ((bpk 1 (L ++ tapp (xprod R) t, t)).2))])), (vq, .inr (2, [.ref aq, .int (nI hd2), .int (nI ((bpk 1 (L ++ tapp (xprod R) t, t)).1.length))])), (aq, xI Z 662 g2), (hp, .inr (4, [.ref s0, .ref s1])), (s0, xI Z 121 sz1), (s1, xI Z 484 lt1)]) [3, 4, 5, 0, 1, 2] rfl
    have hD := hD.sub (ws' := [(vb, .inr (0, [.ref vq, .int (nI ((bpk 1 (L ++ tapp (xprod R) t, t)).2))])), (vq, .inr (2, [.ref aq, .int (nI hd2), .int (nI ((bpk 1 (L ++ tapp (xprod R) t, t)).1.length))])), (aq, xI Z 662 g2), (hp, .inr (4, [.ref s0, .ref s1])), (s0, xI Z 121 sz1), (s1, xI Z 484 lt1)]) [3, 4, 5, 0, 1, 2] (by decide) rfl
    refine ln_const 1 hx hb dX0_takeOne_42 (by decide) ?_
    exact x_iret hC hr hk hP hD hS dX0_takeOne_43 (Or.inr ⟨bpk 1 (L ++ tapp (xprod R) t, t), hd2, g2, by unfold bstep; dsimp only; rw [if_neg (show ¬ (t = 0 ∧ (L.length < 2 ∨ (xprod R (L.getD 0 0)).length = 0)) from hs), if_pos h0, if_neg (by rw [← hta]; omega), bpk_1 b1, hta], hR2p, rfl, rfl⟩)
  · refine ln_const 0 hx hb dX0_takeOne_23 (by decide) ?_
    exact x_iret hC hr hk hP hD hS dX0_takeOne_24 (Or.inl ⟨by unfold bstep; dsimp only; rw [if_neg (show ¬ (t = 0 ∧ (L.length < 2 ∨ (xprod R (L.getD 0 0)).length = 0)) from hs), if_pos h0, if_pos (by rw [← hta]; omega)], rfl, rfl⟩)

theorem kv_X0_isStill : yX0_isStill.cls = RX0 ∧ yX0_isStill.cls ≠ "java/lang/invoke/MethodHandle" ∧ yX0_isStill.cls ≠ "java/lang/invoke/VarHandle" ∧ (parseMethodDescriptor yX0_isStill.desc).map (fun d => d.parameters.length) = some 1 := by decide +kernel
theorem kv_X0_takeOne : yX0_takeOne.cls = RX0 ∧ yX0_takeOne.cls ≠ "java/lang/invoke/MethodHandle" ∧ yX0_takeOne.cls ≠ "java/lang/invoke/VarHandle" ∧ (parseMethodDescriptor yX0_takeOne.desc).map (fun d => d.parameters.length) = some 1 := by decide +kernel
set_option maxHeartbeats 4000000 in
set_option maxRecDepth 100000 in
theorem c_X0_take (l : Launch) (Z : xZ) (vb vq aq hd sz t : Nat) (g : Nat → Nat) (L : List Nat) (hR : RR 662 hd g L) (hsz : sz = L.length) (hB : BV (L, t)) (hp s0 s1 : Nat) (sz1 lt1 : Nat → Nat) (R : xRl) (hV : RV R) (hT : TR (xprod R) sz1 lt1) (m1 : Nat) (hm : 1 ≤ m1 ∧ m1 ≤ 30000) : xMi l Z yX0_take vX0_take ({ frames := 4, cells := 0, slots := 0, locals := 89 } : Room) [.ref vb, .int (nI m1), .ref hp] [(vb, .inr (0, [.ref vq, .int (nI t)])), (vq, .inr (2, [.ref aq, .int (nI hd), .int (nI sz)])), (aq, xI Z 662 g), (hp, .inr (4, [.ref s0, .ref s1])), (s0, xI Z 121 sz1), (s1, xI Z 484 lt1)] (fun r w => (bstep R (L, t) = none ∧ r = nI 0 ∧ w = [(vb, .inr (0, [.ref vq, .int (nI t)])), (vq, .inr (2, [.ref aq, .int (nI hd), .int (nI sz)])), (aq, xI Z 662 g), (hp, .inr (4, [.ref s0, .ref s1])), (s0, xI Z 121 sz1), (s1, xI Z 484 lt1)]) ∨ (∃ k P hd2 g2, 1 ≤ k ∧ k ≤ m1 ∧ xit (bstep R) k (L, t) = some P ∧ RR 662 hd2 g2 P.1 ∧ r = nI k ∧ w = [(vb, .inr (0, [.ref vq, .int (nI P.2)])), (vq, .inr (2, [.ref aq, .int (nI hd2), .int (nI P.1.length)])), (aq, xI Z 662 g2), (hp, .inr (4, [.ref s0, .ref s1])), (s0, xI Z 121 sz1), (s1, xI Z 484 lt1)])) := by
  refine x_i (by decide) rfl (Nat.le_of_ble_eq_true rfl) ?_
  intro p e s m args below meth c ls A hC hr hk hl hP hD hS
  have hx := hC.1.1
  have hb := hC.1.2.1
  have hml := hC.1.2.2.1
  have hown : s.vm.findClass RX0 = some m.cls := hC.1.2.2.2.1
  have hts := hC.1.2.2.2.2
  have hK := hC.2.1
  have qq_308 := hts (Cond.fieldLink RX0 14 "TagTower$Bits" "row" "LTagTower$LetterRow;") (List.mem_cons_of_mem _ wq_308)
  have iX0 : ∀ w ∈ wsX00, w ∈ vX0_take := fun w h => List.mem_cons_of_mem _ (wi_X0 w h)
  have qq_641 := hts (Cond.methodLink RX0 67 Lib.Math.min.name) (List.mem_cons_of_mem _ wq_641)
  have qq_205 := hts (Cond.static Lib.Math.min.name) (List.mem_cons_of_mem _ wq_205)
  have qq_40 := hts (Cond.initialized "java/lang/Math") (List.mem_cons_of_mem _ wq_40)
  have qq_206 := hts (Cond.code Lib.Math.min.name Lib.Math.min.code 2 (some .int)) (List.mem_cons_of_mem _ wq_206)
  have hl : lv_has ls 7 [(0, .ref vb), (1, .int (nI m1)), (2, .ref hp)] := hl
  have hP : va_P Z.1 vwCl [(vb, .inr (0, [.ref vq, .int (nI t)])), (vq, .inr (2, [.ref aq, .int (nI hd), .int (nI sz)])), (aq, xI Z 662 g), (hp, .inr (4, [.ref s0, .ref s1])), (s0, xI Z 121 sz1), (s1, xI Z 484 lt1)] s.heap := hP
  have hD : va_D A [(vb, .inr (0, [.ref vq, .int (nI t)])), (vq, .inr (2, [.ref aq, .int (nI hd), .int (nI sz)])), (aq, xI Z 662 g), (hp, .inr (4, [.ref s0, .ref s1])), (s0, xI Z 121 sz1), (s1, xI Z 484 lt1)] := hD
  have hR1 := hR.1
  have hR2 := hR.2.1
  obtain ⟨b1, b2, b3, b4, b5⟩ := id hB
  unfold bmany at b3
  dsimp only at b1 b2 b3 b4 b5
  have hmd := Nat.mod_lt t (show 0 < 121 by decide)
  refine lv_aload_n hx hb dX0_take_0 rfl (lv_at hl 0 rfl) ?_
  refine lv_aload_n hx hb dX0_take_1 rfl (lv_at hl 2 rfl) ?_
  refine x_Vi (y := yX0_isStill) (As := [.ref hp]) (wc := [(vb, .inr (0, [.ref vq, .int (nI t)])), (vq, .inr (2, [.ref aq, .int (nI hd), .int (nI sz)])), (aq, xI Z 662 g), (hp, .inr (4, [.ref s0, .ref s1])), (s0, xI Z 121 sz1), (s1, xI Z 484 lt1)]) (wr := []) hC hP hD hS (c_X0_isStill l Z vb vq aq hd sz t g L hR hsz hB hp s0 s1 sz1 lt1 R hV hT) (gV wq_620 wq_617 wq_618 wq_619 wq_44) rfl kv_X0_isStill rfl rfl ⟨rfl, rfl⟩ rfl hl.1 rfl ⟨Nat.le_of_ble_eq_true rfl, Nat.le_of_ble_eq_true rfl⟩ [0, 1, 2, 3, 4, 5] ([] : List Nat) rfl rfl (by decide) (by decide) (by decide) rfl dX0_take_2 (fun r2 w1 H locs hw hP hD hS => ?_)
  rcases hw with ⟨hst, rfl, rfl⟩ | ⟨hst, rfl, rfl⟩
  · have hP : va_P Z.1 vwCl [(vb, .inr (0, [.ref vq, .int (nI t)])), (vq, .inr (2, [.ref aq, .int (nI hd), .int (nI sz)])), (aq, xI Z 662 g), (hp, .inr (4, [.ref s0, .ref s1])), (s0, xI Z 121 sz1), (s1, xI Z 484 lt1)] H := hP
    have hD : va_D A [(vb, .inr (0, [.ref vq, .int (nI t)])), (vq, .inr (2, [.ref aq, .int (nI hd), .int (nI sz)])), (aq, xI Z 662 g), (hp, .inr (4, [.ref s0, .ref s1])), (s0, xI Z 121 sz1), (s1, xI Z 484 lt1)] := hD
    refine ln_if_eq (tgt := 10) hx hb dX0_take_5 (by decide) (by omega) (fun h5 => False.elim (by omega)) (fun h5 => ?_)
    refine ln_const 0 hx hb dX0_take_8 (by decide) ?_
    exact x_iret hC hr hk hP hD hS dX0_take_9 (Or.inl ⟨by unfold bstep; dsimp only; rw [if_pos (show t = 0 ∧ (L.length < 2 ∨ (xprod R (L.getD 0 0)).length = 0) from hst)], rfl, rfl⟩)
  · have hP : va_P Z.1 vwCl [(vb, .inr (0, [.ref vq, .int (nI t)])), (vq, .inr (2, [.ref aq, .int (nI hd), .int (nI sz)])), (aq, xI Z 662 g), (hp, .inr (4, [.ref s0, .ref s1])), (s0, xI Z 121 sz1), (s1, xI Z 484 lt1)] H := hP
    have hD : va_D A [(vb, .inr (0, [.ref vq, .int (nI t)])), (vq, .inr (2, [.ref aq, .int (nI hd), .int (nI sz)])), (aq, xI Z 662 g), (hp, .inr (4, [.ref s0, .ref s1])), (s0, xI Z 121 sz1), (s1, xI Z 484 lt1)] := hD
    refine ln_if_eq (tgt := 10) hx hb dX0_take_5 (by decide) (by omega) (fun h5 => ?_) (fun h5 => False.elim (by omega))
    refine lv_aload_n hx hb dX0_take_10 rfl (lv_at hl 0 rfl) ?_
    refine x_Vi (y := yX0_gone) (As := []) (wc := [(vb, .inr (0, [.ref vq, .int (nI t)]))]) (wr := [(vq, .inr (2, [.ref aq, .int (nI hd), .int (nI sz)])), (aq, xI Z 662 g), (hp, .inr (4, [.ref s0, .ref s1])), (s0, xI Z 121 sz1), (s1, xI Z 484 lt1)]) hC hP hD hS (c_X0_gone l Z vb vq t (by omega)) (gV wq_626 wq_623 wq_625 wq_12 wq_44) rfl kv_X0_gone rfl rfl ⟨rfl, rfl⟩ rfl hl.1 rfl ⟨Nat.le_of_ble_eq_true rfl, Nat.le_of_ble_eq_true rfl⟩ [0] [1, 2, 3, 4, 5] rfl rfl (by decide) (by decide) (by decide) rfl dX0_take_11 (fun r11 w1 H locs hw hP hD hS => ?_)
    obtain ⟨rfl, rfl⟩ := hw
    have hP := hP.sub (ws' := [(vb, .inr (0, [.ref vq, .int (nI t)])), (vq, .inr (2, [.ref aq, .int (nI hd), .int (nI sz)])), (aq, xI Z 662 g), (hp, .inr (4, [.ref s0, .ref s1])), (s0, xI Z 121 sz1), (s1, xI Z 484 lt1)]) [5, 0, 1, 2, 3, 4] rfl
    have hD := hD.sub (ws' := [(vb, .inr (0, [.ref vq, .int (nI t)])), (vq, .inr (2, [.ref aq, .int (nI hd), .int (nI sz)])), (aq, xI Z 662 g), (hp, .inr (4, [.ref s0, .ref s1])), (s0, xI Z 121 sz1), (s1, xI Z 484 lt1)]) [5, 0, 1, 2, 3, 4] (by decide) rfl
    refine lv_istore_n (lv' := [(3, .int (nI (t % 121))), (0, .ref vb), (1, .int (nI m1)), (2, .ref hp)]) hx hb dX0_take_14 rfl hl (by decide) rfl (fun ls hl => ?_)
    refine lv_aload_n hx hb dX0_take_15 rfl (lv_at hl 1 rfl) ?_
    refine va_get (D := Z.1) (ci := 0) (v := .ref vq) (C := RX0) (T := TX0) (N := 2) hx hb hts iX0 hown hK hP 0 rfl rfl 0 (Nat.le_of_ble_eq_true rfl) qq_308 (fun _ h9 => h9) rfl dX0_take_16 ?_
    refine ln_const 0 hx hb dX0_take_19 (by decide) ?_
    obtain ⟨b6, b7⟩ := hB.one hst
    refine x_Vi (y := yX2_get) (As := [.int (nI 0)]) (wc := [(vq, .inr (2, [.ref aq, .int (nI hd), .int (nI sz)])), (aq, xI Z 662 g)]) (wr := [(vb, .inr (0, [.ref vq, .int (nI t)])), (hp, .inr (4, [.ref s0, .ref s1])), (s0, xI Z 121 sz1), (s1, xI Z 484 lt1)]) hC hP hD hS (c_X2_get_in l Z vq aq 662 hd sz g L (by omega) hR hsz 0 (by omega)) (gV wq_524 wq_621 wq_522 wq_523 wq_43) rfl kv_X2_get rfl rfl ⟨rfl, rfl⟩ rfl hl.1 rfl ⟨Nat.le_of_ble_eq_true rfl, Nat.le_of_ble_eq_true rfl⟩ [1, 2] [0, 3, 4, 5] rfl rfl (by decide) (by decide) (by decide) rfl dX0_take_20 (fun r20 w1 H locs hw hP hD hS => ?_)
    obtain ⟨rfl, rfl⟩ := hw
    have hP := hP.sub (ws' := [(vb, .inr (0, [.ref vq, .int (nI t)])), (vq, .inr (2, [.ref aq, .int (nI hd), .int (nI sz)])), (aq, xI Z 662 g), (hp, .inr (4, [.ref s0, .ref s1])), (s0, xI Z 121 sz1), (s1, xI Z 484 lt1)]) [0, 4, 5, 1, 2, 3] rfl
    have hD := hD.sub (ws' := [(vb, .inr (0, [.ref vq, .int (nI t)])), (vq, .inr (2, [.ref aq, .int (nI hd), .int (nI sz)])), (aq, xI Z 662 g), (hp, .inr (4, [.ref s0, .ref s1])), (s0, xI Z 121 sz1), (s1, xI Z 484 lt1)]) [0, 4, 5, 1, 2, 3] (by decide) rfl
    have hz := b2 _ (getD_mem (w := L) (i := 0) (by omega))
    refine lv_istore (lv' := [(4, .int (nI (L.getD 0 0))), (3, .int (nI (t % 121))), (0, .ref vb), (1, .int (nI m1)), (2, .ref hp)]) hx hb dX0_take_23 hl (by decide) rfl (fun ls hl => ?_)
    refine lv_iload_n hx hb dX0_take_25 rfl (lv_at hl 1 rfl) ?_
    refine lv_iload hx hb dX0_take_26 (lv_at hl 0 rfl) ?_
    refine ln_icmp_ne (tgt := 37) hx hb dX0_take_28 (by decide) (by omega) (by omega) (fun h28 => ?_) (fun h28 => ?_)
    · refine lv_iload_n hx hb dX0_take_37 rfl (lv_at hl 1 rfl) ?_
      refine lv_iload hx hb dX0_take_38 (lv_at hl 0 rfl) ?_
      refine ln_icmp_ge (tgt := 50) hx hb dX0_take_40 (by decide) (by omega) (by omega) (fun h40 => ?_) (fun h40 => ?_)
      · refine ln_bipush 121 hx hb dX0_take_50 (by decide) ?_
        refine lv_iload_n hx hb dX0_take_52 rfl (lv_at hl 1 rfl) ?_
        refine ln_isub (121 - (t % 121)) hx hb dX0_take_53 (by omega) (by first | rfl | omega) ?_
        refine lv_istore (lv' := [(5, .int (nI (121 - (t % 121)))), (4, .int (nI (L.getD 0 0))), (3, .int (nI (t % 121))), (0, .ref vb), (1, .int (nI m1)), (2, .ref hp)]) hx hb dX0_take_54 hl (by decide) rfl (fun ls hl => ?_)
        refine lv_iload hx hb dX0_take_56 (lv_at hl 0 rfl) ?_
        refine lv_iload_n hx hb dX0_take_58 rfl (lv_at hl 4 rfl) ?_
        obtain ⟨kk, hkk⟩ : ∃ z, z + 1 = min (121 - (t % 121)) m1 := ⟨min (121 - (t % 121)) m1 - 1, by omega⟩
        refine va_mmin hx hb (by rw [hml]; exact hl.1.symm) hown qq_641 qq_205 qq_40 qq_206 (Nat.le_of_ble_eq_true rfl) (Nat.le_of_ble_eq_true rfl) (Nat.le_of_ble_eq_true rfl) (Nat.le_of_ble_eq_true rfl) dX0_take_59 ?_
        refine ln_top (y := nI (kk + 1)) (by rw [nI_min (by omega) (by omega), hkk]) ?_
        refine lv_istore (lv' := [(6, .int (nI (kk + 1))), (5, .int (nI (121 - (t % 121)))), (4, .int (nI (L.getD 0 0))), (3, .int (nI (t % 121))), (0, .ref vb), (1, .int (nI m1)), (2, .ref hp)]) hx hb dX0_take_62 hl (by decide) rfl (fun ls hl => ?_)
        refine lv_aload_n hx hb dX0_take_64 rfl (lv_at hl 4 rfl) ?_
        refine lv_iload hx hb dX0_take_65 (lv_at hl 0 rfl) ?_
        refine x_Vv (y := yX0_pass) (As := [.int (nI (kk + 1))]) (wc := [(vb, .inr (0, [.ref vq, .int (nI t)])), (vq, .inr (2, [.ref aq, .int (nI hd), .int (nI sz)])), (aq, xI Z 662 g)]) (wr := [(hp, .inr (4, [.ref s0, .ref s1])), (s0, xI Z 121 sz1), (s1, xI Z 484 lt1)]) hC hP hD hS (c_X0_pass l Z vb vq aq hd sz t g (L) hR (hsz) (kk + 1) (by omega) (b6)) (gV wq_639 wq_636 wq_638 wq_14 wq_44) rfl kv_X0_pass rfl rfl ⟨rfl, rfl⟩ rfl hl.1 rfl ⟨Nat.le_of_ble_eq_true rfl, Nat.le_of_ble_eq_true rfl⟩ [0, 1, 2] [3, 4, 5] rfl rfl (by decide) (by decide) (by decide) rfl dX0_take_67 (fun w1 H locs hw hP hD hS => ?_)
        obtain ⟨hd2, hR2p, rfl⟩ := hw
        have hP := hP.sub (ws' := [(vb, .inr (0, [.ref vq, .int (nI ((bpk (kk + 1) (L, t)).2))])), (vq, .inr (2, [.ref aq, .int (nI hd2), .int (nI ((bpk (kk + 1) (L, t)).1.length))])), (aq, xI Z 662 g), (hp, .inr (4, [.ref s0, .ref s1])), (s0, xI Z 121 sz1), (s1, xI Z 484 lt1)]) [3, 4, 5, 0, 1, 2] rfl
        have hD := hD.sub (ws' := [(vb, .inr (0, [.ref vq, .int (nI ((bpk (kk + 1) (L, t)).2))])), (vq, .inr (2, [.ref aq, .int (nI hd2), .int (nI ((bpk (kk + 1) (L, t)).1.length))])), (aq, xI Z 662 g), (hp, .inr (4, [.ref s0, .ref s1])), (s0, xI Z 121 sz1), (s1, xI Z 484 lt1)]) [3, 4, 5, 0, 1, 2] (by decide) rfl
        refine lv_iload hx hb dX0_take_70 (lv_at hl 0 rfl) ?_
        exact x_iret hC hr hk hP hD hS dX0_take_72 (Or.inr ⟨kk + 1, bpk (kk + 1) (L, t), hd2, g, by omega, by omega, bzeros R L kk t b1 hst (fun j hj => by omega) (by omega), hR2p, rfl, rfl⟩)
      · refine lv_iload hx hb dX0_take_43 (lv_at hl 0 rfl) ?_
        refine lv_iload_n hx hb dX0_take_45 rfl (lv_at hl 1 rfl) ?_
        refine ln_isub ((L.getD 0 0) - (t % 121)) hx hb dX0_take_46 (by omega) (by first | rfl | omega) ?_
        refine lv_goto (tgt := 54) hx hb dX0_take_47 (by decide) ?_
        refine lv_istore (lv' := [(5, .int (nI ((L.getD 0 0) - (t % 121)))), (4, .int (nI (L.getD 0 0))), (3, .int (nI (t % 121))), (0, .ref vb), (1, .int (nI m1)), (2, .ref hp)]) hx hb dX0_take_54 hl (by decide) rfl (fun ls hl => ?_)
        refine lv_iload hx hb dX0_take_56 (lv_at hl 0 rfl) ?_
        refine lv_iload_n hx hb dX0_take_58 rfl (lv_at hl 4 rfl) ?_
        obtain ⟨kk, hkk⟩ : ∃ z, z + 1 = min ((L.getD 0 0) - (t % 121)) m1 := ⟨min ((L.getD 0 0) - (t % 121)) m1 - 1, by omega⟩
        refine va_mmin hx hb (by rw [hml]; exact hl.1.symm) hown qq_641 qq_205 qq_40 qq_206 (Nat.le_of_ble_eq_true rfl) (Nat.le_of_ble_eq_true rfl) (Nat.le_of_ble_eq_true rfl) (Nat.le_of_ble_eq_true rfl) dX0_take_59 ?_
        refine ln_top (y := nI (kk + 1)) (by rw [nI_min (by omega) (by omega), hkk]) ?_
        refine lv_istore (lv' := [(6, .int (nI (kk + 1))), (5, .int (nI ((L.getD 0 0) - (t % 121)))), (4, .int (nI (L.getD 0 0))), (3, .int (nI (t % 121))), (0, .ref vb), (1, .int (nI m1)), (2, .ref hp)]) hx hb dX0_take_62 hl (by decide) rfl (fun ls hl => ?_)
        refine lv_aload_n hx hb dX0_take_64 rfl (lv_at hl 4 rfl) ?_
        refine lv_iload hx hb dX0_take_65 (lv_at hl 0 rfl) ?_
        refine x_Vv (y := yX0_pass) (As := [.int (nI (kk + 1))]) (wc := [(vb, .inr (0, [.ref vq, .int (nI t)])), (vq, .inr (2, [.ref aq, .int (nI hd), .int (nI sz)])), (aq, xI Z 662 g)]) (wr := [(hp, .inr (4, [.ref s0, .ref s1])), (s0, xI Z 121 sz1), (s1, xI Z 484 lt1)]) hC hP hD hS (c_X0_pass l Z vb vq aq hd sz t g (L) hR (hsz) (kk + 1) (by omega) (b6)) (gV wq_639 wq_636 wq_638 wq_14 wq_44) rfl kv_X0_pass rfl rfl ⟨rfl, rfl⟩ rfl hl.1 rfl ⟨Nat.le_of_ble_eq_true rfl, Nat.le_of_ble_eq_true rfl⟩ [0, 1, 2] [3, 4, 5] rfl rfl (by decide) (by decide) (by decide) rfl dX0_take_67 (fun w1 H locs hw hP hD hS => ?_)
        obtain ⟨hd2, hR2p, rfl⟩ := hw
        have hP := hP.sub (ws' := [(vb, .inr (0, [.ref vq, .int (nI ((bpk (kk + 1) (L, t)).2))])), (vq, .inr (2, [.ref aq, .int (nI hd2), .int (nI ((bpk (kk + 1) (L, t)).1.length))])), (aq, xI Z 662 g), (hp, .inr (4, [.ref s0, .ref s1])), (s0, xI Z 121 sz1), (s1, xI Z 484 lt1)]) [3, 4, 5, 0, 1, 2] rfl
        have hD := hD.sub (ws' := [(vb, .inr (0, [.ref vq, .int (nI ((bpk (kk + 1) (L, t)).2))])), (vq, .inr (2, [.ref aq, .int (nI hd2), .int (nI ((bpk (kk + 1) (L, t)).1.length))])), (aq, xI Z 662 g), (hp, .inr (4, [.ref s0, .ref s1])), (s0, xI Z 121 sz1), (s1, xI Z 484 lt1)]) [3, 4, 5, 0, 1, 2] (by decide) rfl
        refine lv_iload hx hb dX0_take_70 (lv_at hl 0 rfl) ?_
        exact x_iret hC hr hk hP hD hS dX0_take_72 (Or.inr ⟨kk + 1, bpk (kk + 1) (L, t), hd2, g, by omega, by omega, bzeros R L kk t b1 hst (fun j hj => by omega) (by omega), hR2p, rfl, rfl⟩)
    · refine lv_aload_n hx hb dX0_take_31 rfl (lv_at hl 2 rfl) ?_
      refine lv_aload_n hx hb dX0_take_32 rfl (lv_at hl 4 rfl) ?_
      refine x_Vi (y := yX0_takeOne) (As := [.ref hp]) (wc := [(vb, .inr (0, [.ref vq, .int (nI t)])), (vq, .inr (2, [.ref aq, .int (nI hd), .int (nI sz)])), (aq, xI Z 662 g), (hp, .inr (4, [.ref s0, .ref s1])), (s0, xI Z 121 sz1), (s1, xI Z 484 lt1)]) (wr := []) hC hP hD hS (c_X0_takeOne l Z vb vq aq hd sz t g L hR hsz hB hp s0 s1 sz1 lt1 R hV hT hst h28.symm) (gV wq_630 wq_627 wq_629 wq_13 wq_44) rfl kv_X0_takeOne rfl rfl ⟨rfl, rfl⟩ rfl hl.1 rfl ⟨Nat.le_of_ble_eq_true rfl, Nat.le_of_ble_eq_true rfl⟩ [0, 1, 2, 3, 4, 5] ([] : List Nat) rfl rfl (by decide) (by decide) (by decide) rfl dX0_take_33 (fun r33 w1 H locs hw hP hD hS => ?_)
      rcases hw with ⟨hno, rfl, rfl⟩ | ⟨P, hd2, g2, hsome, hR2p, rfl, rfl⟩
      · have hP : va_P Z.1 vwCl [(vb, .inr (0, [.ref vq, .int (nI t)])), (vq, .inr (2, [.ref aq, .int (nI hd), .int (nI sz)])), (aq, xI Z 662 g), (hp, .inr (4, [.ref s0, .ref s1])), (s0, xI Z 121 sz1), (s1, xI Z 484 lt1)] H := hP
        have hD : va_D A [(vb, .inr (0, [.ref vq, .int (nI t)])), (vq, .inr (2, [.ref aq, .int (nI hd), .int (nI sz)])), (aq, xI Z 662 g), (hp, .inr (4, [.ref s0, .ref s1])), (s0, xI Z 121 sz1), (s1, xI Z 484 lt1)] := hD
        exact x_iret hC hr hk hP hD hS dX0_take_36 (Or.inl ⟨hno, rfl, rfl⟩)
      · have hP : va_P Z.1 vwCl [(vb, .inr (0, [.ref vq, .int (nI P.2)])), (vq, .inr (2, [.ref aq, .int (nI hd2), .int (nI P.1.length)])), (aq, xI Z 662 g2), (hp, .inr (4, [.ref s0, .ref s1])), (s0, xI Z 121 sz1), (s1, xI Z 484 lt1)] H := hP
        have hD : va_D A [(vb, .inr (0, [.ref vq, .int (nI P.2)])), (vq, .inr (2, [.ref aq, .int (nI hd2), .int (nI P.1.length)])), (aq, xI Z 662 g2), (hp, .inr (4, [.ref s0, .ref s1])), (s0, xI Z 121 sz1), (s1, xI Z 484 lt1)] := hD
        exact x_iret hC hr hk hP hD hS dX0_take_36 (Or.inr ⟨1, P, hd2, g2, Nat.le_refl 1, hm.1, by simp only [xit, hsome], hR2p, rfl, rfl⟩)

theorem xit_ok {R : xRl} (hV : RV R) : ∀ k {s s' : List Nat × Nat}, BV s → xit (bstep R) k s = some s' → BV s'
  | 0, s, s', h, e => by simp only [xit, Option.some.injEq] at e; rw [← e]; exact h
  | k + 1, s, s', h, e => by
    simp only [xit] at e
    cases e1 : bstep R s with
    | none => rw [e1] at e; cases e
    | some s1 =>
      rw [e1] at e
      exact xit_ok hV k (bstep_ok hV h e1) e

theorem kv_X0_take : yX0_take.cls = RX0 ∧ yX0_take.cls ≠ "java/lang/invoke/MethodHandle" ∧ yX0_take.cls ≠ "java/lang/invoke/VarHandle" ∧ (parseMethodDescriptor yX0_take.desc).map (fun d => d.parameters.length) = some 2 := by decide +kernel
set_option maxHeartbeats 4000000 in
set_option maxRecDepth 100000 in
theorem c_X0_doSteps (l : Launch) (Z : xZ) (vb vq aq hd sz t : Nat) (g : Nat → Nat) (L : List Nat) (hR : RR 662 hd g L) (hsz : sz = L.length) (hB : BV (L, t)) (hp s0 s1 : Nat) (sz1 lt1 : Nat → Nat) (R : xRl) (hV : RV R) (hT : TR (xprod R) sz1 lt1) (n : Nat) (hn : n ≤ 30000) : xMi l Z yX0_doSteps vX0_doSteps ({ frames := 5, cells := 0, slots := 0, locals := 115 } : Room) [.ref vb, .int (nI n), .ref hp] [(vb, .inr (0, [.ref vq, .int (nI t)])), (vq, .inr (2, [.ref aq, .int (nI hd), .int (nI sz)])), (aq, xI Z 662 g), (hp, .inr (4, [.ref s0, .ref s1])), (s0, xI Z 121 sz1), (s1, xI Z 484 lt1)] (fun r w => ∃ k P hd2 g2, xrun (bstep R) n (L, t) = (k, P) ∧ RR 662 hd2 g2 P.1 ∧ BV P ∧ r = nI k ∧ w = [(vb, .inr (0, [.ref vq, .int (nI P.2)])), (vq, .inr (2, [.ref aq, .int (nI hd2), .int (nI P.1.length)])), (aq, xI Z 662 g2), (hp, .inr (4, [.ref s0, .ref s1])), (s0, xI Z 121 sz1), (s1, xI Z 484 lt1)]) := by
  refine x_i (by decide) rfl (Nat.le_of_ble_eq_true rfl) ?_
  intro p e s m args below meth c ls A hC hr hk hl hP hD hS
  have hx := hC.1.1
  have hb := hC.1.2.1
  have hml := hC.1.2.2.1
  have hown : s.vm.findClass RX0 = some m.cls := hC.1.2.2.2.1
  have hts := hC.1.2.2.2.2
  have hK := hC.2.1
  have hl : lv_has ls 5 [(0, .ref vb), (1, .int (nI n)), (2, .ref hp)] := hl
  have hP : va_P Z.1 vwCl [(vb, .inr (0, [.ref vq, .int (nI t)])), (vq, .inr (2, [.ref aq, .int (nI hd), .int (nI sz)])), (aq, xI Z 662 g), (hp, .inr (4, [.ref s0, .ref s1])), (s0, xI Z 121 sz1), (s1, xI Z 484 lt1)] s.heap := hP
  have hD : va_D A [(vb, .inr (0, [.ref vq, .int (nI t)])), (vq, .inr (2, [.ref aq, .int (nI hd), .int (nI sz)])), (aq, xI Z 662 g), (hp, .inr (4, [.ref s0, .ref s1])), (s0, xI Z 121 sz1), (s1, xI Z 484 lt1)] := hD
  refine ln_const 0 hx hb dX0_doSteps_0 (by decide) ?_
  refine lv_istore_n (lv' := [(3, .int (nI 0)), (0, .ref vb), (1, .int (nI n)), (2, .ref hp)]) hx hb dX0_doSteps_1 rfl hl (by decide) rfl (fun ls hl => ?_)
  have hloop2 : ∀ (nn : Nat) (k hd1 sz2 t1 : Nat) (g1 : Nat → Nat) (L1 : List Nat) (H : Heap) (locs : List Loc) (ls : Array Slot) (hX : XR (bstep R) n (L, t) k (L1, t1)) (hR1 : RR 662 hd1 g1 L1) (hs1 : sz2 = L1.length) (hB1 : BV (L1, t1)) (hmu : n - k < nn) (hP : va_P Z.1 vwCl [(vb, .inr (0, [.ref vq, .int (nI t1)])), (vq, .inr (2, [.ref aq, .int (nI hd1), .int (nI sz2)])), (aq, xI Z 662 g1), (hp, .inr (4, [.ref s0, .ref s1])), (s0, xI Z 121 sz1), (s1, xI Z 484 lt1)] H) (hD : va_D A [(vb, .inr (0, [.ref vq, .int (nI t1)])), (vq, .inr (2, [.ref aq, .int (nI hd1), .int (nI sz2)])), (aq, xI Z 662 g1), (hp, .inr (4, [.ref s0, .ref s1])), (s0, xI Z 121 sz1), (s1, xI Z 484 lt1)]) (hS : va_S A s.heap H locs) (hl : lv_has ls 5 [(0, .ref vb), (1, .int (nI n)), (2, .ref hp), (3, .int (nI k))]), W p l e ({ frames := 5, cells := 0, slots := 0, locals := 115 } : Room) s m args below meth c H locs 0 0 (MQ below (va_Qi (fun r w => ∃ k P hd2 g2, xrun (bstep R) n (L, t) = (k, P) ∧ RR 662 hd2 g2 P.1 ∧ BV P ∧ r = nI k ∧ w = [(vb, .inr (0, [.ref vq, .int (nI P.2)])), (vq, .inr (2, [.ref aq, .int (nI hd2), .int (nI P.1.length)])), (aq, xI Z 662 g2), (hp, .inr (4, [.ref s0, .ref s1])), (s0, xI Z 121 sz1), (s1, xI Z 484 lt1)]) (xB Z A) A) args s ({ frames := 5, cells := 0, slots := 0, locals := 115 } : Room).cells ({ frames := 5, cells := 0, slots := 0, locals := 115 } : Room).slots A) (F0 m 2 ls []) := by
    intro nn
    induction nn with
    | zero => intro k hd1 sz2 t1 g1 L1 H locs ls hX hR1 hs1 hB1 hmu; exact absurd hmu (Nat.not_lt_zero _)
    | succ nn ih =>
      intro k hd1 sz2 t1 g1 L1 H locs ls hX hR1 hs1 hB1 hmu hP hD hS hl
      have hk1 := hX.1
      refine lv_iload_n hx hb dX0_doSteps_2 rfl (lv_at hl 3 rfl) ?_
      refine lv_iload_n hx hb dX0_doSteps_3 rfl (lv_at hl 1 rfl) ?_
      refine ln_icmp_ge (tgt := 32) hx hb dX0_doSteps_4 (by decide) (by omega) (by omega) (fun h4 => ?_) (fun h4 => ?_)
      · refine lv_iload_n hx hb dX0_doSteps_32 rfl (lv_at hl 3 rfl) ?_
        exact x_iret hC hr hk hP hD hS dX0_doSteps_33 ⟨k, (L1, t1), hd1, g1, hX.full (by omega), hR1, hB1, rfl, by rw [hs1]⟩
      · refine lv_aload_n hx hb dX0_doSteps_7 rfl (lv_at hl 0 rfl) ?_
        refine lv_iload_n hx hb dX0_doSteps_8 rfl (lv_at hl 1 rfl) ?_
        refine lv_iload_n hx hb dX0_doSteps_9 rfl (lv_at hl 3 rfl) ?_
        refine ln_isub (n - k) hx hb dX0_doSteps_10 (by omega) (by first | rfl | omega) ?_
        refine lv_aload_n hx hb dX0_doSteps_11 rfl (lv_at hl 2 rfl) ?_
        refine x_Vi (y := yX0_take) (As := [.int (nI (n - k)), .ref hp]) (wc := [(vb, .inr (0, [.ref vq, .int (nI t1)])), (vq, .inr (2, [.ref aq, .int (nI hd1), .int (nI sz2)])), (aq, xI Z 662 g1), (hp, .inr (4, [.ref s0, .ref s1])), (s0, xI Z 121 sz1), (s1, xI Z 484 lt1)]) (wr := []) hC hP hD hS (c_X0_take l Z vb vq aq hd1 sz2 t1 g1 L1 hR1 hs1 hB1 hp s0 s1 sz1 lt1 R hV hT (n - k) (by omega)) (gV wq_616 wq_613 wq_615 wq_11 wq_44) rfl kv_X0_take rfl rfl ⟨rfl, rfl⟩ rfl hl.1 rfl ⟨Nat.le_of_ble_eq_true rfl, Nat.le_of_ble_eq_true rfl⟩ [0, 1, 2, 3, 4, 5] ([] : List Nat) rfl rfl (by decide) (by decide) (by decide) rfl dX0_doSteps_12 (fun r12 w1 H locs hw hP hD hS => ?_)
        rcases hw with ⟨hno, rfl, rfl⟩ | ⟨k2, P, hd2, g2, hk21, hk22, hit, hR2, rfl, rfl⟩
        · have hP : va_P Z.1 vwCl [(vb, .inr (0, [.ref vq, .int (nI t1)])), (vq, .inr (2, [.ref aq, .int (nI hd1), .int (nI sz2)])), (aq, xI Z 662 g1), (hp, .inr (4, [.ref s0, .ref s1])), (s0, xI Z 121 sz1), (s1, xI Z 484 lt1)] H := hP
          have hD : va_D A [(vb, .inr (0, [.ref vq, .int (nI t1)])), (vq, .inr (2, [.ref aq, .int (nI hd1), .int (nI sz2)])), (aq, xI Z 662 g1), (hp, .inr (4, [.ref s0, .ref s1])), (s0, xI Z 121 sz1), (s1, xI Z 484 lt1)] := hD
          refine lv_istore (lv' := [(4, .int (nI 0)), (0, .ref vb), (1, .int (nI n)), (2, .ref hp), (3, .int (nI k))]) hx hb dX0_doSteps_15 hl (by decide) rfl (fun ls hl => ?_)
          refine lv_iload hx hb dX0_doSteps_17 (lv_at hl 0 rfl) ?_
          refine ln_if_gt (tgt := 24) hx hb dX0_doSteps_19 (by decide) (by omega) (fun h19 => False.elim (by omega)) (fun h19 => ?_)
          refine lv_iload_n hx hb dX0_doSteps_22 rfl (lv_at hl 4 rfl) ?_
          exact x_iret hC hr hk hP hD hS dX0_doSteps_23 ⟨k, (L1, t1), hd1, g1, hX.stop hno, hR1, hB1, rfl, by rw [hs1]⟩
        · have hP : va_P Z.1 vwCl [(vb, .inr (0, [.ref vq, .int (nI P.2)])), (vq, .inr (2, [.ref aq, .int (nI hd2), .int (nI P.1.length)])), (aq, xI Z 662 g2), (hp, .inr (4, [.ref s0, .ref s1])), (s0, xI Z 121 sz1), (s1, xI Z 484 lt1)] H := hP
          have hD : va_D A [(vb, .inr (0, [.ref vq, .int (nI P.2)])), (vq, .inr (2, [.ref aq, .int (nI hd2), .int (nI P.1.length)])), (aq, xI Z 662 g2), (hp, .inr (4, [.ref s0, .ref s1])), (s0, xI Z 121 sz1), (s1, xI Z 484 lt1)] := hD
          refine lv_istore (lv' := [(4, .int (nI k2)), (0, .ref vb), (1, .int (nI n)), (2, .ref hp), (3, .int (nI k))]) hx hb dX0_doSteps_15 hl (by decide) rfl (fun ls hl => ?_)
          refine lv_iload hx hb dX0_doSteps_17 (lv_at hl 0 rfl) ?_
          refine ln_if_gt (tgt := 24) hx hb dX0_doSteps_19 (by decide) (by omega) (fun h19 => ?_) (fun h19 => False.elim (by omega))
          refine lv_iload_n hx hb dX0_doSteps_24 rfl (lv_at hl 4 rfl) ?_
          refine lv_iload hx hb dX0_doSteps_25 (lv_at hl 0 rfl) ?_
          refine ln_iadd (k + k2) hx hb dX0_doSteps_27 (by first | rfl | omega) ?_
          refine lv_istore_n (lv' := [(3, .int (nI (k + k2))), (4, .int (nI k2)), (0, .ref vb), (1, .int (nI n)), (2, .ref hp)]) hx hb dX0_doSteps_28 rfl hl (by decide) rfl (fun ls hl => ?_)
          refine lv_goto (tgt := 2) hx hb dX0_doSteps_29 (by decide) ?_
          exact ih  (k + k2) hd2 P.1.length P.2 g2 P.1 _ _ _ (XR.steps k2 k hX (by omega) hit) hR2 rfl (xit_ok hV k2 hB1 hit) (by omega) hP hD hS (lv_sub hl [2, 3, 4, 0] rfl)
  exact hloop2 ((n - 0) + 1) 0 hd sz t g L _ _ _ (XR.beg _ _ _) hR hsz hB (Nat.lt_succ_self _) hP hD hS (lv_sub hl [1, 2, 3, 0] rfl)
