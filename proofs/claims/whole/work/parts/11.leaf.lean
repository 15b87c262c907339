theorem o_in {a q b : Nat} (h1 : a ≤ q) (h2 : q ≤ b) (hb : b < 2147483648) : (nI a).toInt ≤ (nI q).toInt ∧ (nI q).toInt ≤ (nI b).toInt := by
  rw [nI_toInt (by omega), nI_toInt (by omega), nI_toInt (by omega)]
  omega
theorem i32_lt {x y : Int32} (h : x < y) : x.toInt < y.toInt := Int32.lt_iff_toInt_lt.mp h
theorem i32_le {x y : Int32} (h : x ≤ y) : x.toInt ≤ y.toInt := Int32.le_iff_toInt_le.mp h
theorem i32_nlt {x y : Int32} (h : ¬ x < y) : y.toInt ≤ x.toInt := by
  by_cases q : x.toInt < y.toInt
  · exact absurd (Int32.lt_iff_toInt_lt.mpr q) h
  · omega
theorem i32_nle {x y : Int32} (h : ¬ x ≤ y) : y.toInt < x.toInt := by
  by_cases q : x.toInt ≤ y.toInt
  · exact absurd (Int32.le_iff_toInt_le.mpr q) h
  · omega
/-- an int between 0 and b -/
def inR (x : Int32) (b : Nat) : Prop := 0 ≤ x.toInt ∧ x.toInt ≤ (b : Int)
theorem inR_of {x : Int32} {b : Nat} (h : inR x b) (hb : b < 2147483648) : ∃ j : Nat, j ≤ b ∧ x = nI j := by
  refine ⟨x.toInt.toNat, by have := h.2; omega, ?_⟩
  apply Int32.toInt_inj.mp
  rw [nI_toInt (by have := h.2; omega)]
  have := h.1
  omega
theorem inR_nI {j b : Nat} (h : j ≤ b) (hb : b < 2147483648) : inR (nI j) b := by
  unfold inR
  rw [nI_toInt (by omega)]
  omega
theorem inR_or (x : Int32) (b : Nat) : inR x b ∨ ¬ inR x b := Classical.em _

set_option maxHeartbeats 4000000 in
set_option maxRecDepth 100000 in
theorem c_out_in (l : Launch) (Z : xZ) (v lo hi : Int32) (h : lo.toInt ≤ v.toInt ∧ v.toInt ≤ hi.toInt) : xMi l Z yX6_outside vX6_outside ({ frames := 0, cells := 0, slots := 0, locals := 0 } : Room) [.int v, .int lo, .int hi] [] (fun r w => r = nI 0 ∧ w = []) := by
  refine x_i (by decide) rfl (Nat.le_of_ble_eq_true rfl) ?_
  intro p e s m args below meth c ls A hC hr hk hl hP hD hS
  have hx := hC.1.1
  have hb := hC.1.2.1
  have hml := hC.1.2.2.1
  have hown : s.vm.findClass RX6 = some m.cls := hC.1.2.2.2.1
  have hts := hC.1.2.2.2.2
  have hK := hC.2.1
  have hl : lv_has ls 3 [(0, .int v), (1, .int lo), (2, .int hi)] := hl
  have hP : va_P Z.1 vwCl [] s.heap := hP
  have hD : va_D A [] := hD
  refine lv_iload_n hx hb dX6_outside_0 rfl (lv_at hl 0 rfl) ?_
  refine lv_iload_n hx hb dX6_outside_1 rfl (lv_at hl 1 rfl) ?_
  refine lv_icmp_lt (tgt := 10) hx hb dX6_outside_2 (by decide) (fun h2 => False.elim (by have := i32_lt h2; omega)) (fun h2 => ?_)
  refine lv_iload_n hx hb dX6_outside_5 rfl (lv_at hl 0 rfl) ?_
  refine lv_iload_n hx hb dX6_outside_6 rfl (lv_at hl 2 rfl) ?_
  refine lv_icmp_le (tgt := 14) hx hb dX6_outside_7 (by decide) (fun h7 => ?_) (fun h7 => False.elim (by have := i32_nle h7; omega))
  refine ln_const 0 hx hb dX6_outside_14 (by decide) ?_
  exact x_zret hC hr rfl hk hP hD hS dX6_outside_15 ⟨rfl, rfl⟩

set_option maxHeartbeats 4000000 in
set_option maxRecDepth 100000 in
theorem c_out_out (l : Launch) (Z : xZ) (v lo hi : Int32) (h : v.toInt < lo.toInt ∨ hi.toInt < v.toInt) : xMi l Z yX6_outside vX6_outside ({ frames := 0, cells := 0, slots := 0, locals := 0 } : Room) [.int v, .int lo, .int hi] [] (fun r w => r = nI 1 ∧ w = []) := by
  refine x_i (by decide) rfl (Nat.le_of_ble_eq_true rfl) ?_
  intro p e s m args below meth c ls A hC hr hk hl hP hD hS
  have hx := hC.1.1
  have hb := hC.1.2.1
  have hml := hC.1.2.2.1
  have hown : s.vm.findClass RX6 = some m.cls := hC.1.2.2.2.1
  have hts := hC.1.2.2.2.2
  have hK := hC.2.1
  have hl : lv_has ls 3 [(0, .int v), (1, .int lo), (2, .int hi)] := hl
  have hP : va_P Z.1 vwCl [] s.heap := hP
  have hD : va_D A [] := hD
  refine lv_iload_n hx hb dX6_outside_0 rfl (lv_at hl 0 rfl) ?_
  refine lv_iload_n hx hb dX6_outside_1 rfl (lv_at hl 1 rfl) ?_
  refine lv_icmp_lt (tgt := 10) hx hb dX6_outside_2 (by decide) (fun h2 => ?_) (fun h2 => ?_)
  · refine ln_const 1 hx hb dX6_outside_10 (by decide) ?_
    refine lv_goto (tgt := 15) hx hb dX6_outside_11 (by decide) ?_
    exact x_zret hC hr rfl hk hP hD hS dX6_outside_15 ⟨rfl, rfl⟩
  · refine lv_iload_n hx hb dX6_outside_5 rfl (lv_at hl 0 rfl) ?_
    refine lv_iload_n hx hb dX6_outside_6 rfl (lv_at hl 2 rfl) ?_
    refine lv_icmp_le (tgt := 14) hx hb dX6_outside_7 (by decide) (fun h7 => False.elim (by have := i32_le h7; have := i32_nlt h2; omega)) (fun h7 => ?_)
    refine ln_const 1 hx hb dX6_outside_10 (by decide) ?_
    refine lv_goto (tgt := 15) hx hb dX6_outside_11 (by decide) ?_
    exact x_zret hC hr rfl hk hP hD hS dX6_outside_15 ⟨rfl, rfl⟩

set_option maxHeartbeats 4000000 in
set_option maxRecDepth 100000 in
theorem c_out_any (l : Launch) (Z : xZ) (v lo hi : Int32)  : xMi l Z yX6_outside vX6_outside ({ frames := 0, cells := 0, slots := 0, locals := 0 } : Room) [.int v, .int lo, .int hi] [] (fun r w => ((r = nI 0 ∧ lo.toInt ≤ v.toInt ∧ v.toInt ≤ hi.toInt) ∨ (r = nI 1 ∧ (v.toInt < lo.toInt ∨ hi.toInt < v.toInt))) ∧ w = []) := by
  refine x_i (by decide) rfl (Nat.le_of_ble_eq_true rfl) ?_
  intro p e s m args below meth c ls A hC hr hk hl hP hD hS
  have hx := hC.1.1
  have hb := hC.1.2.1
  have hml := hC.1.2.2.1
  have hown : s.vm.findClass RX6 = some m.cls := hC.1.2.2.2.1
  have hts := hC.1.2.2.2.2
  have hK := hC.2.1
  have hl : lv_has ls 3 [(0, .int v), (1, .int lo), (2, .int hi)] := hl
  have hP : va_P Z.1 vwCl [] s.heap := hP
  have hD : va_D A [] := hD
  refine lv_iload_n hx hb dX6_outside_0 rfl (lv_at hl 0 rfl) ?_
  refine lv_iload_n hx hb dX6_outside_1 rfl (lv_at hl 1 rfl) ?_
  refine lv_icmp_lt (tgt := 10) hx hb dX6_outside_2 (by decide) (fun h2 => ?_) (fun h2 => ?_)
  · refine ln_const 1 hx hb dX6_outside_10 (by decide) ?_
    refine lv_goto (tgt := 15) hx hb dX6_outside_11 (by decide) ?_
    exact x_zret hC hr rfl hk hP hD hS dX6_outside_15 ⟨Or.inr ⟨rfl, Or.inl (i32_lt h2)⟩, rfl⟩
  · refine lv_iload_n hx hb dX6_outside_5 rfl (lv_at hl 0 rfl) ?_
    refine lv_iload_n hx hb dX6_outside_6 rfl (lv_at hl 2 rfl) ?_
    refine lv_icmp_le (tgt := 14) hx hb dX6_outside_7 (by decide) (fun h7 => ?_) (fun h7 => ?_)
    · refine ln_const 0 hx hb dX6_outside_14 (by decide) ?_
      exact x_zret hC hr rfl hk hP hD hS dX6_outside_15 ⟨Or.inl ⟨rfl, i32_nlt h2, i32_le h7⟩, rfl⟩
    · refine ln_const 1 hx hb dX6_outside_10 (by decide) ?_
      refine lv_goto (tgt := 15) hx hb dX6_outside_11 (by decide) ?_
      exact x_zret hC hr rfl hk hP hD hS dX6_outside_15 ⟨Or.inr ⟨rfl, Or.inr (i32_nle h7)⟩, rfl⟩

set_option maxHeartbeats 4000000 in
set_option maxRecDepth 100000 in
theorem c_X6_oneIf (l : Launch) (Z : xZ) (b : Nat) (hb2 : b < 2) : xMi l Z yX6_oneIf vX6_oneIf ({ frames := 0, cells := 0, slots := 0, locals := 0 } : Room) [.int (nI b)] [] (fun r w => r = nI b ∧ w = []) := by
  refine x_i (by decide) rfl (Nat.le_of_ble_eq_true rfl) ?_
  intro p e s m args below meth c ls A hC hr hk hl hP hD hS
  have hx := hC.1.1
  have hb := hC.1.2.1
  have hml := hC.1.2.2.1
  have hown : s.vm.findClass RX6 = some m.cls := hC.1.2.2.2.1
  have hts := hC.1.2.2.2.2
  have hK := hC.2.1
  have hl : lv_has ls 1 [(0, .int (nI b))] := hl
  have hP : va_P Z.1 vwCl [] s.heap := hP
  have hD : va_D A [] := hD
  refine lv_iload_n hx hb dX6_oneIf_0 rfl (lv_at hl 0 rfl) ?_
  refine ln_if_eq (tgt := 8) hx hb dX6_oneIf_1 (by decide) (by omega) (fun h1 => ?_) (fun h1 => ?_)
  · refine ln_const 0 hx hb dX6_oneIf_8 (by decide) ?_
    exact x_iret hC hr hk hP hD hS dX6_oneIf_9 ⟨by rw [show b = 0 by omega], rfl⟩
  · refine ln_const 1 hx hb dX6_oneIf_4 (by decide) ?_
    refine lv_goto (tgt := 9) hx hb dX6_oneIf_5 (by decide) ?_
    exact x_iret hC hr hk hP hD hS dX6_oneIf_9 ⟨by rw [show b = 1 by omega], rfl⟩

set_option maxHeartbeats 4000000 in
set_option maxRecDepth 100000 in
theorem c_X6_pairOf (l : Launch) (Z : xZ) (q u : Nat) : xMi l Z yX6_pairOf vX6_pairOf ({ frames := 0, cells := 0, slots := 0, locals := 0 } : Room) [.int (nI q), .int (nI u)] [] (fun r w => r = nI (2 * q + u) ∧ w = []) := by
  refine x_i (by decide) rfl (Nat.le_of_ble_eq_true rfl) ?_
  intro p e s m args below meth c ls A hC hr hk hl hP hD hS
  have hx := hC.1.1
  have hb := hC.1.2.1
  have hml := hC.1.2.2.1
  have hown : s.vm.findClass RX6 = some m.cls := hC.1.2.2.2.1
  have hts := hC.1.2.2.2.2
  have hK := hC.2.1
  have hl : lv_has ls 2 [(0, .int (nI q)), (1, .int (nI u))] := hl
  have hP : va_P Z.1 vwCl [] s.heap := hP
  have hD : va_D A [] := hD
  refine ln_const 2 hx hb dX6_pairOf_0 (by decide) ?_
  refine lv_iload_n hx hb dX6_pairOf_1 rfl (lv_at hl 0 rfl) ?_
  refine ln_imul (2 * q) hx hb dX6_pairOf_2 (by first | rfl | omega) ?_
  refine lv_iload_n hx hb dX6_pairOf_3 rfl (lv_at hl 1 rfl) ?_
  refine ln_iadd ((2 * q) + u) hx hb dX6_pairOf_4 (by first | rfl | omega) ?_
  exact x_iret hC hr hk hP hD hS dX6_pairOf_5 ⟨rfl, rfl⟩

theorem xwr_t {N q : Nat} (h : q < N) : xwr N q = q := by unfold xwr; rw [if_pos h]
theorem xwr_f {N q : Nat} (h : N ≤ q) : xwr N q = q - N := by unfold xwr; rw [if_neg (by omega)]

set_option maxHeartbeats 4000000 in
set_option maxRecDepth 100000 in
theorem c_X2_wrapped (l : Launch) (Z : xZ) (h a N hd sz : Nat) (g : Nat → Nat) (hN : N < 1000000) (q : Nat) (hq : q < 2147483648) : xMi l Z yX2_wrapped vX2_wrapped ({ frames := 0, cells := 0, slots := 0, locals := 0 } : Room) [.ref h, .int (nI q)] [(h, .inr (2, [.ref a, .int (nI hd), .int (nI sz)])), (a, xI Z N g)] (fun r w => r = nI (xwr N q) ∧ w = [(h, .inr (2, [.ref a, .int (nI hd), .int (nI sz)])), (a, xI Z N g)]) := by
  refine x_i (by decide) rfl (Nat.le_of_ble_eq_true rfl) ?_
  intro p e s m args below meth c ls A hC hr hk hl hP hD hS
  have hx := hC.1.1
  have hb := hC.1.2.1
  have hml := hC.1.2.2.1
  have hown : s.vm.findClass RX2 = some m.cls := hC.1.2.2.2.1
  have hts := hC.1.2.2.2.2
  have hK := hC.2.1
  have qq_279 := hts (Cond.fieldLink RX2 15 "TagTower$LetterRow" "cells" "[I") (List.mem_cons_of_mem _ wq_279)
  have iX2 : ∀ w ∈ wsX20, w ∈ vX2_wrapped := fun w h => List.mem_cons_of_mem _ (wi_X2 w h)
  have hl : lv_has ls 2 [(0, .ref h), (1, .int (nI q))] := hl
  have hP : va_P Z.1 vwCl [(h, .inr (2, [.ref a, .int (nI hd), .int (nI sz)])), (a, xI Z N g)] s.heap := hP
  have hD : va_D A [(h, .inr (2, [.ref a, .int (nI hd), .int (nI sz)])), (a, xI Z N g)] := hD
  refine lv_iload_n hx hb dX2_wrapped_0 rfl (lv_at hl 1 rfl) ?_
  refine lv_aload_n hx hb dX2_wrapped_1 rfl (lv_at hl 0 rfl) ?_
  refine va_get (D := Z.1) (ci := 2) (v := .ref a) (C := RX2) (T := TX2) (N := 3) hx hb hts iX2 hown hK hP 0 rfl rfl 0 (Nat.le_of_ble_eq_true rfl) qq_279 (fun _ h9 => h9) rfl dX2_wrapped_2 ?_
  refine va_alen (v := nI N) hx hb hK hP 1 0 rfl rfl rfl dX2_wrapped_5 ?_
  refine ln_icmp_ge (tgt := 13) hx hb dX2_wrapped_6 (by decide) (by omega) (by omega) (fun h6 => ?_) (fun h6 => ?_)
  · refine lv_iload_n hx hb dX2_wrapped_13 rfl (lv_at hl 1 rfl) ?_
    refine lv_aload_n hx hb dX2_wrapped_14 rfl (lv_at hl 0 rfl) ?_
    refine va_get (D := Z.1) (ci := 2) (v := .ref a) (C := RX2) (T := TX2) (N := 3) hx hb hts iX2 hown hK hP 0 rfl rfl 0 (Nat.le_of_ble_eq_true rfl) qq_279 (fun _ h9 => h9) rfl dX2_wrapped_15 ?_
    refine va_alen (v := nI N) hx hb hK hP 1 0 rfl rfl rfl dX2_wrapped_18 ?_
    refine ln_isub (q - N) hx hb dX2_wrapped_19 (by omega) (by first | rfl | omega) ?_
    exact x_iret hC hr hk hP hD hS dX2_wrapped_20 ⟨by rw [xwr_f h6], rfl⟩
  · refine lv_iload_n hx hb dX2_wrapped_9 rfl (lv_at hl 1 rfl) ?_
    refine lv_goto (tgt := 20) hx hb dX2_wrapped_10 (by decide) ?_
    exact x_iret hC hr hk hP hD hS dX2_wrapped_20 ⟨by rw [xwr_t h6], rfl⟩

set_option maxHeartbeats 4000000 in
set_option maxRecDepth 100000 in
theorem c_X2_empty (l : Launch) (Z : xZ) (h a N hd sz : Nat) (g : Nat → Nat) (hN : N < 1000000) : xMv l Z yX2_empty vX2_empty ({ frames := 0, cells := 0, slots := 0, locals := 0 } : Room) [.ref h] [(h, .inr (2, [.ref a, .int (nI hd), .int (nI sz)])), (a, xI Z N g)] (fun w => w = [(h, .inr (2, [.ref a, .int (nI 0), .int (nI 0)])), (a, xI Z N g)]) := by
  refine x_v (by decide) rfl (Nat.le_of_ble_eq_true rfl) ?_
  intro p e s m args below meth c ls A hC hr hk hname hl hP hD hS
  have hx := hC.1.1
  have hb := hC.1.2.1
  have hml := hC.1.2.2.1
  have hown : s.vm.findClass RX2 = some m.cls := hC.1.2.2.2.1
  have hts := hC.1.2.2.2.2
  have hK := hC.2.1
  have qq_280 := hts (Cond.fieldLink RX2 21 "TagTower$LetterRow" "head" "I") (List.mem_cons_of_mem _ wq_280)
  have iX2 : ∀ w ∈ wsX20, w ∈ vX2_empty := fun w h => List.mem_cons_of_mem _ (wi_X2 w h)
  have qq_282 := hts (Cond.fieldLink RX2 25 "TagTower$LetterRow" "size" "I") (List.mem_cons_of_mem _ wq_282)
  have hl : lv_has ls 1 [(0, .ref h)] := hl
  have hP : va_P Z.1 vwCl [(h, .inr (2, [.ref a, .int (nI hd), .int (nI sz)])), (a, xI Z N g)] s.heap := hP
  have hD : va_D A [(h, .inr (2, [.ref a, .int (nI hd), .int (nI sz)])), (a, xI Z N g)] := hD
  refine lv_aload_n hx hb dX2_empty_0 rfl (lv_at hl 0 rfl) ?_
  refine ln_const 0 hx hb dX2_empty_1 (by decide) ?_
  refine va_put (D := Z.1) (ci := 2) (v := .int (nI 0)) (ty := tyX2 1) (C := RX2) (T := TX2) (N := 3) hx hb hts iX2 tyX2 tyX2_ok nmX2 hown hK hP hD hS 0 rfl rfl 1 (Nat.le_of_ble_eq_true rfl) qq_280 (fun _ h9 => h9) rfl (tyX2_ok 1 (Nat.le_of_ble_eq_true rfl)) rfl rfl (Nat.le_of_ble_eq_true rfl) dX2_empty_2 (fun H locs hP hD hS => ?_)
  have hP : va_P Z.1 vwCl [(h, .inr (2, [.ref a, .int (nI 0), .int (nI sz)])), (a, xI Z N g)] H := hP
  have hD : va_D A [(h, .inr (2, [.ref a, .int (nI 0), .int (nI sz)])), (a, xI Z N g)] := hD
  refine lv_aload_n hx hb dX2_empty_5 rfl (lv_at hl 0 rfl) ?_
  refine ln_const 0 hx hb dX2_empty_6 (by decide) ?_
  refine va_put (D := Z.1) (ci := 2) (v := .int (nI 0)) (ty := tyX2 2) (C := RX2) (T := TX2) (N := 3) hx hb hts iX2 tyX2 tyX2_ok nmX2 hown hK hP hD hS 0 rfl rfl 2 (Nat.le_of_ble_eq_true rfl) qq_282 (fun _ h9 => h9) rfl (tyX2_ok 2 (Nat.le_of_ble_eq_true rfl)) rfl rfl (Nat.le_of_ble_eq_true rfl) dX2_empty_7 (fun H locs hP hD hS => ?_)
  have hP : va_P Z.1 vwCl [(h, .inr (2, [.ref a, .int (nI 0), .int (nI 0)])), (a, xI Z N g)] H := hP
  have hD : va_D A [(h, .inr (2, [.ref a, .int (nI 0), .int (nI 0)])), (a, xI Z N g)] := hD
  exact x_vret hC hr hk hP hD hS dX2_empty_10 (rfl)

theorem ks_X6_outside : yX6_outside.cls ≠ "java/lang/invoke/MethodHandle" ∧ yX6_outside.cls ≠ "java/lang/invoke/VarHandle" ∧ (parseMethodDescriptor yX6_outside.desc).map (fun d => d.parameters.length) = some 3 := by decide +kernel
theorem kv_X2_wrapped : yX2_wrapped.cls = RX2 ∧ yX2_wrapped.cls ≠ "java/lang/invoke/MethodHandle" ∧ yX2_wrapped.cls ≠ "java/lang/invoke/VarHandle" ∧ (parseMethodDescriptor yX2_wrapped.desc).map (fun d => d.parameters.length) = some 1 := by decide +kernel
set_option maxHeartbeats 4000000 in
set_option maxRecDepth 100000 in
theorem c_X2_get_in (l : Launch) (Z : xZ) (h a N hd sz : Nat) (g : Nat → Nat) (L : List Nat) (hN : N < 1000000) (hR : RR N hd g L) (hsz : sz = L.length) (q : Nat) (hq : q < L.length) : xMi l Z yX2_get vX2_get ({ frames := 1, cells := 0, slots := 0, locals := 22 } : Room) [.ref h, .int (nI q)] [(h, .inr (2, [.ref a, .int (nI hd), .int (nI sz)])), (a, xI Z N g)] (fun r w => r = nI (L.getD q 0) ∧ w = [(h, .inr (2, [.ref a, .int (nI hd), .int (nI sz)])), (a, xI Z N g)]) := by
  refine x_i (by decide) rfl (Nat.le_of_ble_eq_true rfl) ?_
  intro p e s m args below meth c ls A hC hr hk hl hP hD hS
  have hx := hC.1.1
  have hb := hC.1.2.1
  have hml := hC.1.2.2.1
  have hown : s.vm.findClass RX2 = some m.cls := hC.1.2.2.2.1
  have hts := hC.1.2.2.2.2
  have hK := hC.2.1
  have qq_282 := hts (Cond.fieldLink RX2 25 "TagTower$LetterRow" "size" "I") (List.mem_cons_of_mem _ wq_282)
  have iX2 : ∀ w ∈ wsX20, w ∈ vX2_get := fun w h => List.mem_cons_of_mem _ (wi_X2 w h)
  have qq_32 := hts (Cond.initialized RX6) (List.mem_cons_of_mem _ wq_32)
  have qq_338 := hts (Cond.static yX6_outside) (List.mem_cons_of_mem _ wq_338)
  have qn_28 := hC.2.2.2.1.1 (RX2, 28, yX6_outside, RX6) (List.mem_of_getElem? (i := 8) rfl)
  have qq_279 := hts (Cond.fieldLink RX2 15 "TagTower$LetterRow" "cells" "[I") (List.mem_cons_of_mem _ wq_279)
  have qq_280 := hts (Cond.fieldLink RX2 21 "TagTower$LetterRow" "head" "I") (List.mem_cons_of_mem _ wq_280)
  have hl : lv_has ls 2 [(0, .ref h), (1, .int (nI q))] := hl
  have hP : va_P Z.1 vwCl [(h, .inr (2, [.ref a, .int (nI hd), .int (nI sz)])), (a, xI Z N g)] s.heap := hP
  have hD : va_D A [(h, .inr (2, [.ref a, .int (nI hd), .int (nI sz)])), (a, xI Z N g)] := hD
  have hR1 := hR.1
  have hR2 := hR.2.1
  refine lv_iload_n hx hb dX2_get_0 rfl (lv_at hl 1 rfl) ?_
  refine ln_const 0 hx hb dX2_get_1 (by decide) ?_
  refine lv_aload_n hx hb dX2_get_2 rfl (lv_at hl 0 rfl) ?_
  refine va_get (D := Z.1) (ci := 2) (v := .int (nI sz)) (C := RX2) (T := TX2) (N := 3) hx hb hts iX2 hown hK hP 0 rfl rfl 2 (Nat.le_of_ble_eq_true rfl) qq_282 (fun _ h9 => h9) rfl dX2_get_3 ?_
  refine ln_const 1 hx hb dX2_get_6 (by decide) ?_
  refine ln_isub (sz - 1) hx hb dX2_get_7 (by omega) (by first | rfl | omega) ?_
  refine x_SNi (y := yX6_outside) (As := [.int (nI q), .int (nI 0), .int (nI (sz - 1))]) (wc := []) (wr := [(h, .inr (2, [.ref a, .int (nI hd), .int (nI sz)])), (a, xI Z N g)]) hC hP hD hS (c_out_in l Z (nI q) (nI 0) (nI (sz - 1)) (o_in (by omega) (by omega) (by omega))) (gCo wq_339) qn_28 qq_32 qq_338 rfl ks_X6_outside ⟨rfl, rfl⟩ rfl hl.1 rfl ⟨Nat.le_of_ble_eq_true rfl, Nat.le_of_ble_eq_true rfl⟩ ([] : List Nat) [0, 1] rfl rfl (by decide) (by decide) (by decide) rfl dX2_get_8 (fun r8 w1 H locs hw hP hD hS => ?_)
  obtain ⟨rfl, rfl⟩ := hw
  have hP : va_P Z.1 vwCl [(h, .inr (2, [.ref a, .int (nI hd), .int (nI sz)])), (a, xI Z N g)] H := hP
  have hD : va_D A [(h, .inr (2, [.ref a, .int (nI hd), .int (nI sz)])), (a, xI Z N g)] := hD
  refine ln_if_eq (tgt := 19) hx hb dX2_get_11 (by decide) (by omega) (fun h11 => ?_) (fun h11 => False.elim (by omega))
  refine lv_aload_n hx hb dX2_get_19 rfl (lv_at hl 0 rfl) ?_
  refine va_get (D := Z.1) (ci := 2) (v := .ref a) (C := RX2) (T := TX2) (N := 3) hx hb hts iX2 hown hK hP 0 rfl rfl 0 (Nat.le_of_ble_eq_true rfl) qq_279 (fun _ h9 => h9) rfl dX2_get_20 ?_
  refine lv_aload_n hx hb dX2_get_23 rfl (lv_at hl 0 rfl) ?_
  refine lv_aload_n hx hb dX2_get_24 rfl (lv_at hl 0 rfl) ?_
  refine va_get (D := Z.1) (ci := 2) (v := .int (nI hd)) (C := RX2) (T := TX2) (N := 3) hx hb hts iX2 hown hK hP 0 rfl rfl 1 (Nat.le_of_ble_eq_true rfl) qq_280 (fun _ h9 => h9) rfl dX2_get_25 ?_
  refine lv_iload_n hx hb dX2_get_28 rfl (lv_at hl 1 rfl) ?_
  refine ln_iadd (hd + q) hx hb dX2_get_29 (by first | rfl | omega) ?_
  refine x_Vi (y := yX2_wrapped) (As := [.int (nI (hd + q))]) (wc := [(h, .inr (2, [.ref a, .int (nI hd), .int (nI sz)])), (a, xI Z N g)]) (wr := []) hC hP hD hS (c_X2_wrapped l Z h a N hd sz g (by omega) (hd + q) (by omega)) (gV wq_503 wq_500 wq_502 wq_7 wq_43) rfl kv_X2_wrapped rfl rfl ⟨rfl, rfl⟩ rfl hl.1 rfl ⟨Nat.le_of_ble_eq_true rfl, Nat.le_of_ble_eq_true rfl⟩ [0, 1] ([] : List Nat) rfl rfl (by decide) (by decide) (by decide) rfl dX2_get_30 (fun r30 w1 H locs hw hP hD hS => ?_)
  obtain ⟨rfl, rfl⟩ := hw
  have hP : va_P Z.1 vwCl [(h, .inr (2, [.ref a, .int (nI hd), .int (nI sz)])), (a, xI Z N g)] H := hP
  have hD : va_D A [(h, .inr (2, [.ref a, .int (nI hd), .int (nI sz)])), (a, xI Z N g)] := hD
  refine ln_iald hx hb hK hP 1 rfl (xwr_lt (by omega)) (by omega) dX2_get_33 ?_
  exact x_iret hC hr hk hP hD hS dX2_get_34 ⟨by rw [hR.at0 hq], rfl⟩

set_option maxHeartbeats 4000000 in
set_option maxRecDepth 100000 in
theorem c_X2_get_out (l : Launch) (Z : xZ) (h a N hd sz : Nat) (g : Nat → Nat) (L : List Nat) (hN : N < 1000000) (hR : RR N hd g L) (hsz : sz = L.length) (x : Int32) (hx2 : ¬ (0 ≤ x.toInt ∧ x.toInt < (L.length : Int))) : xMi l Z yX2_get vX2_get ({ frames := 1, cells := 0, slots := 0, locals := 22 } : Room) [.ref h, .int x] [(h, .inr (2, [.ref a, .int (nI hd), .int (nI sz)])), (a, xI Z N g)] (fun r w => r = -9 ∧ w = [(h, .inr (2, [.ref a, .int (nI hd), .int (nI sz)])), (a, xI Z N g)]) := by
  refine x_i (by decide) rfl (Nat.le_of_ble_eq_true rfl) ?_
  intro p e s m args below meth c ls A hC hr hk hl hP hD hS
  have hx := hC.1.1
  have hb := hC.1.2.1
  have hml := hC.1.2.2.1
  have hown : s.vm.findClass RX2 = some m.cls := hC.1.2.2.2.1
  have hts := hC.1.2.2.2.2
  have hK := hC.2.1
  have qq_282 := hts (Cond.fieldLink RX2 25 "TagTower$LetterRow" "size" "I") (List.mem_cons_of_mem _ wq_282)
  have iX2 : ∀ w ∈ wsX20, w ∈ vX2_get := fun w h => List.mem_cons_of_mem _ (wi_X2 w h)
  have qq_32 := hts (Cond.initialized RX6) (List.mem_cons_of_mem _ wq_32)
  have qq_338 := hts (Cond.static yX6_outside) (List.mem_cons_of_mem _ wq_338)
  have qn_28 := hC.2.2.2.1.1 (RX2, 28, yX6_outside, RX6) (List.mem_of_getElem? (i := 8) rfl)
  have hl : lv_has ls 2 [(0, .ref h), (1, .int x)] := hl
  have hP : va_P Z.1 vwCl [(h, .inr (2, [.ref a, .int (nI hd), .int (nI sz)])), (a, xI Z N g)] s.heap := hP
  have hD : va_D A [(h, .inr (2, [.ref a, .int (nI hd), .int (nI sz)])), (a, xI Z N g)] := hD
  have hR1 := hR.1
  have hR2 := hR.2.1
  refine lv_iload_n hx hb dX2_get_0 rfl (lv_at hl 1 rfl) ?_
  refine ln_const 0 hx hb dX2_get_1 (by decide) ?_
  refine lv_aload_n hx hb dX2_get_2 rfl (lv_at hl 0 rfl) ?_
  refine va_get (D := Z.1) (ci := 2) (v := .int (nI sz)) (C := RX2) (T := TX2) (N := 3) hx hb hts iX2 hown hK hP 0 rfl rfl 2 (Nat.le_of_ble_eq_true rfl) qq_282 (fun _ h9 => h9) rfl dX2_get_3 ?_
  refine ln_const 1 hx hb dX2_get_6 (by decide) ?_
  refine lv_isub hx hb dX2_get_7 ?_
  refine x_SNi (y := yX6_outside) (As := [.int x, .int (nI 0), .int ((nI sz) - (nI 1))]) (wc := []) (wr := [(h, .inr (2, [.ref a, .int (nI hd), .int (nI sz)])), (a, xI Z N g)]) hC hP hD hS (c_out_out l Z x (nI 0) ((nI sz) - (nI 1)) (by rw [nI_toInt (by omega), pk_sub_toInt (by omega) (by omega)]; omega)) (gCo wq_339) qn_28 qq_32 qq_338 rfl ks_X6_outside ⟨rfl, rfl⟩ rfl hl.1 rfl ⟨Nat.le_of_ble_eq_true rfl, Nat.le_of_ble_eq_true rfl⟩ ([] : List Nat) [0, 1] rfl rfl (by decide) (by decide) (by decide) rfl dX2_get_8 (fun r8 w1 H locs hw hP hD hS => ?_)
  obtain ⟨rfl, rfl⟩ := hw
  have hP : va_P Z.1 vwCl [(h, .inr (2, [.ref a, .int (nI hd), .int (nI sz)])), (a, xI Z N g)] H := hP
  have hD : va_D A [(h, .inr (2, [.ref a, .int (nI hd), .int (nI sz)])), (a, xI Z N g)] := hD
  refine ln_if_eq (tgt := 19) hx hb dX2_get_11 (by decide) (by omega) (fun h11 => False.elim (by omega)) (fun h11 => ?_)
  refine lv_bipush (v := (-9)) hx hb dX2_get_14 (by decide) ?_
  refine lv_goto (tgt := 34) hx hb dX2_get_16 (by decide) ?_
  exact x_iret hC hr hk hP hD hS dX2_get_34 ⟨rfl, rfl⟩

set_option maxHeartbeats 4000000 in
set_option maxRecDepth 100000 in
theorem c_X2_append (l : Launch) (Z : xZ) (h a N hd sz : Nat) (g : Nat → Nat) (L : List Nat) (hN : N < 1000000) (hR : RR N hd g L) (hsz : sz = L.length) (x : Nat) (hx2 : L.length < N) : xMv l Z yX2_append vX2_append ({ frames := 1, cells := 0, slots := 0, locals := 21 } : Room) [.ref h, .int (nI x)] [(h, .inr (2, [.ref a, .int (nI hd), .int (nI sz)])), (a, xI Z N g)] (fun w => ∃ g2, RR N hd g2 (L ++ [x]) ∧ w = [(h, .inr (2, [.ref a, .int (nI hd), .int (nI (sz + 1))])), (a, xI Z N g2)]) := by
  refine x_v (by decide) rfl (Nat.le_of_ble_eq_true rfl) ?_
  intro p e s m args below meth c ls A hC hr hk hname hl hP hD hS
  have hx := hC.1.1
  have hb := hC.1.2.1
  have hml := hC.1.2.2.1
  have hown : s.vm.findClass RX2 = some m.cls := hC.1.2.2.2.1
  have hts := hC.1.2.2.2.2
  have hK := hC.2.1
  have qq_282 := hts (Cond.fieldLink RX2 25 "TagTower$LetterRow" "size" "I") (List.mem_cons_of_mem _ wq_282)
  have iX2 : ∀ w ∈ wsX20, w ∈ vX2_append := fun w h => List.mem_cons_of_mem _ (wi_X2 w h)
  have qq_279 := hts (Cond.fieldLink RX2 15 "TagTower$LetterRow" "cells" "[I") (List.mem_cons_of_mem _ wq_279)
  have qq_280 := hts (Cond.fieldLink RX2 21 "TagTower$LetterRow" "head" "I") (List.mem_cons_of_mem _ wq_280)
  have hl : lv_has ls 2 [(0, .ref h), (1, .int (nI x))] := hl
  have hP : va_P Z.1 vwCl [(h, .inr (2, [.ref a, .int (nI hd), .int (nI sz)])), (a, xI Z N g)] s.heap := hP
  have hD : va_D A [(h, .inr (2, [.ref a, .int (nI hd), .int (nI sz)])), (a, xI Z N g)] := hD
  have hR1 := hR.1
  have hR2 := hR.2.1
  refine lv_aload_n hx hb dX2_append_0 rfl (lv_at hl 0 rfl) ?_
  refine va_get (D := Z.1) (ci := 2) (v := .int (nI sz)) (C := RX2) (T := TX2) (N := 3) hx hb hts iX2 hown hK hP 0 rfl rfl 2 (Nat.le_of_ble_eq_true rfl) qq_282 (fun _ h9 => h9) rfl dX2_append_1 ?_
  refine lv_aload_n hx hb dX2_append_4 rfl (lv_at hl 0 rfl) ?_
  refine va_get (D := Z.1) (ci := 2) (v := .ref a) (C := RX2) (T := TX2) (N := 3) hx hb hts iX2 hown hK hP 0 rfl rfl 0 (Nat.le_of_ble_eq_true rfl) qq_279 (fun _ h9 => h9) rfl dX2_append_5 ?_
  refine va_alen (v := nI N) hx hb hK hP 1 0 rfl rfl rfl dX2_append_8 ?_
  refine ln_icmp_ge (tgt := 41) hx hb dX2_append_9 (by decide) (by omega) (by omega) (fun h9 => False.elim (by omega)) (fun h9 => ?_)
  refine lv_aload_n hx hb dX2_append_12 rfl (lv_at hl 0 rfl) ?_
  refine va_get (D := Z.1) (ci := 2) (v := .ref a) (C := RX2) (T := TX2) (N := 3) hx hb hts iX2 hown hK hP 0 rfl rfl 0 (Nat.le_of_ble_eq_true rfl) qq_279 (fun _ h9 => h9) rfl dX2_append_13 ?_
  refine lv_aload_n hx hb dX2_append_16 rfl (lv_at hl 0 rfl) ?_
  refine lv_aload_n hx hb dX2_append_17 rfl (lv_at hl 0 rfl) ?_
  refine va_get (D := Z.1) (ci := 2) (v := .int (nI hd)) (C := RX2) (T := TX2) (N := 3) hx hb hts iX2 hown hK hP 0 rfl rfl 1 (Nat.le_of_ble_eq_true rfl) qq_280 (fun _ h9 => h9) rfl dX2_append_18 ?_
  refine lv_aload_n hx hb dX2_append_21 rfl (lv_at hl 0 rfl) ?_
  refine va_get (D := Z.1) (ci := 2) (v := .int (nI sz)) (C := RX2) (T := TX2) (N := 3) hx hb hts iX2 hown hK hP 0 rfl rfl 2 (Nat.le_of_ble_eq_true rfl) qq_282 (fun _ h9 => h9) rfl dX2_append_22 ?_
  refine ln_iadd (hd + sz) hx hb dX2_append_25 (by first | rfl | omega) ?_
  refine x_Vi (y := yX2_wrapped) (As := [.int (nI (hd + sz))]) (wc := [(h, .inr (2, [.ref a, .int (nI hd), .int (nI sz)])), (a, xI Z N g)]) (wr := []) hC hP hD hS (c_X2_wrapped l Z h a N hd sz g (by omega) (hd + sz) (by omega)) (gV wq_503 wq_500 wq_502 wq_7 wq_43) rfl kv_X2_wrapped rfl rfl ⟨rfl, rfl⟩ rfl hl.1 rfl ⟨Nat.le_of_ble_eq_true rfl, Nat.le_of_ble_eq_true rfl⟩ [0, 1] ([] : List Nat) rfl rfl (by decide) (by decide) (by decide) rfl dX2_append_26 (fun r26 w1 H locs hw hP hD hS => ?_)
  obtain ⟨rfl, rfl⟩ := hw
  have hP : va_P Z.1 vwCl [(h, .inr (2, [.ref a, .int (nI hd), .int (nI sz)])), (a, xI Z N g)] H := hP
  have hD : va_D A [(h, .inr (2, [.ref a, .int (nI hd), .int (nI sz)])), (a, xI Z N g)] := hD
  refine lv_iload_n hx hb dX2_append_29 rfl (lv_at hl 1 rfl) ?_
  refine ln_iast hx hb hK hP hD hS 1 rfl (xwr_lt (by omega)) (by omega) dX2_append_30 (fun H locs hP hD hS => ?_)
  have hP : va_P Z.1 vwCl [(h, .inr (2, [.ref a, .int (nI hd), .int (nI sz)])), (a, xI Z N (va_up g (xwr N (hd + sz)) x))] H := hP
  have hD : va_D A [(h, .inr (2, [.ref a, .int (nI hd), .int (nI sz)])), (a, xI Z N (va_up g (xwr N (hd + sz)) x))] := hD
  refine lv_aload_n hx hb dX2_append_31 rfl (lv_at hl 0 rfl) ?_
  refine lv_dup hx hb dX2_append_32 rfl ?_
  refine va_get (D := Z.1) (ci := 2) (v := .int (nI sz)) (C := RX2) (T := TX2) (N := 3) hx hb hts iX2 hown hK hP 0 rfl rfl 2 (Nat.le_of_ble_eq_true rfl) qq_282 (fun _ h9 => h9) rfl dX2_append_33 ?_
  refine ln_const 1 hx hb dX2_append_36 (by decide) ?_
  refine ln_iadd (sz + 1) hx hb dX2_append_37 (by first | rfl | omega) ?_
  refine va_put (D := Z.1) (ci := 2) (v := .int (nI (sz + 1))) (ty := tyX2 2) (C := RX2) (T := TX2) (N := 3) hx hb hts iX2 tyX2 tyX2_ok nmX2 hown hK hP hD hS 0 rfl rfl 2 (Nat.le_of_ble_eq_true rfl) qq_282 (fun _ h9 => h9) rfl (tyX2_ok 2 (Nat.le_of_ble_eq_true rfl)) rfl rfl (Nat.le_of_ble_eq_true rfl) dX2_append_38 (fun H locs hP hD hS => ?_)
  have hP : va_P Z.1 vwCl [(h, .inr (2, [.ref a, .int (nI hd), .int (nI (sz + 1))])), (a, xI Z N (va_up g (xwr N (hd + sz)) x))] H := hP
  have hD : va_D A [(h, .inr (2, [.ref a, .int (nI hd), .int (nI (sz + 1))])), (a, xI Z N (va_up g (xwr N (hd + sz)) x))] := hD
  exact x_vret hC hr hk hP hD hS dX2_append_41 ⟨_, by rw [xwr_mod (by omega), hsz]; exact hR.push hx2, rfl⟩

set_option maxHeartbeats 4000000 in
set_option maxRecDepth 100000 in
theorem c_X2_drop (l : Launch) (Z : xZ) (h a N hd sz : Nat) (g : Nat → Nat) (L : List Nat) (hN : N < 1000000) (hR : RR N hd g L) (hsz : sz = L.length) (k : Nat) (hk2 : k ≤ L.length) : xMv l Z yX2_drop vX2_drop ({ frames := 1, cells := 0, slots := 0, locals := 21 } : Room) [.ref h, .int (nI k)] [(h, .inr (2, [.ref a, .int (nI hd), .int (nI sz)])), (a, xI Z N g)] (fun w => RR N (xwr N (hd + k)) g (L.drop k) ∧ w = [(h, .inr (2, [.ref a, .int (nI (xwr N (hd + k))), .int (nI (sz - k))])), (a, xI Z N g)]) := by
  refine x_v (by decide) rfl (Nat.le_of_ble_eq_true rfl) ?_
  intro p e s m args below meth c ls A hC hr hk hname hl hP hD hS
  have hx := hC.1.1
  have hb := hC.1.2.1
  have hml := hC.1.2.2.1
  have hown : s.vm.findClass RX2 = some m.cls := hC.1.2.2.2.1
  have hts := hC.1.2.2.2.2
  have hK := hC.2.1
  have qq_282 := hts (Cond.fieldLink RX2 25 "TagTower$LetterRow" "size" "I") (List.mem_cons_of_mem _ wq_282)
  have iX2 : ∀ w ∈ wsX20, w ∈ vX2_drop := fun w h => List.mem_cons_of_mem _ (wi_X2 w h)
  have qq_548 := hts (Cond.methodLink RX2 36 Lib.Math.min.name) (List.mem_cons_of_mem _ wq_548)
  have qq_205 := hts (Cond.static Lib.Math.min.name) (List.mem_cons_of_mem _ wq_205)
  have qq_40 := hts (Cond.initialized "java/lang/Math") (List.mem_cons_of_mem _ wq_40)
  have qq_206 := hts (Cond.code Lib.Math.min.name Lib.Math.min.code 2 (some .int)) (List.mem_cons_of_mem _ wq_206)
  have qq_280 := hts (Cond.fieldLink RX2 21 "TagTower$LetterRow" "head" "I") (List.mem_cons_of_mem _ wq_280)
  have hl : lv_has ls 3 [(0, .ref h), (1, .int (nI k))] := hl
  have hP : va_P Z.1 vwCl [(h, .inr (2, [.ref a, .int (nI hd), .int (nI sz)])), (a, xI Z N g)] s.heap := hP
  have hD : va_D A [(h, .inr (2, [.ref a, .int (nI hd), .int (nI sz)])), (a, xI Z N g)] := hD
  have hR1 := hR.1
  have hR2 := hR.2.1
  refine lv_iload_n hx hb dX2_drop_0 rfl (lv_at hl 1 rfl) ?_
  refine lv_aload_n hx hb dX2_drop_1 rfl (lv_at hl 0 rfl) ?_
  refine va_get (D := Z.1) (ci := 2) (v := .int (nI sz)) (C := RX2) (T := TX2) (N := 3) hx hb hts iX2 hown hK hP 0 rfl rfl 2 (Nat.le_of_ble_eq_true rfl) qq_282 (fun _ h9 => h9) rfl dX2_drop_2 ?_
  refine va_mmin hx hb (by rw [hml]; exact hl.1.symm) hown qq_548 qq_205 qq_40 qq_206 (Nat.le_of_ble_eq_true rfl) (Nat.le_of_ble_eq_true rfl) (Nat.le_of_ble_eq_true rfl) (Nat.le_of_ble_eq_true rfl) dX2_drop_5 ?_
  refine ln_top (y := nI k) (by subst hsz; rw [if_neg (nI_nlt hk2 (by omega))]) ?_
  refine lv_istore_n (lv' := [(2, .int (nI k)), (0, .ref h), (1, .int (nI k))]) hx hb dX2_drop_8 rfl hl (by decide) rfl (fun ls hl => ?_)
  refine lv_aload_n hx hb dX2_drop_9 rfl (lv_at hl 1 rfl) ?_
  refine lv_aload_n hx hb dX2_drop_10 rfl (lv_at hl 1 rfl) ?_
  refine lv_aload_n hx hb dX2_drop_11 rfl (lv_at hl 1 rfl) ?_
  refine va_get (D := Z.1) (ci := 2) (v := .int (nI hd)) (C := RX2) (T := TX2) (N := 3) hx hb hts iX2 hown hK hP 0 rfl rfl 1 (Nat.le_of_ble_eq_true rfl) qq_280 (fun _ h9 => h9) rfl dX2_drop_12 ?_
  refine lv_iload_n hx hb dX2_drop_15 rfl (lv_at hl 0 rfl) ?_
  refine ln_iadd (hd + k) hx hb dX2_drop_16 (by first | rfl | omega) ?_
  refine x_Vi (y := yX2_wrapped) (As := [.int (nI (hd + k))]) (wc := [(h, .inr (2, [.ref a, .int (nI hd), .int (nI sz)])), (a, xI Z N g)]) (wr := []) hC hP hD hS (c_X2_wrapped l Z h a N hd sz g (by omega) (hd + k) (by omega)) (gV wq_503 wq_500 wq_502 wq_7 wq_43) rfl kv_X2_wrapped rfl rfl ⟨rfl, rfl⟩ rfl hl.1 rfl ⟨Nat.le_of_ble_eq_true rfl, Nat.le_of_ble_eq_true rfl⟩ [0, 1] ([] : List Nat) rfl rfl (by decide) (by decide) (by decide) rfl dX2_drop_17 (fun r17 w1 H locs hw hP hD hS => ?_)
  obtain ⟨rfl, rfl⟩ := hw
  have hP : va_P Z.1 vwCl [(h, .inr (2, [.ref a, .int (nI hd), .int (nI sz)])), (a, xI Z N g)] H := hP
  have hD : va_D A [(h, .inr (2, [.ref a, .int (nI hd), .int (nI sz)])), (a, xI Z N g)] := hD
  refine va_put (D := Z.1) (ci := 2) (v := .int (nI (xwr N (hd + k)))) (ty := tyX2 1) (C := RX2) (T := TX2) (N := 3) hx hb hts iX2 tyX2 tyX2_ok nmX2 hown hK hP hD hS 0 rfl rfl 1 (Nat.le_of_ble_eq_true rfl) qq_280 (fun _ h9 => h9) rfl (tyX2_ok 1 (Nat.le_of_ble_eq_true rfl)) rfl rfl (Nat.le_of_ble_eq_true rfl) dX2_drop_20 (fun H locs hP hD hS => ?_)
  have hP : va_P Z.1 vwCl [(h, .inr (2, [.ref a, .int (nI (xwr N (hd + k))), .int (nI sz)])), (a, xI Z N g)] H := hP
  have hD : va_D A [(h, .inr (2, [.ref a, .int (nI (xwr N (hd + k))), .int (nI sz)])), (a, xI Z N g)] := hD
  refine lv_aload_n hx hb dX2_drop_23 rfl (lv_at hl 1 rfl) ?_
  refine lv_dup hx hb dX2_drop_24 rfl ?_
  refine va_get (D := Z.1) (ci := 2) (v := .int (nI sz)) (C := RX2) (T := TX2) (N := 3) hx hb hts iX2 hown hK hP 0 rfl rfl 2 (Nat.le_of_ble_eq_true rfl) qq_282 (fun _ h9 => h9) rfl dX2_drop_25 ?_
  refine lv_iload_n hx hb dX2_drop_28 rfl (lv_at hl 0 rfl) ?_
  refine ln_isub (sz - k) hx hb dX2_drop_29 (by omega) (by first | rfl | omega) ?_
  refine va_put (D := Z.1) (ci := 2) (v := .int (nI (sz - k))) (ty := tyX2 2) (C := RX2) (T := TX2) (N := 3) hx hb hts iX2 tyX2 tyX2_ok nmX2 hown hK hP hD hS 0 rfl rfl 2 (Nat.le_of_ble_eq_true rfl) qq_282 (fun _ h9 => h9) rfl (tyX2_ok 2 (Nat.le_of_ble_eq_true rfl)) rfl rfl (Nat.le_of_ble_eq_true rfl) dX2_drop_30 (fun H locs hP hD hS => ?_)
  have hP : va_P Z.1 vwCl [(h, .inr (2, [.ref a, .int (nI (xwr N (hd + k))), .int (nI (sz - k))])), (a, xI Z N g)] H := hP
  have hD : va_D A [(h, .inr (2, [.ref a, .int (nI (xwr N (hd + k))), .int (nI (sz - k))])), (a, xI Z N g)] := hD
  exact x_vret hC hr hk hP hD hS dX2_drop_33 ⟨by rw [xwr_mod (by omega)]; exact hR.drop hk2, rfl⟩

theorem kv_X2_empty : yX2_empty.cls = RX2 ∧ yX2_empty.cls ≠ "java/lang/invoke/MethodHandle" ∧ yX2_empty.cls ≠ "java/lang/invoke/VarHandle" ∧ (parseMethodDescriptor yX2_empty.desc).map (fun d => d.parameters.length) = some 0 := by decide +kernel
theorem kv_X2_get : yX2_get.cls = RX2 ∧ yX2_get.cls ≠ "java/lang/invoke/MethodHandle" ∧ yX2_get.cls ≠ "java/lang/invoke/VarHandle" ∧ (parseMethodDescriptor yX2_get.desc).map (fun d => d.parameters.length) = some 1 := by decide +kernel
theorem kv_X2_append : yX2_append.cls = RX2 ∧ yX2_append.cls ≠ "java/lang/invoke/MethodHandle" ∧ yX2_append.cls ≠ "java/lang/invoke/VarHandle" ∧ (parseMethodDescriptor yX2_append.desc).map (fun d => d.parameters.length) = some 1 := by decide +kernel
set_option maxHeartbeats 4000000 in
set_option maxRecDepth 100000 in
theorem c_X2_become (l : Launch) (Z : xZ) (h a N hd sz : Nat) (g : Nat → Nat) (hN : N < 1000000) (h2 a2 N2 hd2 sz2 : Nat) (g2 : Nat → Nat) (L2 : List Nat) (hN2 : N2 < 1000000) (hR2 : RR N2 hd2 g2 L2) (hsz2 : sz2 = L2.length) (hfit : L2.length ≤ N) (hpos : 0 < N) : xMv l Z yX2_become vX2_become ({ frames := 2, cells := 0, slots := 0, locals := 43 } : Room) [.ref h, .ref h2] [(h, .inr (2, [.ref a, .int (nI hd), .int (nI sz)])), (a, xI Z N g), (h2, .inr (2, [.ref a2, .int (nI hd2), .int (nI sz2)])), (a2, xI Z N2 g2)] (fun w => ∃ hd1 g1, RR N hd1 g1 L2 ∧ w = [(h, .inr (2, [.ref a, .int (nI hd1), .int (nI sz2)])), (a, xI Z N g1), (h2, .inr (2, [.ref a2, .int (nI hd2), .int (nI sz2)])), (a2, xI Z N2 g2)]) := by
  refine x_v (by decide) rfl (Nat.le_of_ble_eq_true rfl) ?_
  intro p e s m args below meth c ls A hC hr hk hname hl hP hD hS
  have hx := hC.1.1
  have hb := hC.1.2.1
  have hml := hC.1.2.2.1
  have hown : s.vm.findClass RX2 = some m.cls := hC.1.2.2.2.1
  have hts := hC.1.2.2.2.2
  have hK := hC.2.1
  have qq_282 := hts (Cond.fieldLink RX2 25 "TagTower$LetterRow" "size" "I") (List.mem_cons_of_mem _ wq_282)
  have iX2 : ∀ w ∈ wsX20, w ∈ vX2_become := fun w h => List.mem_cons_of_mem _ (wi_X2 w h)
  have hl : lv_has ls 3 [(0, .ref h), (1, .ref h2)] := hl
  have hP : va_P Z.1 vwCl [(h, .inr (2, [.ref a, .int (nI hd), .int (nI sz)])), (a, xI Z N g), (h2, .inr (2, [.ref a2, .int (nI hd2), .int (nI sz2)])), (a2, xI Z N2 g2)] s.heap := hP
  have hD : va_D A [(h, .inr (2, [.ref a, .int (nI hd), .int (nI sz)])), (a, xI Z N g), (h2, .inr (2, [.ref a2, .int (nI hd2), .int (nI sz2)])), (a2, xI Z N2 g2)] := hD
  have hR21 := hR2.1
  have hR22 := hR2.2.1
  refine lv_aload_n hx hb dX2_become_0 rfl (lv_at hl 0 rfl) ?_
  refine x_Vv (y := yX2_empty) (As := []) (wc := [(h, .inr (2, [.ref a, .int (nI hd), .int (nI sz)])), (a, xI Z N g)]) (wr := [(h2, .inr (2, [.ref a2, .int (nI hd2), .int (nI sz2)])), (a2, xI Z N2 g2)]) hC hP hD hS (c_X2_empty l Z h a N hd sz g (by omega)) (gV wq_491 wq_566 wq_489 wq_490 wq_43) rfl kv_X2_empty rfl rfl ⟨rfl, rfl⟩ rfl hl.1 rfl ⟨Nat.le_of_ble_eq_true rfl, Nat.le_of_ble_eq_true rfl⟩ [0, 1] [2, 3] rfl rfl (by decide) (by decide) (by decide) rfl dX2_become_1 (fun w1 H locs hw hP hD hS => ?_)
  obtain rfl := hw
  have hP := hP.sub (ws' := [(h, .inr (2, [.ref a, .int (nI 0), .int (nI 0)])), (a, xI Z N g), (h2, .inr (2, [.ref a2, .int (nI hd2), .int (nI sz2)])), (a2, xI Z N2 g2)]) [2, 3, 0, 1] rfl
  have hD := hD.sub (ws' := [(h, .inr (2, [.ref a, .int (nI 0), .int (nI 0)])), (a, xI Z N g), (h2, .inr (2, [.ref a2, .int (nI hd2), .int (nI sz2)])), (a2, xI Z N2 g2)]) [2, 3, 0, 1] (by decide) rfl
  refine ln_const 0 hx hb dX2_become_4 (by decide) ?_
  refine lv_istore_n (lv' := [(2, .int (nI 0)), (0, .ref h), (1, .ref h2)]) hx hb dX2_become_5 rfl hl (by decide) rfl (fun ls hl => ?_)
  have hloop6 : ∀ (nn : Nat) (k hd1 sz1 : Nat) (g1 : Nat → Nat) (H : Heap) (locs : List Loc) (ls : Array Slot) (hk1 : k ≤ L2.length) (hR1 : RR N hd1 g1 (L2.take k)) (hs1 : sz1 = k) (hmu : L2.length - k < nn) (hP : va_P Z.1 vwCl [(h, .inr (2, [.ref a, .int (nI hd1), .int (nI sz1)])), (a, xI Z N g1), (h2, .inr (2, [.ref a2, .int (nI hd2), .int (nI sz2)])), (a2, xI Z N2 g2)] H) (hD : va_D A [(h, .inr (2, [.ref a, .int (nI hd1), .int (nI sz1)])), (a, xI Z N g1), (h2, .inr (2, [.ref a2, .int (nI hd2), .int (nI sz2)])), (a2, xI Z N2 g2)]) (hS : va_S A s.heap H locs) (hl : lv_has ls 3 [(0, .ref h), (1, .ref h2), (2, .int (nI k))]), W p l e ({ frames := 2, cells := 0, slots := 0, locals := 43 } : Room) s m args below meth c H locs 0 0 (MQ below (va_Qv (fun w => ∃ hd1 g1, RR N hd1 g1 L2 ∧ w = [(h, .inr (2, [.ref a, .int (nI hd1), .int (nI sz2)])), (a, xI Z N g1), (h2, .inr (2, [.ref a2, .int (nI hd2), .int (nI sz2)])), (a2, xI Z N2 g2)]) (xB Z A) A) args s ({ frames := 2, cells := 0, slots := 0, locals := 43 } : Room).cells ({ frames := 2, cells := 0, slots := 0, locals := 43 } : Room).slots A) (F0 m 6 ls []) := by
    intro nn
    induction nn with
    | zero => intro k hd1 sz1 g1 H locs ls hk1 hR1 hs1 hmu; exact absurd hmu (Nat.not_lt_zero _)
    | succ nn ih =>
      intro k hd1 sz1 g1 H locs ls hk1 hR1 hs1 hmu hP hD hS hl
      refine lv_iload_n hx hb dX2_become_6 rfl (lv_at hl 2 rfl) ?_
      refine lv_aload_n hx hb dX2_become_7 rfl (lv_at hl 1 rfl) ?_
      refine va_get (D := Z.1) (ci := 2) (v := .int (nI sz2)) (C := RX2) (T := TX2) (N := 3) hx hb hts iX2 hown hK hP 2 rfl rfl 2 (Nat.le_of_ble_eq_true rfl) qq_282 (fun _ h9 => h9) rfl dX2_become_8 ?_
      refine ln_icmp_ge (tgt := 29) hx hb dX2_become_11 (by decide) (by omega) (by omega) (fun h11 => ?_) (fun h11 => ?_)
      · exact x_vret hC hr hk hP hD hS dX2_become_29 ⟨hd1, g1, by rw [List.take_of_length_le (by omega)] at hR1; exact hR1, by rw [show sz1 = sz2 by omega]⟩
      · refine lv_aload_n hx hb dX2_become_14 rfl (lv_at hl 0 rfl) ?_
        refine lv_aload_n hx hb dX2_become_15 rfl (lv_at hl 1 rfl) ?_
        refine lv_iload_n hx hb dX2_become_16 rfl (lv_at hl 2 rfl) ?_
        refine x_Vi (y := yX2_get) (As := [.int (nI k)]) (wc := [(h2, .inr (2, [.ref a2, .int (nI hd2), .int (nI sz2)])), (a2, xI Z N2 g2)]) (wr := [(h, .inr (2, [.ref a, .int (nI hd1), .int (nI sz1)])), (a, xI Z N g1)]) hC hP hD hS (c_X2_get_in l Z h2 a2 N2 hd2 sz2 g2 L2 (by omega) hR2 hsz2 k (by omega)) (gV wq_524 wq_567 wq_522 wq_523 wq_43) rfl kv_X2_get rfl rfl ⟨rfl, rfl⟩ rfl hl.1 rfl ⟨Nat.le_of_ble_eq_true rfl, Nat.le_of_ble_eq_true rfl⟩ [2, 3] [0, 1] rfl rfl (by decide) (by decide) (by decide) rfl dX2_become_17 (fun r17 w1 H locs hw hP hD hS => ?_)
        obtain ⟨rfl, rfl⟩ := hw
        have hP : va_P Z.1 vwCl [(h, .inr (2, [.ref a, .int (nI hd1), .int (nI sz1)])), (a, xI Z N g1), (h2, .inr (2, [.ref a2, .int (nI hd2), .int (nI sz2)])), (a2, xI Z N2 g2)] H := hP
        have hD : va_D A [(h, .inr (2, [.ref a, .int (nI hd1), .int (nI sz1)])), (a, xI Z N g1), (h2, .inr (2, [.ref a2, .int (nI hd2), .int (nI sz2)])), (a2, xI Z N2 g2)] := hD
        refine x_Vv (y := yX2_append) (As := [.int (nI (L2.getD k 0))]) (wc := [(h, .inr (2, [.ref a, .int (nI hd1), .int (nI sz1)])), (a, xI Z N g1)]) (wr := [(h2, .inr (2, [.ref a2, .int (nI hd2), .int (nI sz2)])), (a2, xI Z N2 g2)]) hC hP hD hS (c_X2_append l Z h a N hd1 sz1 g1 (L2.take k) (by omega) hR1 (by rw [List.length_take]; omega) (L2.getD k 0) (by rw [List.length_take]; omega)) (gV wq_499 wq_568 wq_497 wq_498 wq_43) rfl kv_X2_append rfl rfl ⟨rfl, rfl⟩ rfl hl.1 rfl ⟨Nat.le_of_ble_eq_true rfl, Nat.le_of_ble_eq_true rfl⟩ [0, 1] [2, 3] rfl rfl (by decide) (by decide) (by decide) rfl dX2_become_20 (fun w1 H locs hw hP hD hS => ?_)
        obtain ⟨g3, hg3, rfl⟩ := hw
        have hP := hP.sub (ws' := [(h, .inr (2, [.ref a, .int (nI hd1), .int (nI (sz1 + 1))])), (a, xI Z N g3), (h2, .inr (2, [.ref a2, .int (nI hd2), .int (nI sz2)])), (a2, xI Z N2 g2)]) [2, 3, 0, 1] rfl
        have hD := hD.sub (ws' := [(h, .inr (2, [.ref a, .int (nI hd1), .int (nI (sz1 + 1))])), (a, xI Z N g3), (h2, .inr (2, [.ref a2, .int (nI hd2), .int (nI sz2)])), (a2, xI Z N2 g2)]) [2, 3, 0, 1] (by decide) rfl
        refine ln_iinc (k0 := 2) (k := 1) (k + 1) (lv' := [(2, .int (nI (k + 1))), (0, .ref h), (1, .ref h2)]) hx hb dX2_become_23 hl rfl rfl (by first | rfl | omega) (by decide) rfl (fun ls hl => ?_)
        refine lv_goto (tgt := 6) hx hb dX2_become_26 (by decide) ?_
        exact ih  (k + 1) hd1 (sz1 + 1) g3 _ _ _ (by omega) (by rw [List.take_succ_eq_append_getElem (show k < L2.length by omega)]; rw [List.getD_eq_getElem?_getD, List.getElem?_eq_getElem (show k < L2.length by omega)] at hg3; exact hg3) (by omega) (by omega) hP hD hS (lv_sub hl [1, 2, 0] rfl)
  exact hloop6 ((L2.length - 0) + 1) 0 0 0 g _ _ _ (Nat.zero_le _) (RR.nil (by omega)) rfl (Nat.lt_succ_self _) hP hD hS (lv_sub hl [1, 2, 0] rfl)
