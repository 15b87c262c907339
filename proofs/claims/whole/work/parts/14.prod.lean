/-- the two rows of the productions hold T -/
def TR (T : Nat → List Nat) (sz lt : Nat → Nat) : Prop := ∀ c, c < 121 → sz c = (T c).length ∧ (T c).length ≤ 4 ∧ ∀ j, j < (T c).length → lt (c * 4 + j) = (T c).getD j 0
theorem getD_push (l : List Nat) (x j : Nat) : (l ++ [x]).getD j 0 = if j < l.length then l.getD j 0 else if j = l.length then x else 0 := by
  simp only [List.getD_eq_getElem?_getD]
  by_cases h : j < l.length
  · rw [List.getElem?_append_left h, if_pos h]
  · rw [if_neg h, List.getElem?_append_right (by omega)]
    by_cases h2 : j = l.length
    · subst h2; simp
    · rw [if_neg h2, List.getElem?_eq_none (by simp; omega)]; rfl
theorem TR.app {T : Nat → List Nat} {sz lt : Nat → Nat} (h : TR T sz lt) {o : Nat} (ho : o < 121) (hl : (T o).length < 4) (x : Nat) : TR (va_up T o (T o ++ [x])) (va_up sz o (sz o + 1)) (va_up lt (o * 4 + sz o) x) := by
  intro c hc
  have h0 := (h o ho).1
  by_cases e : c = o
  · subst e
    rw [va_up_self, va_up_self]
    simp only [List.length_append, List.length_cons, List.length_nil]
    refine ⟨by omega, by omega, fun j hj => ?_⟩
    show (if c * 4 + j = c * 4 + sz c then x else lt (c * 4 + j)) = _
    rw [getD_push]
    by_cases e2 : j = (T c).length
    · rw [if_pos (by omega), if_neg (by omega), if_pos e2]
    · rw [if_neg (by omega), if_pos (by omega)]
      exact (h c hc).2.2 j (by omega)
  · simp only [va_up, if_neg e]
    obtain ⟨h1, h2, h3⟩ := h c hc
    refine ⟨h1, h2, fun j hj => ?_⟩
    rw [if_neg (by omega)]
    exact h3 j hj
theorem TR.congr {T T' : Nat → List Nat} {sz lt : Nat → Nat} (h : TR T sz lt) (e : ∀ c, c < 121 → T' c = T c) : TR T' sz lt := by
  intro c hc
  rw [e c hc]
  exact h c hc
theorem TR.cut {T : Nat → List Nat} {sz lt : Nat → Nat} (h : TR T sz lt) (o : Nat) : TR (va_up T o []) (va_up sz o 0) lt := by
  intro c hc
  unfold va_up
  split
  · exact ⟨rfl, by simp, fun j hj => by simp at hj⟩
  · exact h c hc
def tapp (T : Nat → List Nat) (t : Nat) : List Nat := if t < 121 then T t else []
theorem tapp_in {T : Nat → List Nat} {t : Nat} (h : t < 121) : tapp T t = T t := if_pos h
theorem tapp_out {T : Nat → List Nat} {t : Nat} (h : 121 ≤ t) : tapp T t = [] := if_neg (by omega)
def xnum (k q : Nat) : Nat := if k = 0 then 0 else if k = 100 then 0 else q * 20 + k
def xpm (b q t : Nat) : Nat := if b = 48 then 2 * t else if b = 49 then 2 * t + 1 else q
def xap (T : Nat → List Nat) (o c : Nat) : Nat → List Nat := if (T o).length < 4 then va_up T o (T o ++ [c]) else T
def xbe (i j : Nat) : Nat := if j + 1 < xTl.getD i 0 then xby i (j + 1) else 32
def xki (i j : Nat) : Nat := xfn (xby i j) 21 0
/-- what one sign of a text does: the letter that is written to, all productions -/
def xws (i q t j : Nat) (S : Nat × (Nat → List Nat)) : Nat × (Nat → List Nat) :=
  if xbe i j = 58 then (xnum (xki i j) q, S.2) else if xki i j = 100 then S else (S.1, xap S.2 S.1 (xnum (xki i j) (xpm (xbe i j) q t)))
def xwl (i q t : Nat) : Nat → Nat × (Nat → List Nat) → Nat × (Nat → List Nat)
  | 0, S => S
  | j + 1, S => xws i q t j (xwl i q t j S)
theorem xfn_le (c : Nat) : ∀ n j, xfn c n j < j + n ∨ xfn c n j = 100
  | 0, j => Or.inr rfl
  | n + 1, j => by
    unfold xfn
    split
    · exact Or.inl (by omega)
    · rcases xfn_le c n (j + 1) with h | h
      · exact Or.inl (by omega)
      · exact Or.inr h
theorem xki_le (i j : Nat) : xki i j < 21 ∨ xki i j = 100 := by
  have := xfn_le (xby i j) 21 0
  unfold xki
  omega
theorem xnum_le {k q : Nat} (hk : k < 21 ∨ k = 100) (hq : q < 6) : xnum k q < 121 := by
  unfold xnum
  split
  · omega
  · split <;> omega
theorem xpm_le {b q t : Nat} (hq : q < 6) (ht : t < 3) : xpm b q t < 6 := by
  unfold xpm
  split
  · omega
  · split <;> omega

set_option maxHeartbeats 4000000 in
set_option maxRecDepth 100000 in
theorem c_number (l : Launch) (Z : xZ) (k q : Nat) (hk2 : k < 21) (hq : q < 100) : xMi l Z yX4_number vX4_number ({ frames := 0, cells := 0, slots := 0, locals := 0 } : Room) [.int (nI k), .int (nI q)] [] (fun r w => r = nI (xnum k q) ∧ w = []) := by
  refine x_i (by decide) rfl (Nat.le_of_ble_eq_true rfl) ?_
  intro p e s m args below meth c ls A hC hr hk hl hP hD hS
  have hx := hC.1.1
  have hb := hC.1.2.1
  have hml := hC.1.2.2.1
  have hown : s.vm.findClass RX4 = some m.cls := hC.1.2.2.2.1
  have hts := hC.1.2.2.2.2
  have hK := hC.2.1
  have hl : lv_has ls 2 [(0, .int (nI k)), (1, .int (nI q))] := hl
  have hP : va_P Z.1 vwCl [] s.heap := hP
  have hD : va_D A [] := hD
  refine lv_iload_n hx hb dX4_number_0 rfl (lv_at hl 0 rfl) ?_
  refine ln_if_gt (tgt := 8) hx hb dX4_number_1 (by decide) (by omega) (fun h1 => ?_) (fun h1 => ?_)
  · refine lv_iload_n hx hb dX4_number_8 rfl (lv_at hl 1 rfl) ?_
    refine ln_bipush 20 hx hb dX4_number_9 (by decide) ?_
    refine ln_imul (q * 20) hx hb dX4_number_11 (by first | rfl | omega) ?_
    refine lv_iload_n hx hb dX4_number_12 rfl (lv_at hl 0 rfl) ?_
    refine ln_iadd ((q * 20) + k) hx hb dX4_number_13 (by first | rfl | omega) ?_
    exact x_iret hC hr hk hP hD hS dX4_number_14 ⟨by unfold xnum; rw [if_neg (by omega), if_neg (by omega)], rfl⟩
  · refine ln_const 0 hx hb dX4_number_4 (by decide) ?_
    refine lv_goto (tgt := 14) hx hb dX4_number_5 (by decide) ?_
    exact x_iret hC hr hk hP hD hS dX4_number_14 ⟨by subst h1; rfl, rfl⟩

set_option maxHeartbeats 4000000 in
set_option maxRecDepth 100000 in
theorem c_number_no (l : Launch) (Z : xZ) (q : Nat) (hq : q < 100) : xMi l Z yX4_number vX4_number ({ frames := 0, cells := 0, slots := 0, locals := 0 } : Room) [.int ((-1)), .int (nI q)] [] (fun r w => r = nI (xnum 100 q) ∧ w = []) := by
  refine x_i (by decide) rfl (Nat.le_of_ble_eq_true rfl) ?_
  intro p e s m args below meth c ls A hC hr hk hl hP hD hS
  have hx := hC.1.1
  have hb := hC.1.2.1
  have hml := hC.1.2.2.1
  have hown : s.vm.findClass RX4 = some m.cls := hC.1.2.2.2.1
  have hts := hC.1.2.2.2.2
  have hK := hC.2.1
  have hl : lv_has ls 2 [(0, .int ((-1))), (1, .int (nI q))] := hl
  have hP : va_P Z.1 vwCl [] s.heap := hP
  have hD : va_D A [] := hD
  refine lv_iload_n hx hb dX4_number_0 rfl (lv_at hl 0 rfl) ?_
  refine lv_if_gt (tgt := 8) hx hb dX4_number_1 (by decide) (fun h1 => False.elim (by revert h1; decide)) (fun h1 => ?_)
  refine ln_const 0 hx hb dX4_number_4 (by decide) ?_
  refine lv_goto (tgt := 14) hx hb dX4_number_5 (by decide) ?_
  exact x_iret hC hr hk hP hD hS dX4_number_14 ⟨rfl, rfl⟩

set_option maxHeartbeats 4000000 in
set_option maxRecDepth 100000 in
theorem c_pairMarked (l : Launch) (Z : xZ) (b q t : Nat) (hb2 : b < 128) (ht : t < 100) : xMi l Z yX4_pairMarked vX4_pairMarked ({ frames := 1, cells := 0, slots := 0, locals := 21 } : Room) [.int (nI b), .int (nI q), .int (nI t)] [] (fun r w => r = nI (xpm b q t) ∧ w = []) := by
  refine x_i (by decide) rfl (Nat.le_of_ble_eq_true rfl) ?_
  intro p e s m args below meth c ls A hC hr hk hl hP hD hS
  have hx := hC.1.1
  have hb := hC.1.2.1
  have hml := hC.1.2.2.1
  have hown : s.vm.findClass RX4 = some m.cls := hC.1.2.2.2.1
  have hts := hC.1.2.2.2.2
  have hK := hC.2.1
  have qq_32 := hts (Cond.initialized RX6) (List.mem_cons_of_mem _ wq_32)
  have qq_252 := hts (Cond.static yX6_pairOf) (List.mem_cons_of_mem _ wq_252)
  have qn_68 := hC.2.2.2.1.1 (RX4, 68, yX6_pairOf, RX6) (List.mem_of_getElem? (i := 2) rfl)
  have hl : lv_has ls 3 [(0, .int (nI b)), (1, .int (nI q)), (2, .int (nI t))] := hl
  have hP : va_P Z.1 vwCl [] s.heap := hP
  have hD : va_D A [] := hD
  refine lv_iload_n hx hb dX4_pairMarked_0 rfl (lv_at hl 0 rfl) ?_
  refine ln_bipush 48 hx hb dX4_pairMarked_1 (by decide) ?_
  refine ln_icmp_ne (tgt := 12) hx hb dX4_pairMarked_3 (by decide) (by omega) (by omega) (fun h3 => ?_) (fun h3 => ?_)
  · refine lv_iload_n hx hb dX4_pairMarked_12 rfl (lv_at hl 0 rfl) ?_
    refine ln_bipush 49 hx hb dX4_pairMarked_13 (by decide) ?_
    refine ln_icmp_ne (tgt := 26) hx hb dX4_pairMarked_15 (by decide) (by omega) (by omega) (fun h15 => ?_) (fun h15 => ?_)
    · refine lv_iload_n hx hb dX4_pairMarked_26 rfl (lv_at hl 1 rfl) ?_
      exact x_iret hC hr hk hP hD hS dX4_pairMarked_27 ⟨by unfold xpm; rw [if_neg h3, if_neg h15], rfl⟩
    · refine lv_iload_n hx hb dX4_pairMarked_18 rfl (lv_at hl 2 rfl) ?_
      refine ln_const 1 hx hb dX4_pairMarked_19 (by decide) ?_
      refine x_SNi (y := yX6_pairOf) (As := [.int (nI t), .int (nI 1)]) (wc := []) (wr := []) hC hP hD hS (c_X6_pairOf l Z t 1) (gCo wq_253) qn_68 qq_32 qq_252 rfl ks_X6_pairOf ⟨rfl, rfl⟩ rfl hl.1 rfl ⟨Nat.le_of_ble_eq_true rfl, Nat.le_of_ble_eq_true rfl⟩ ([] : List Nat) ([] : List Nat) rfl rfl (by decide) (by decide) (by decide) rfl dX4_pairMarked_20 (fun r20 w1 H locs hw hP hD hS => ?_)
      obtain ⟨rfl, rfl⟩ := hw
      have hP : va_P Z.1 vwCl [] H := hP
      have hD : va_D A [] := hD
      refine lv_goto (tgt := 27) hx hb dX4_pairMarked_23 (by decide) ?_
      exact x_iret hC hr hk hP hD hS dX4_pairMarked_27 ⟨by unfold xpm; rw [if_neg h3, if_pos h15], rfl⟩
  · refine lv_iload_n hx hb dX4_pairMarked_6 rfl (lv_at hl 2 rfl) ?_
    refine ln_const 0 hx hb dX4_pairMarked_7 (by decide) ?_
    refine x_SNi (y := yX6_pairOf) (As := [.int (nI t), .int (nI 0)]) (wc := []) (wr := []) hC hP hD hS (c_X6_pairOf l Z t 0) (gCo wq_253) qn_68 qq_32 qq_252 rfl ks_X6_pairOf ⟨rfl, rfl⟩ rfl hl.1 rfl ⟨Nat.le_of_ble_eq_true rfl, Nat.le_of_ble_eq_true rfl⟩ ([] : List Nat) ([] : List Nat) rfl rfl (by decide) (by decide) (by decide) rfl dX4_pairMarked_8 (fun r8 w1 H locs hw hP hD hS => ?_)
    obtain ⟨rfl, rfl⟩ := hw
    have hP : va_P Z.1 vwCl [] H := hP
    have hD : va_D A [] := hD
    exact x_iret hC hr hk hP hD hS dX4_pairMarked_11 ⟨by unfold xpm; rw [if_pos h3]; rfl, rfl⟩

set_option maxHeartbeats 4000000 in
set_option maxRecDepth 100000 in
theorem c_X4_append (l : Launch) (Z : xZ) (hp s0 s1 : Nat) (sz lt : Nat → Nat) (T : Nat → List Nat) (hT : TR T sz lt) (o c1 : Nat) (ho : o < 121) : xMv l Z yX4_append vX4_append ({ frames := 0, cells := 0, slots := 0, locals := 0 } : Room) [.ref hp, .int (nI o), .int (nI c1)] [(hp, .inr (4, [.ref s0, .ref s1])), (s0, xI Z 121 sz), (s1, xI Z 484 lt)] (fun w => ∃ sz2 lt2, TR (xap T o c1) sz2 lt2 ∧ w = [(hp, .inr (4, [.ref s0, .ref s1])), (s0, xI Z 121 sz2), (s1, xI Z 484 lt2)]) := by
  refine x_v (by decide) rfl (Nat.le_of_ble_eq_true rfl) ?_
  intro p e s m args below meth c ls A hC hr hk hname hl hP hD hS
  have hx := hC.1.1
  have hb := hC.1.2.1
  have hml := hC.1.2.2.1
  have hown : s.vm.findClass RX4 = some m.cls := hC.1.2.2.2.1
  have hts := hC.1.2.2.2.2
  have hK := hC.2.1
  have qq_258 := hts (Cond.fieldLink RX4 9 "TagTower$Productions" "sizes" "[I") (List.mem_cons_of_mem _ wq_258)
  have iX4 : ∀ w ∈ wsX40, w ∈ vX4_append := fun w h => List.mem_cons_of_mem _ (wi_X4 w h)
  have qq_259 := hts (Cond.fieldLink RX4 15 "TagTower$Productions" "letters" "[I") (List.mem_cons_of_mem _ wq_259)
  have hl : lv_has ls 3 [(0, .ref hp), (1, .int (nI o)), (2, .int (nI c1))] := hl
  have hP : va_P Z.1 vwCl [(hp, .inr (4, [.ref s0, .ref s1])), (s0, xI Z 121 sz), (s1, xI Z 484 lt)] s.heap := hP
  have hD : va_D A [(hp, .inr (4, [.ref s0, .ref s1])), (s0, xI Z 121 sz), (s1, xI Z 484 lt)] := hD
  obtain ⟨t1, t2, t3⟩ := hT o ho
  refine lv_aload_n hx hb dX4_append_0 rfl (lv_at hl 0 rfl) ?_
  refine va_get (D := Z.1) (ci := 4) (v := .ref s0) (C := RX4) (T := TX4) (N := 2) hx hb hts iX4 hown hK hP 0 rfl rfl 0 (Nat.le_of_ble_eq_true rfl) qq_258 (fun _ h9 => h9) rfl dX4_append_1 ?_
  refine lv_iload_n hx hb dX4_append_4 rfl (lv_at hl 1 rfl) ?_
  refine ln_iald hx hb hK hP 1 rfl (by omega) (by omega) dX4_append_5 ?_
  refine ln_const 4 hx hb dX4_append_6 (by decide) ?_
  refine ln_icmp_ge (tgt := 36) hx hb dX4_append_7 (by decide) (by omega) (by omega) (fun h7 => ?_) (fun h7 => ?_)
  · exact x_vret hC hr hk hP hD hS dX4_append_36 ⟨_, _, by unfold xap; rw [if_neg (by omega)]; exact hT, rfl⟩
  · refine lv_aload_n hx hb dX4_append_10 rfl (lv_at hl 0 rfl) ?_
    refine va_get (D := Z.1) (ci := 4) (v := .ref s1) (C := RX4) (T := TX4) (N := 2) hx hb hts iX4 hown hK hP 0 rfl rfl 1 (Nat.le_of_ble_eq_true rfl) qq_259 (fun _ h9 => h9) rfl dX4_append_11 ?_
    refine lv_iload_n hx hb dX4_append_14 rfl (lv_at hl 1 rfl) ?_
    refine ln_const 4 hx hb dX4_append_15 (by decide) ?_
    refine ln_imul (o * 4) hx hb dX4_append_16 (by first | rfl | omega) ?_
    refine lv_aload_n hx hb dX4_append_17 rfl (lv_at hl 0 rfl) ?_
    refine va_get (D := Z.1) (ci := 4) (v := .ref s0) (C := RX4) (T := TX4) (N := 2) hx hb hts iX4 hown hK hP 0 rfl rfl 0 (Nat.le_of_ble_eq_true rfl) qq_258 (fun _ h9 => h9) rfl dX4_append_18 ?_
    refine lv_iload_n hx hb dX4_append_21 rfl (lv_at hl 1 rfl) ?_
    refine ln_iald hx hb hK hP 1 rfl (by omega) (by omega) dX4_append_22 ?_
    refine ln_iadd ((o * 4) + (sz o)) hx hb dX4_append_23 (by first | rfl | omega) ?_
    refine lv_iload_n hx hb dX4_append_24 rfl (lv_at hl 2 rfl) ?_
    refine ln_iast hx hb hK hP hD hS 2 rfl (by omega) (by omega) dX4_append_25 (fun H locs hP hD hS => ?_)
    have hP : va_P Z.1 vwCl [(hp, .inr (4, [.ref s0, .ref s1])), (s0, xI Z 121 sz), (s1, xI Z 484 (va_up lt ((o * 4) + (sz o)) c1))] H := hP
    have hD : va_D A [(hp, .inr (4, [.ref s0, .ref s1])), (s0, xI Z 121 sz), (s1, xI Z 484 (va_up lt ((o * 4) + (sz o)) c1))] := hD
    refine lv_aload_n hx hb dX4_append_26 rfl (lv_at hl 0 rfl) ?_
    refine va_get (D := Z.1) (ci := 4) (v := .ref s0) (C := RX4) (T := TX4) (N := 2) hx hb hts iX4 hown hK hP 0 rfl rfl 0 (Nat.le_of_ble_eq_true rfl) qq_258 (fun _ h9 => h9) rfl dX4_append_27 ?_
    refine lv_iload_n hx hb dX4_append_30 rfl (lv_at hl 1 rfl) ?_
    refine lv_dup2_11 hx hb dX4_append_31 rfl rfl ?_
    refine ln_iald hx hb hK hP 1 rfl (by omega) (by omega) dX4_append_32 ?_
    refine ln_const 1 hx hb dX4_append_33 (by decide) ?_
    refine ln_iadd ((sz o) + 1) hx hb dX4_append_34 (by first | rfl | omega) ?_
    refine ln_iast hx hb hK hP hD hS 1 rfl (by omega) (by omega) dX4_append_35 (fun H locs hP hD hS => ?_)
    have hP : va_P Z.1 vwCl [(hp, .inr (4, [.ref s0, .ref s1])), (s0, xI Z 121 (va_up sz o ((sz o) + 1))), (s1, xI Z 484 (va_up lt ((o * 4) + (sz o)) c1))] H := hP
    have hD : va_D A [(hp, .inr (4, [.ref s0, .ref s1])), (s0, xI Z 121 (va_up sz o ((sz o) + 1))), (s1, xI Z 484 (va_up lt ((o * 4) + (sz o)) c1))] := hD
    exact x_vret hC hr hk hP hD hS dX4_append_36 ⟨_, _, by unfold xap; rw [if_pos (by omega)]; exact hT.app ho (by omega) c1, rfl⟩

set_option maxHeartbeats 4000000 in
set_option maxRecDepth 100000 in
theorem c_sizeOf (l : Launch) (Z : xZ) (hp s0 s1 : Nat) (sz lt : Nat → Nat) (T : Nat → List Nat) (hT : TR T sz lt) (t : Nat) (ht : t < 1000) : xMi l Z yX4_sizeOf vX4_sizeOf ({ frames := 1, cells := 0, slots := 0, locals := 22 } : Room) [.ref hp, .int (nI t)] [(hp, .inr (4, [.ref s0, .ref s1])), (s0, xI Z 121 sz), (s1, xI Z 484 lt)] (fun r w => r = nI (tapp T t).length ∧ w = [(hp, .inr (4, [.ref s0, .ref s1])), (s0, xI Z 121 sz), (s1, xI Z 484 lt)]) := by
  refine x_i (by decide) rfl (Nat.le_of_ble_eq_true rfl) ?_
  intro p e s m args below meth c ls A hC hr hk hl hP hD hS
  have hx := hC.1.1
  have hb := hC.1.2.1
  have hml := hC.1.2.2.1
  have hown : s.vm.findClass RX4 = some m.cls := hC.1.2.2.2.1
  have hts := hC.1.2.2.2.2
  have hK := hC.2.1
  have qq_32 := hts (Cond.initialized RX6) (List.mem_cons_of_mem _ wq_32)
  have qq_338 := hts (Cond.static yX6_outside) (List.mem_cons_of_mem _ wq_338)
  have qn_71 := hC.2.2.2.1.1 (RX4, 71, yX6_outside, RX6) (List.mem_of_getElem? (i := 7) rfl)
  have qq_258 := hts (Cond.fieldLink RX4 9 "TagTower$Productions" "sizes" "[I") (List.mem_cons_of_mem _ wq_258)
  have iX4 : ∀ w ∈ wsX40, w ∈ vX4_sizeOf := fun w h => List.mem_cons_of_mem _ (wi_X4 w h)
  have hl : lv_has ls 2 [(0, .ref hp), (1, .int (nI t))] := hl
  have hP : va_P Z.1 vwCl [(hp, .inr (4, [.ref s0, .ref s1])), (s0, xI Z 121 sz), (s1, xI Z 484 lt)] s.heap := hP
  have hD : va_D A [(hp, .inr (4, [.ref s0, .ref s1])), (s0, xI Z 121 sz), (s1, xI Z 484 lt)] := hD
  rcases Nat.lt_or_ge t 121 with ht1 | ht1
  · refine lv_iload_n hx hb dX4_sizeOf_0 rfl (lv_at hl 1 rfl) ?_
    refine ln_const 0 hx hb dX4_sizeOf_1 (by decide) ?_
    refine ln_bipush 120 hx hb dX4_sizeOf_2 (by decide) ?_
    refine x_SNi (y := yX6_outside) (As := [.int (nI t), .int (nI 0), .int (nI 120)]) (wc := []) (wr := [(hp, .inr (4, [.ref s0, .ref s1])), (s0, xI Z 121 sz), (s1, xI Z 484 lt)]) hC hP hD hS (c_out_in l Z (nI t) (nI 0) (nI 120) (o_in (by omega) (by omega) (by omega))) (gCo wq_339) qn_71 qq_32 qq_338 rfl ks_X6_outside ⟨rfl, rfl⟩ rfl hl.1 rfl ⟨Nat.le_of_ble_eq_true rfl, Nat.le_of_ble_eq_true rfl⟩ ([] : List Nat) [0, 1, 2] rfl rfl (by decide) (by decide) (by decide) rfl dX4_sizeOf_4 (fun r4 w1 H locs hw hP hD hS => ?_)
    obtain ⟨rfl, rfl⟩ := hw
    have hP : va_P Z.1 vwCl [(hp, .inr (4, [.ref s0, .ref s1])), (s0, xI Z 121 sz), (s1, xI Z 484 lt)] H := hP
    have hD : va_D A [(hp, .inr (4, [.ref s0, .ref s1])), (s0, xI Z 121 sz), (s1, xI Z 484 lt)] := hD
    refine ln_if_eq (tgt := 14) hx hb dX4_sizeOf_7 (by decide) (by omega) (fun h7 => ?_) (fun h7 => False.elim (by omega))
    refine lv_aload_n hx hb dX4_sizeOf_14 rfl (lv_at hl 0 rfl) ?_
    refine va_get (D := Z.1) (ci := 4) (v := .ref s0) (C := RX4) (T := TX4) (N := 2) hx hb hts iX4 hown hK hP 0 rfl rfl 0 (Nat.le_of_ble_eq_true rfl) qq_258 (fun _ h9 => h9) rfl dX4_sizeOf_15 ?_
    refine lv_iload_n hx hb dX4_sizeOf_18 rfl (lv_at hl 1 rfl) ?_
    refine ln_iald hx hb hK hP 1 rfl (by omega) (by omega) dX4_sizeOf_19 ?_
    exact x_iret hC hr hk hP hD hS dX4_sizeOf_20 ⟨by rw [tapp_in ht1, (hT t ht1).1], rfl⟩
  · refine lv_iload_n hx hb dX4_sizeOf_0 rfl (lv_at hl 1 rfl) ?_
    refine ln_const 0 hx hb dX4_sizeOf_1 (by decide) ?_
    refine ln_bipush 120 hx hb dX4_sizeOf_2 (by decide) ?_
    refine x_SNi (y := yX6_outside) (As := [.int (nI t), .int (nI 0), .int (nI 120)]) (wc := []) (wr := [(hp, .inr (4, [.ref s0, .ref s1])), (s0, xI Z 121 sz), (s1, xI Z 484 lt)]) hC hP hD hS (c_out_out l Z (nI t) (nI 0) (nI 120) (by rw [nI_toInt (by omega), nI_toInt (by omega), nI_toInt (by omega)]; omega)) (gCo wq_339) qn_71 qq_32 qq_338 rfl ks_X6_outside ⟨rfl, rfl⟩ rfl hl.1 rfl ⟨Nat.le_of_ble_eq_true rfl, Nat.le_of_ble_eq_true rfl⟩ ([] : List Nat) [0, 1, 2] rfl rfl (by decide) (by decide) (by decide) rfl dX4_sizeOf_4 (fun r4 w1 H locs hw hP hD hS => ?_)
    obtain ⟨rfl, rfl⟩ := hw
    have hP : va_P Z.1 vwCl [(hp, .inr (4, [.ref s0, .ref s1])), (s0, xI Z 121 sz), (s1, xI Z 484 lt)] H := hP
    have hD : va_D A [(hp, .inr (4, [.ref s0, .ref s1])), (s0, xI Z 121 sz), (s1, xI Z 484 lt)] := hD
    refine ln_if_eq (tgt := 14) hx hb dX4_sizeOf_7 (by decide) (by omega) (fun h7 => False.elim (by omega)) (fun h7 => ?_)
    refine ln_const 0 hx hb dX4_sizeOf_10 (by decide) ?_
    refine lv_goto (tgt := 20) hx hb dX4_sizeOf_11 (by decide) ?_
    exact x_iret hC hr hk hP hD hS dX4_sizeOf_20 ⟨by rw [tapp_out ht1]; rfl, rfl⟩

set_option maxHeartbeats 4000000 in
set_option maxRecDepth 100000 in
theorem c_sizeOf_no (l : Launch) (Z : xZ) (hp s0 s1 : Nat) (sz lt : Nat → Nat) : xMi l Z yX4_sizeOf vX4_sizeOf ({ frames := 1, cells := 0, slots := 0, locals := 22 } : Room) [.ref hp, .int ((-9))] [(hp, .inr (4, [.ref s0, .ref s1])), (s0, xI Z 121 sz), (s1, xI Z 484 lt)] (fun r w => r = nI 0 ∧ w = [(hp, .inr (4, [.ref s0, .ref s1])), (s0, xI Z 121 sz), (s1, xI Z 484 lt)]) := by
  refine x_i (by decide) rfl (Nat.le_of_ble_eq_true rfl) ?_
  intro p e s m args below meth c ls A hC hr hk hl hP hD hS
  have hx := hC.1.1
  have hb := hC.1.2.1
  have hml := hC.1.2.2.1
  have hown : s.vm.findClass RX4 = some m.cls := hC.1.2.2.2.1
  have hts := hC.1.2.2.2.2
  have hK := hC.2.1
  have qq_32 := hts (Cond.initialized RX6) (List.mem_cons_of_mem _ wq_32)
  have qq_338 := hts (Cond.static yX6_outside) (List.mem_cons_of_mem _ wq_338)
  have qn_71 := hC.2.2.2.1.1 (RX4, 71, yX6_outside, RX6) (List.mem_of_getElem? (i := 7) rfl)
  have hl : lv_has ls 2 [(0, .ref hp), (1, .int ((-9)))] := hl
  have hP : va_P Z.1 vwCl [(hp, .inr (4, [.ref s0, .ref s1])), (s0, xI Z 121 sz), (s1, xI Z 484 lt)] s.heap := hP
  have hD : va_D A [(hp, .inr (4, [.ref s0, .ref s1])), (s0, xI Z 121 sz), (s1, xI Z 484 lt)] := hD
  refine lv_iload_n hx hb dX4_sizeOf_0 rfl (lv_at hl 1 rfl) ?_
  refine ln_const 0 hx hb dX4_sizeOf_1 (by decide) ?_
  refine ln_bipush 120 hx hb dX4_sizeOf_2 (by decide) ?_
  refine x_SNi (y := yX6_outside) (As := [.int ((-9)), .int (nI 0), .int (nI 120)]) (wc := []) (wr := [(hp, .inr (4, [.ref s0, .ref s1])), (s0, xI Z 121 sz), (s1, xI Z 484 lt)]) hC hP hD hS (c_out_out l Z ((-9)) (nI 0) (nI 120) (by decide)) (gCo wq_339) qn_71 qq_32 qq_338 rfl ks_X6_outside ⟨rfl, rfl⟩ rfl hl.1 rfl ⟨Nat.le_of_ble_eq_true rfl, Nat.le_of_ble_eq_true rfl⟩ ([] : List Nat) [0, 1, 2] rfl rfl (by decide) (by decide) (by decide) rfl dX4_sizeOf_4 (fun r4 w1 H locs hw hP hD hS => ?_)
  obtain ⟨rfl, rfl⟩ := hw
  have hP : va_P Z.1 vwCl [(hp, .inr (4, [.ref s0, .ref s1])), (s0, xI Z 121 sz), (s1, xI Z 484 lt)] H := hP
  have hD : va_D A [(hp, .inr (4, [.ref s0, .ref s1])), (s0, xI Z 121 sz), (s1, xI Z 484 lt)] := hD
  refine ln_if_eq (tgt := 14) hx hb dX4_sizeOf_7 (by decide) (by omega) (fun h7 => False.elim (by omega)) (fun h7 => ?_)
  refine ln_const 0 hx hb dX4_sizeOf_10 (by decide) ?_
  refine lv_goto (tgt := 20) hx hb dX4_sizeOf_11 (by decide) ?_
  exact x_iret hC hr hk hP hD hS dX4_sizeOf_20 ⟨rfl, rfl⟩

theorem kv_X4_sizeOf : yX4_sizeOf.cls = RX4 ∧ yX4_sizeOf.cls ≠ "java/lang/invoke/MethodHandle" ∧ yX4_sizeOf.cls ≠ "java/lang/invoke/VarHandle" ∧ (parseMethodDescriptor yX4_sizeOf.desc).map (fun d => d.parameters.length) = some 1 := by decide +kernel
set_option maxHeartbeats 4000000 in
set_option maxRecDepth 100000 in
theorem c_letterAt_in (l : Launch) (Z : xZ) (hp s0 s1 : Nat) (sz lt : Nat → Nat) (T : Nat → List Nat) (hT : TR T sz lt) (c1 j : Nat) (hc1 : c1 < 121) (hj : j < (T c1).length) : xMi l Z yX4_letterAt vX4_letterAt ({ frames := 2, cells := 0, slots := 0, locals := 43 } : Room) [.ref hp, .int (nI c1), .int (nI j)] [(hp, .inr (4, [.ref s0, .ref s1])), (s0, xI Z 121 sz), (s1, xI Z 484 lt)] (fun r w => r = nI ((T c1).getD j 0) ∧ w = [(hp, .inr (4, [.ref s0, .ref s1])), (s0, xI Z 121 sz), (s1, xI Z 484 lt)]) := by
  refine x_i (by decide) rfl (Nat.le_of_ble_eq_true rfl) ?_
  intro p e s m args below meth c ls A hC hr hk hl hP hD hS
  have hx := hC.1.1
  have hb := hC.1.2.1
  have hml := hC.1.2.2.1
  have hown : s.vm.findClass RX4 = some m.cls := hC.1.2.2.2.1
  have hts := hC.1.2.2.2.2
  have hK := hC.2.1
  have qq_32 := hts (Cond.initialized RX6) (List.mem_cons_of_mem _ wq_32)
  have qq_338 := hts (Cond.static yX6_outside) (List.mem_cons_of_mem _ wq_338)
  have qn_71 := hC.2.2.2.1.1 (RX4, 71, yX6_outside, RX6) (List.mem_of_getElem? (i := 7) rfl)
  have qq_259 := hts (Cond.fieldLink RX4 15 "TagTower$Productions" "letters" "[I") (List.mem_cons_of_mem _ wq_259)
  have iX4 : ∀ w ∈ wsX40, w ∈ vX4_letterAt := fun w h => List.mem_cons_of_mem _ (wi_X4 w h)
  have hl : lv_has ls 3 [(0, .ref hp), (1, .int (nI c1)), (2, .int (nI j))] := hl
  have hP : va_P Z.1 vwCl [(hp, .inr (4, [.ref s0, .ref s1])), (s0, xI Z 121 sz), (s1, xI Z 484 lt)] s.heap := hP
  have hD : va_D A [(hp, .inr (4, [.ref s0, .ref s1])), (s0, xI Z 121 sz), (s1, xI Z 484 lt)] := hD
  obtain ⟨t1, t2, t3⟩ := hT c1 hc1
  have t4 := tapp_in (T := T) hc1
  refine lv_iload_n hx hb dX4_letterAt_0 rfl (lv_at hl 2 rfl) ?_
  refine ln_const 0 hx hb dX4_letterAt_1 (by decide) ?_
  refine lv_aload_n hx hb dX4_letterAt_2 rfl (lv_at hl 0 rfl) ?_
  refine lv_iload_n hx hb dX4_letterAt_3 rfl (lv_at hl 1 rfl) ?_
  refine x_Vi (y := yX4_sizeOf) (As := [.int (nI c1)]) (wc := [(hp, .inr (4, [.ref s0, .ref s1])), (s0, xI Z 121 sz), (s1, xI Z 484 lt)]) (wr := []) hC hP hD hS (c_sizeOf l Z hp s0 s1 sz lt T hT c1 (by omega)) (gV wq_478 wq_475 wq_476 wq_477 wq_35) rfl kv_X4_sizeOf rfl rfl ⟨rfl, rfl⟩ rfl hl.1 rfl ⟨Nat.le_of_ble_eq_true rfl, Nat.le_of_ble_eq_true rfl⟩ [0, 1, 2] ([] : List Nat) rfl rfl (by decide) (by decide) (by decide) rfl dX4_letterAt_4 (fun r4 w1 H locs hw hP hD hS => ?_)
  obtain ⟨rfl, rfl⟩ := hw
  have hP : va_P Z.1 vwCl [(hp, .inr (4, [.ref s0, .ref s1])), (s0, xI Z 121 sz), (s1, xI Z 484 lt)] H := hP
  have hD : va_D A [(hp, .inr (4, [.ref s0, .ref s1])), (s0, xI Z 121 sz), (s1, xI Z 484 lt)] := hD
  rw [t4]
  refine ln_const 1 hx hb dX4_letterAt_7 (by decide) ?_
  refine ln_isub (((T c1).length) - 1) hx hb dX4_letterAt_8 (by omega) (by first | rfl | omega) ?_
  refine x_SNi (y := yX6_outside) (As := [.int (nI j), .int (nI 0), .int (nI (((T c1).length) - 1))]) (wc := []) (wr := [(hp, .inr (4, [.ref s0, .ref s1])), (s0, xI Z 121 sz), (s1, xI Z 484 lt)]) hC hP hD hS (c_out_in l Z (nI j) (nI 0) (nI (((T c1).length) - 1)) (o_in (by omega) (by omega) (by omega))) (gCo wq_339) qn_71 qq_32 qq_338 rfl ks_X6_outside ⟨rfl, rfl⟩ rfl hl.1 rfl ⟨Nat.le_of_ble_eq_true rfl, Nat.le_of_ble_eq_true rfl⟩ ([] : List Nat) [0, 1, 2] rfl rfl (by decide) (by decide) (by decide) rfl dX4_letterAt_9 (fun r9 w1 H locs hw hP hD hS => ?_)
  obtain ⟨rfl, rfl⟩ := hw
  have hP : va_P Z.1 vwCl [(hp, .inr (4, [.ref s0, .ref s1])), (s0, xI Z 121 sz), (s1, xI Z 484 lt)] H := hP
  have hD : va_D A [(hp, .inr (4, [.ref s0, .ref s1])), (s0, xI Z 121 sz), (s1, xI Z 484 lt)] := hD
  refine ln_if_eq (tgt := 20) hx hb dX4_letterAt_12 (by decide) (by omega) (fun h12 => ?_) (fun h12 => False.elim (by omega))
  refine lv_aload_n hx hb dX4_letterAt_20 rfl (lv_at hl 0 rfl) ?_
  refine va_get (D := Z.1) (ci := 4) (v := .ref s1) (C := RX4) (T := TX4) (N := 2) hx hb hts iX4 hown hK hP 0 rfl rfl 1 (Nat.le_of_ble_eq_true rfl) qq_259 (fun _ h9 => h9) rfl dX4_letterAt_21 ?_
  refine lv_iload_n hx hb dX4_letterAt_24 rfl (lv_at hl 1 rfl) ?_
  refine ln_const 4 hx hb dX4_letterAt_25 (by decide) ?_
  refine ln_imul (c1 * 4) hx hb dX4_letterAt_26 (by first | rfl | omega) ?_
  refine lv_iload_n hx hb dX4_letterAt_27 rfl (lv_at hl 2 rfl) ?_
  refine ln_iadd ((c1 * 4) + j) hx hb dX4_letterAt_28 (by first | rfl | omega) ?_
  refine ln_iald hx hb hK hP 2 rfl (by omega) (by omega) dX4_letterAt_29 ?_
  exact x_iret hC hr hk hP hD hS dX4_letterAt_30 ⟨by rw [t3 j hj], rfl⟩

set_option maxHeartbeats 4000000 in
set_option maxRecDepth 100000 in
theorem c_letterAt_out (l : Launch) (Z : xZ) (hp s0 s1 : Nat) (sz lt : Nat → Nat) (T : Nat → List Nat) (hT : TR T sz lt) (c1 : Nat) (j : Int32) (hc1 : c1 < 121) (hj : ¬ (0 ≤ j.toInt ∧ j.toInt < ((T c1).length : Int))) : xMi l Z yX4_letterAt vX4_letterAt ({ frames := 2, cells := 0, slots := 0, locals := 43 } : Room) [.ref hp, .int (nI c1), .int j] [(hp, .inr (4, [.ref s0, .ref s1])), (s0, xI Z 121 sz), (s1, xI Z 484 lt)] (fun r w => r = -9 ∧ w = [(hp, .inr (4, [.ref s0, .ref s1])), (s0, xI Z 121 sz), (s1, xI Z 484 lt)]) := by
  refine x_i (by decide) rfl (Nat.le_of_ble_eq_true rfl) ?_
  intro p e s m args below meth c ls A hC hr hk hl hP hD hS
  have hx := hC.1.1
  have hb := hC.1.2.1
  have hml := hC.1.2.2.1
  have hown : s.vm.findClass RX4 = some m.cls := hC.1.2.2.2.1
  have hts := hC.1.2.2.2.2
  have hK := hC.2.1
  have qq_32 := hts (Cond.initialized RX6) (List.mem_cons_of_mem _ wq_32)
  have qq_338 := hts (Cond.static yX6_outside) (List.mem_cons_of_mem _ wq_338)
  have qn_71 := hC.2.2.2.1.1 (RX4, 71, yX6_outside, RX6) (List.mem_of_getElem? (i := 7) rfl)
  have hl : lv_has ls 3 [(0, .ref hp), (1, .int (nI c1)), (2, .int j)] := hl
  have hP : va_P Z.1 vwCl [(hp, .inr (4, [.ref s0, .ref s1])), (s0, xI Z 121 sz), (s1, xI Z 484 lt)] s.heap := hP
  have hD : va_D A [(hp, .inr (4, [.ref s0, .ref s1])), (s0, xI Z 121 sz), (s1, xI Z 484 lt)] := hD
  obtain ⟨t1, t2, t3⟩ := hT c1 hc1
  have t4 := tapp_in (T := T) hc1
  refine lv_iload_n hx hb dX4_letterAt_0 rfl (lv_at hl 2 rfl) ?_
  refine ln_const 0 hx hb dX4_letterAt_1 (by decide) ?_
  refine lv_aload_n hx hb dX4_letterAt_2 rfl (lv_at hl 0 rfl) ?_
  refine lv_iload_n hx hb dX4_letterAt_3 rfl (lv_at hl 1 rfl) ?_
  refine x_Vi (y := yX4_sizeOf) (As := [.int (nI c1)]) (wc := [(hp, .inr (4, [.ref s0, .ref s1])), (s0, xI Z 121 sz), (s1, xI Z 484 lt)]) (wr := []) hC hP hD hS (c_sizeOf l Z hp s0 s1 sz lt T hT c1 (by omega)) (gV wq_478 wq_475 wq_476 wq_477 wq_35) rfl kv_X4_sizeOf rfl rfl ⟨rfl, rfl⟩ rfl hl.1 rfl ⟨Nat.le_of_ble_eq_true rfl, Nat.le_of_ble_eq_true rfl⟩ [0, 1, 2] ([] : List Nat) rfl rfl (by decide) (by decide) (by decide) rfl dX4_letterAt_4 (fun r4 w1 H locs hw hP hD hS => ?_)
  obtain ⟨rfl, rfl⟩ := hw
  have hP : va_P Z.1 vwCl [(hp, .inr (4, [.ref s0, .ref s1])), (s0, xI Z 121 sz), (s1, xI Z 484 lt)] H := hP
  have hD : va_D A [(hp, .inr (4, [.ref s0, .ref s1])), (s0, xI Z 121 sz), (s1, xI Z 484 lt)] := hD
  rw [t4]
  refine ln_const 1 hx hb dX4_letterAt_7 (by decide) ?_
  refine lv_isub hx hb dX4_letterAt_8 ?_
  refine x_SNi (y := yX6_outside) (As := [.int j, .int (nI 0), .int ((nI ((T c1).length)) - (nI 1))]) (wc := []) (wr := [(hp, .inr (4, [.ref s0, .ref s1])), (s0, xI Z 121 sz), (s1, xI Z 484 lt)]) hC hP hD hS (c_out_out l Z j (nI 0) ((nI ((T c1).length)) - (nI 1)) (by rw [nI_toInt (by omega), pk_sub_toInt (by omega) (by omega)]; omega)) (gCo wq_339) qn_71 qq_32 qq_338 rfl ks_X6_outside ⟨rfl, rfl⟩ rfl hl.1 rfl ⟨Nat.le_of_ble_eq_true rfl, Nat.le_of_ble_eq_true rfl⟩ ([] : List Nat) [0, 1, 2] rfl rfl (by decide) (by decide) (by decide) rfl dX4_letterAt_9 (fun r9 w1 H locs hw hP hD hS => ?_)
  obtain ⟨rfl, rfl⟩ := hw
  have hP : va_P Z.1 vwCl [(hp, .inr (4, [.ref s0, .ref s1])), (s0, xI Z 121 sz), (s1, xI Z 484 lt)] H := hP
  have hD : va_D A [(hp, .inr (4, [.ref s0, .ref s1])), (s0, xI Z 121 sz), (s1, xI Z 484 lt)] := hD
  refine ln_if_eq (tgt := 20) hx hb dX4_letterAt_12 (by decide) (by omega) (fun h12 => False.elim (by omega)) (fun h12 => ?_)
  refine lv_bipush (v := (-9)) hx hb dX4_letterAt_15 (by decide) ?_
  refine lv_goto (tgt := 30) hx hb dX4_letterAt_17 (by decide) ?_
  exact x_iret hC hr hk hP hD hS dX4_letterAt_30 ⟨rfl, rfl⟩

theorem kv_X4_letterAt : yX4_letterAt.cls = RX4 ∧ yX4_letterAt.cls ≠ "java/lang/invoke/MethodHandle" ∧ yX4_letterAt.cls ≠ "java/lang/invoke/VarHandle" ∧ (parseMethodDescriptor yX4_letterAt.desc).map (fun d => d.parameters.length) = some 2 := by decide +kernel
theorem ks_X6_oneIf : yX6_oneIf.cls ≠ "java/lang/invoke/MethodHandle" ∧ yX6_oneIf.cls ≠ "java/lang/invoke/VarHandle" ∧ (parseMethodDescriptor yX6_oneIf.desc).map (fun d => d.parameters.length) = some 1 := by decide +kernel
set_option maxHeartbeats 4000000 in
set_option maxRecDepth 100000 in
theorem c_bitAt_in (l : Launch) (Z : xZ) (hp s0 s1 : Nat) (sz lt : Nat → Nat) (T : Nat → List Nat) (hT : TR T sz lt) (t k : Nat) (ht : t < 242) (hk2 : k < 121 * (tapp T t).length) (h121 : ∀ z ∈ tapp T t, z < 121) : xMi l Z yX4_bitAt vX4_bitAt ({ frames := 3, cells := 0, slots := 0, locals := 65 } : Room) [.ref hp, .int (nI t), .int (nI k)] [(hp, .inr (4, [.ref s0, .ref s1])), (s0, xI Z 121 sz), (s1, xI Z 484 lt)] (fun r w => r = nI (if (tapp T t).getD (k / 121) 0 = k % 121 then 1 else 0) ∧ w = [(hp, .inr (4, [.ref s0, .ref s1])), (s0, xI Z 121 sz), (s1, xI Z 484 lt)]) := by
  refine x_i (by decide) rfl (Nat.le_of_ble_eq_true rfl) ?_
  intro p e s m args below meth c ls A hC hr hk hl hP hD hS
  have hx := hC.1.1
  have hb := hC.1.2.1
  have hml := hC.1.2.2.1
  have hown : s.vm.findClass RX4 = some m.cls := hC.1.2.2.2.1
  have hts := hC.1.2.2.2.2
  have hK := hC.2.1
  have qq_32 := hts (Cond.initialized RX6) (List.mem_cons_of_mem _ wq_32)
  have qq_338 := hts (Cond.static yX6_outside) (List.mem_cons_of_mem _ wq_338)
  have qn_71 := hC.2.2.2.1.1 (RX4, 71, yX6_outside, RX6) (List.mem_of_getElem? (i := 7) rfl)
  have qq_465 := hts (Cond.static yX6_oneIf) (List.mem_cons_of_mem _ wq_465)
  have qn_81 := hC.2.2.2.1.1 (RX4, 81, yX6_oneIf, RX6) (List.mem_of_getElem? (i := 9) rfl)
  have hl : lv_has ls 3 [(0, .ref hp), (1, .int (nI t)), (2, .int (nI k))] := hl
  have hP : va_P Z.1 vwCl [(hp, .inr (4, [.ref s0, .ref s1])), (s0, xI Z 121 sz), (s1, xI Z 484 lt)] s.heap := hP
  have hD : va_D A [(hp, .inr (4, [.ref s0, .ref s1])), (s0, xI Z 121 sz), (s1, xI Z 484 lt)] := hD
  have ht1 : t < 121 := by
    rcases Nat.lt_or_ge t 121 with q | q
    · exact q
    · rw [tapp_out q] at hk2; simp at hk2
  obtain ⟨t1, t2, t3⟩ := hT t ht1
  have t4 := tapp_in (T := T) ht1
  have t5 := h121 _ (getD_mem (i := k / 121) (by omega))
  rw [t4] at hk2 t5 ⊢
  refine lv_iload_n hx hb dX4_bitAt_0 rfl (lv_at hl 2 rfl) ?_
  refine ln_const 0 hx hb dX4_bitAt_1 (by decide) ?_
  refine lv_aload_n hx hb dX4_bitAt_2 rfl (lv_at hl 0 rfl) ?_
  refine lv_iload_n hx hb dX4_bitAt_3 rfl (lv_at hl 1 rfl) ?_
  refine x_Vi (y := yX4_sizeOf) (As := [.int (nI t)]) (wc := [(hp, .inr (4, [.ref s0, .ref s1])), (s0, xI Z 121 sz), (s1, xI Z 484 lt)]) (wr := []) hC hP hD hS (c_sizeOf l Z hp s0 s1 sz lt T hT t (by omega)) (gV wq_478 wq_475 wq_476 wq_477 wq_35) rfl kv_X4_sizeOf rfl rfl ⟨rfl, rfl⟩ rfl hl.1 rfl ⟨Nat.le_of_ble_eq_true rfl, Nat.le_of_ble_eq_true rfl⟩ [0, 1, 2] ([] : List Nat) rfl rfl (by decide) (by decide) (by decide) rfl dX4_bitAt_4 (fun r4 w1 H locs hw hP hD hS => ?_)
  obtain ⟨rfl, rfl⟩ := hw
  have hP : va_P Z.1 vwCl [(hp, .inr (4, [.ref s0, .ref s1])), (s0, xI Z 121 sz), (s1, xI Z 484 lt)] H := hP
  have hD : va_D A [(hp, .inr (4, [.ref s0, .ref s1])), (s0, xI Z 121 sz), (s1, xI Z 484 lt)] := hD
  rw [t4]
  refine ln_bipush 121 hx hb dX4_bitAt_7 (by decide) ?_
  refine ln_imul (((T t).length) * 121) hx hb dX4_bitAt_9 (by first | rfl | omega) ?_
  refine ln_const 1 hx hb dX4_bitAt_10 (by decide) ?_
  refine ln_isub ((((T t).length) * 121) - 1) hx hb dX4_bitAt_11 (by omega) (by first | rfl | omega) ?_
  refine x_SNi (y := yX6_outside) (As := [.int (nI k), .int (nI 0), .int (nI ((((T t).length) * 121) - 1))]) (wc := []) (wr := [(hp, .inr (4, [.ref s0, .ref s1])), (s0, xI Z 121 sz), (s1, xI Z 484 lt)]) hC hP hD hS (c_out_in l Z (nI k) (nI 0) (nI ((((T t).length) * 121) - 1)) (o_in (by omega) (by omega) (by omega))) (gCo wq_339) qn_71 qq_32 qq_338 rfl ks_X6_outside ⟨rfl, rfl⟩ rfl hl.1 rfl ⟨Nat.le_of_ble_eq_true rfl, Nat.le_of_ble_eq_true rfl⟩ ([] : List Nat) [0, 1, 2] rfl rfl (by decide) (by decide) (by decide) rfl dX4_bitAt_12 (fun r12 w1 H locs hw hP hD hS => ?_)
  obtain ⟨rfl, rfl⟩ := hw
  have hP : va_P Z.1 vwCl [(hp, .inr (4, [.ref s0, .ref s1])), (s0, xI Z 121 sz), (s1, xI Z 484 lt)] H := hP
  have hD : va_D A [(hp, .inr (4, [.ref s0, .ref s1])), (s0, xI Z 121 sz), (s1, xI Z 484 lt)] := hD
  refine ln_if_eq (tgt := 21) hx hb dX4_bitAt_15 (by decide) (by omega) (fun h15 => ?_) (fun h15 => False.elim (by omega))
  refine lv_aload_n hx hb dX4_bitAt_21 rfl (lv_at hl 0 rfl) ?_
  refine lv_iload_n hx hb dX4_bitAt_22 rfl (lv_at hl 1 rfl) ?_
  refine lv_iload_n hx hb dX4_bitAt_23 rfl (lv_at hl 2 rfl) ?_
  refine ln_bipush 121 hx hb dX4_bitAt_24 (by decide) ?_
  refine ln_idiv (k / 121) hx hb dX4_bitAt_26 (by omega) (by omega) (by omega) (by first | rfl | omega) ?_
  refine x_Vi (y := yX4_letterAt) (As := [.int (nI t), .int (nI (k / 121))]) (wc := [(hp, .inr (4, [.ref s0, .ref s1])), (s0, xI Z 121 sz), (s1, xI Z 484 lt)]) (wr := []) hC hP hD hS (c_letterAt_in l Z hp s0 s1 sz lt T hT t (k / 121) (by omega) (by omega)) (gV wq_474 wq_593 wq_472 wq_473 wq_35) rfl kv_X4_letterAt rfl rfl ⟨rfl, rfl⟩ rfl hl.1 rfl ⟨Nat.le_of_ble_eq_true rfl, Nat.le_of_ble_eq_true rfl⟩ [0, 1, 2] ([] : List Nat) rfl rfl (by decide) (by decide) (by decide) rfl dX4_bitAt_27 (fun r27 w1 H locs hw hP hD hS => ?_)
  obtain ⟨rfl, rfl⟩ := hw
  have hP : va_P Z.1 vwCl [(hp, .inr (4, [.ref s0, .ref s1])), (s0, xI Z 121 sz), (s1, xI Z 484 lt)] H := hP
  have hD : va_D A [(hp, .inr (4, [.ref s0, .ref s1])), (s0, xI Z 121 sz), (s1, xI Z 484 lt)] := hD
  refine lv_iload_n hx hb dX4_bitAt_30 rfl (lv_at hl 2 rfl) ?_
  refine ln_bipush 121 hx hb dX4_bitAt_31 (by decide) ?_
  refine ln_irem (k % 121) hx hb dX4_bitAt_33 (by omega) (by omega) (by omega) (by first | rfl | omega) ?_
  refine ln_icmp_ne (tgt := 41) hx hb dX4_bitAt_34 (by decide) (by omega) (by omega) (fun h34 => ?_) (fun h34 => ?_)
  · refine ln_const 0 hx hb dX4_bitAt_41 (by decide) ?_
    refine x_SNi (y := yX6_oneIf) (As := [.int (nI 0)]) (wc := []) (wr := [(hp, .inr (4, [.ref s0, .ref s1])), (s0, xI Z 121 sz), (s1, xI Z 484 lt)]) hC hP hD hS (c_X6_oneIf l Z 0 (by omega)) (gCo wq_466) qn_81 qq_32 qq_465 rfl ks_X6_oneIf ⟨rfl, rfl⟩ rfl hl.1 rfl ⟨Nat.le_of_ble_eq_true rfl, Nat.le_of_ble_eq_true rfl⟩ ([] : List Nat) [0, 1, 2] rfl rfl (by decide) (by decide) (by decide) rfl dX4_bitAt_42 (fun r42 w1 H locs hw hP hD hS => ?_)
    obtain ⟨rfl, rfl⟩ := hw
    have hP : va_P Z.1 vwCl [(hp, .inr (4, [.ref s0, .ref s1])), (s0, xI Z 121 sz), (s1, xI Z 484 lt)] H := hP
    have hD : va_D A [(hp, .inr (4, [.ref s0, .ref s1])), (s0, xI Z 121 sz), (s1, xI Z 484 lt)] := hD
    exact x_iret hC hr hk hP hD hS dX4_bitAt_45 ⟨by rw [if_neg (by omega)], rfl⟩
  · refine ln_const 1 hx hb dX4_bitAt_37 (by decide) ?_
    refine lv_goto (tgt := 42) hx hb dX4_bitAt_38 (by decide) ?_
    refine x_SNi (y := yX6_oneIf) (As := [.int (nI 1)]) (wc := []) (wr := [(hp, .inr (4, [.ref s0, .ref s1])), (s0, xI Z 121 sz), (s1, xI Z 484 lt)]) hC hP hD hS (c_X6_oneIf l Z 1 (by omega)) (gCo wq_466) qn_81 qq_32 qq_465 rfl ks_X6_oneIf ⟨rfl, rfl⟩ rfl hl.1 rfl ⟨Nat.le_of_ble_eq_true rfl, Nat.le_of_ble_eq_true rfl⟩ ([] : List Nat) [0, 1, 2] rfl rfl (by decide) (by decide) (by decide) rfl dX4_bitAt_42 (fun r42 w1 H locs hw hP hD hS => ?_)
    obtain ⟨rfl, rfl⟩ := hw
    have hP : va_P Z.1 vwCl [(hp, .inr (4, [.ref s0, .ref s1])), (s0, xI Z 121 sz), (s1, xI Z 484 lt)] H := hP
    have hD : va_D A [(hp, .inr (4, [.ref s0, .ref s1])), (s0, xI Z 121 sz), (s1, xI Z 484 lt)] := hD
    exact x_iret hC hr hk hP hD hS dX4_bitAt_45 ⟨by rw [if_pos (by omega)], rfl⟩

set_option maxHeartbeats 4000000 in
set_option maxRecDepth 100000 in
theorem c_bitAt_out (l : Launch) (Z : xZ) (hp s0 s1 : Nat) (sz lt : Nat → Nat) (T : Nat → List Nat) (hT : TR T sz lt) (t : Nat) (k : Int32) (ht : t < 242) (hk2 : ¬ (0 ≤ k.toInt ∧ k.toInt < (121 * (tapp T t).length : Nat))) : xMi l Z yX4_bitAt vX4_bitAt ({ frames := 2, cells := 0, slots := 0, locals := 43 } : Room) [.ref hp, .int (nI t), .int k] [(hp, .inr (4, [.ref s0, .ref s1])), (s0, xI Z 121 sz), (s1, xI Z 484 lt)] (fun r w => r = -9 ∧ w = [(hp, .inr (4, [.ref s0, .ref s1])), (s0, xI Z 121 sz), (s1, xI Z 484 lt)]) := by
  refine x_i (by decide) rfl (Nat.le_of_ble_eq_true rfl) ?_
  intro p e s m args below meth c ls A hC hr hk hl hP hD hS
  have hx := hC.1.1
  have hb := hC.1.2.1
  have hml := hC.1.2.2.1
  have hown : s.vm.findClass RX4 = some m.cls := hC.1.2.2.2.1
  have hts := hC.1.2.2.2.2
  have hK := hC.2.1
  have qq_32 := hts (Cond.initialized RX6) (List.mem_cons_of_mem _ wq_32)
  have qq_338 := hts (Cond.static yX6_outside) (List.mem_cons_of_mem _ wq_338)
  have qn_71 := hC.2.2.2.1.1 (RX4, 71, yX6_outside, RX6) (List.mem_of_getElem? (i := 7) rfl)
  have hl : lv_has ls 3 [(0, .ref hp), (1, .int (nI t)), (2, .int k)] := hl
  have hP : va_P Z.1 vwCl [(hp, .inr (4, [.ref s0, .ref s1])), (s0, xI Z 121 sz), (s1, xI Z 484 lt)] s.heap := hP
  have hD : va_D A [(hp, .inr (4, [.ref s0, .ref s1])), (s0, xI Z 121 sz), (s1, xI Z 484 lt)] := hD
  have t4 : (tapp T t).length ≤ 4 := by
    rcases Nat.lt_or_ge t 121 with q | q
    · rw [tapp_in q]; exact (hT t q).2.1
    · rw [tapp_out q]; simp
  refine lv_iload_n hx hb dX4_bitAt_0 rfl (lv_at hl 2 rfl) ?_
  refine ln_const 0 hx hb dX4_bitAt_1 (by decide) ?_
  refine lv_aload_n hx hb dX4_bitAt_2 rfl (lv_at hl 0 rfl) ?_
  refine lv_iload_n hx hb dX4_bitAt_3 rfl (lv_at hl 1 rfl) ?_
  refine x_Vi (y := yX4_sizeOf) (As := [.int (nI t)]) (wc := [(hp, .inr (4, [.ref s0, .ref s1])), (s0, xI Z 121 sz), (s1, xI Z 484 lt)]) (wr := []) hC hP hD hS (c_sizeOf l Z hp s0 s1 sz lt T hT t (by omega)) (gV wq_478 wq_475 wq_476 wq_477 wq_35) rfl kv_X4_sizeOf rfl rfl ⟨rfl, rfl⟩ rfl hl.1 rfl ⟨Nat.le_of_ble_eq_true rfl, Nat.le_of_ble_eq_true rfl⟩ [0, 1, 2] ([] : List Nat) rfl rfl (by decide) (by decide) (by decide) rfl dX4_bitAt_4 (fun r4 w1 H locs hw hP hD hS => ?_)
  obtain ⟨rfl, rfl⟩ := hw
  have hP : va_P Z.1 vwCl [(hp, .inr (4, [.ref s0, .ref s1])), (s0, xI Z 121 sz), (s1, xI Z 484 lt)] H := hP
  have hD : va_D A [(hp, .inr (4, [.ref s0, .ref s1])), (s0, xI Z 121 sz), (s1, xI Z 484 lt)] := hD
  refine ln_bipush 121 hx hb dX4_bitAt_7 (by decide) ?_
  refine ln_imul (((tapp T t).length) * 121) hx hb dX4_bitAt_9 (by first | rfl | omega) ?_
  refine ln_const 1 hx hb dX4_bitAt_10 (by decide) ?_
  refine lv_isub hx hb dX4_bitAt_11 ?_
  refine x_SNi (y := yX6_outside) (As := [.int k, .int (nI 0), .int ((nI (((tapp T t).length) * 121)) - (nI 1))]) (wc := []) (wr := [(hp, .inr (4, [.ref s0, .ref s1])), (s0, xI Z 121 sz), (s1, xI Z 484 lt)]) hC hP hD hS (c_out_out l Z k (nI 0) ((nI (((tapp T t).length) * 121)) - (nI 1)) (by rw [nI_toInt (by omega), pk_sub_toInt (by omega) (by omega)]; omega)) (gCo wq_339) qn_71 qq_32 qq_338 rfl ks_X6_outside ⟨rfl, rfl⟩ rfl hl.1 rfl ⟨Nat.le_of_ble_eq_true rfl, Nat.le_of_ble_eq_true rfl⟩ ([] : List Nat) [0, 1, 2] rfl rfl (by decide) (by decide) (by decide) rfl dX4_bitAt_12 (fun r12 w1 H locs hw hP hD hS => ?_)
  obtain ⟨rfl, rfl⟩ := hw
  have hP : va_P Z.1 vwCl [(hp, .inr (4, [.ref s0, .ref s1])), (s0, xI Z 121 sz), (s1, xI Z 484 lt)] H := hP
  have hD : va_D A [(hp, .inr (4, [.ref s0, .ref s1])), (s0, xI Z 121 sz), (s1, xI Z 484 lt)] := hD
  refine ln_if_eq (tgt := 21) hx hb dX4_bitAt_15 (by decide) (by omega) (fun h15 => False.elim (by omega)) (fun h15 => ?_)
  refine lv_bipush (v := (-9)) hx hb dX4_bitAt_18 (by decide) ?_
  exact x_iret hC hr hk hP hD hS dX4_bitAt_20 ⟨rfl, rfl⟩

set_option maxHeartbeats 4000000 in
set_option maxRecDepth 100000 in
theorem c_X4_appendTo (l : Launch) (Z : xZ) (hp s0 s1 : Nat) (sz lt : Nat → Nat) (T : Nat → List Nat) (hT : TR T sz lt) (h a N hd sz1 : Nat) (g : Nat → Nat) (L : List Nat) (hN : N < 1000000) (hR : RR N hd g L) (hsz : sz1 = L.length) (t : Nat) (ht : t < 242) (hfit : L.length + (tapp T t).length ≤ N) : xMv l Z yX4_appendTo vX4_appendTo ({ frames := 2, cells := 0, slots := 0, locals := 43 } : Room) [.ref hp, .ref h, .int (nI t)] [(hp, .inr (4, [.ref s0, .ref s1])), (s0, xI Z 121 sz), (s1, xI Z 484 lt), (h, .inr (2, [.ref a, .int (nI hd), .int (nI sz1)])), (a, xI Z N g)] (fun w => ∃ g2, RR N hd g2 (L ++ tapp T t) ∧ w = [(hp, .inr (4, [.ref s0, .ref s1])), (s0, xI Z 121 sz), (s1, xI Z 484 lt), (h, .inr (2, [.ref a, .int (nI hd), .int (nI (sz1 + (tapp T t).length))])), (a, xI Z N g2)]) := by
  refine x_v (by decide) rfl (Nat.le_of_ble_eq_true rfl) ?_
  intro p e s m args below meth c ls A hC hr hk hname hl hP hD hS
  have hx := hC.1.1
  have hb := hC.1.2.1
  have hml := hC.1.2.2.1
  have hown : s.vm.findClass RX4 = some m.cls := hC.1.2.2.2.1
  have hts := hC.1.2.2.2.2
  have hK := hC.2.1
  have qq_259 := hts (Cond.fieldLink RX4 15 "TagTower$Productions" "letters" "[I") (List.mem_cons_of_mem _ wq_259)
  have iX4 : ∀ w ∈ wsX40, w ∈ vX4_appendTo := fun w h => List.mem_cons_of_mem _ (wi_X4 w h)
  have hl : lv_has ls 6 [(0, .ref hp), (1, .ref h), (2, .int (nI t))] := hl
  have hP : va_P Z.1 vwCl [(hp, .inr (4, [.ref s0, .ref s1])), (s0, xI Z 121 sz), (s1, xI Z 484 lt), (h, .inr (2, [.ref a, .int (nI hd), .int (nI sz1)])), (a, xI Z N g)] s.heap := hP
  have hD : va_D A [(hp, .inr (4, [.ref s0, .ref s1])), (s0, xI Z 121 sz), (s1, xI Z 484 lt), (h, .inr (2, [.ref a, .int (nI hd), .int (nI sz1)])), (a, xI Z N g)] := hD
  have t4 : (tapp T t).length ≤ 4 := by
    rcases Nat.lt_or_ge t 121 with q | q
    · rw [tapp_in q]; exact (hT t q).2.1
    · rw [tapp_out q]; simp
  refine lv_iload_n hx hb dX4_appendTo_0 rfl (lv_at hl 2 rfl) ?_
  refine ln_const 4 hx hb dX4_appendTo_1 (by decide) ?_
  refine ln_imul (t * 4) hx hb dX4_appendTo_2 (by first | rfl | omega) ?_
  refine lv_istore_n (lv' := [(3, .int (nI (t * 4))), (0, .ref hp), (1, .ref h), (2, .int (nI t))]) hx hb dX4_appendTo_3 rfl hl (by decide) rfl (fun ls hl => ?_)
  refine lv_iload_n hx hb dX4_appendTo_4 rfl (lv_at hl 0 rfl) ?_
  refine lv_aload_n hx hb dX4_appendTo_5 rfl (lv_at hl 1 rfl) ?_
  refine lv_iload_n hx hb dX4_appendTo_6 rfl (lv_at hl 3 rfl) ?_
  refine x_Vi (y := yX4_sizeOf) (As := [.int (nI t)]) (wc := [(hp, .inr (4, [.ref s0, .ref s1])), (s0, xI Z 121 sz), (s1, xI Z 484 lt)]) (wr := [(h, .inr (2, [.ref a, .int (nI hd), .int (nI sz1)])), (a, xI Z N g)]) hC hP hD hS (c_sizeOf l Z hp s0 s1 sz lt T hT t (by omega)) (gV wq_478 wq_475 wq_476 wq_477 wq_35) rfl kv_X4_sizeOf rfl rfl ⟨rfl, rfl⟩ rfl hl.1 rfl ⟨Nat.le_of_ble_eq_true rfl, Nat.le_of_ble_eq_true rfl⟩ [0, 1, 2] [3, 4] rfl rfl (by decide) (by decide) (by decide) rfl dX4_appendTo_7 (fun r7 w1 H locs hw hP hD hS => ?_)
  obtain ⟨rfl, rfl⟩ := hw
  have hP := hP.sub (ws' := [(hp, .inr (4, [.ref s0, .ref s1])), (s0, xI Z 121 sz), (s1, xI Z 484 lt), (h, .inr (2, [.ref a, .int (nI hd), .int (nI sz1)])), (a, xI Z N g)]) [2, 3, 4, 0, 1] rfl
  have hD := hD.sub (ws' := [(hp, .inr (4, [.ref s0, .ref s1])), (s0, xI Z 121 sz), (s1, xI Z 484 lt), (h, .inr (2, [.ref a, .int (nI hd), .int (nI sz1)])), (a, xI Z N g)]) [2, 3, 4, 0, 1] (by decide) rfl
  refine ln_iadd ((t * 4) + ((tapp T t).length)) hx hb dX4_appendTo_10 (by first | rfl | omega) ?_
  refine lv_istore (lv' := [(4, .int (nI ((t * 4) + ((tapp T t).length)))), (3, .int (nI (t * 4))), (0, .ref hp), (1, .ref h), (2, .int (nI t))]) hx hb dX4_appendTo_11 hl (by decide) rfl (fun ls hl => ?_)
  refine lv_iload_n hx hb dX4_appendTo_13 rfl (lv_at hl 1 rfl) ?_
  refine lv_istore (lv' := [(5, .int (nI (t * 4))), (4, .int (nI ((t * 4) + ((tapp T t).length)))), (3, .int (nI (t * 4))), (0, .ref hp), (1, .ref h), (2, .int (nI t))]) hx hb dX4_appendTo_14 hl (by decide) rfl (fun ls hl => ?_)
  have hloop16 : ∀ (nn : Nat) (j sz2 : Nat) (g2 : Nat → Nat) (H : Heap) (locs : List Loc) (ls : Array Slot) (hj : j ≤ (tapp T t).length) (hR1 : RR N hd g2 (L ++ (tapp T t).take j)) (hs1 : sz2 = L.length + j) (hmu : (tapp T t).length - j < nn) (hP : va_P Z.1 vwCl [(hp, .inr (4, [.ref s0, .ref s1])), (s0, xI Z 121 sz), (s1, xI Z 484 lt), (h, .inr (2, [.ref a, .int (nI hd), .int (nI sz2)])), (a, xI Z N g2)] H) (hD : va_D A [(hp, .inr (4, [.ref s0, .ref s1])), (s0, xI Z 121 sz), (s1, xI Z 484 lt), (h, .inr (2, [.ref a, .int (nI hd), .int (nI sz2)])), (a, xI Z N g2)]) (hS : va_S A s.heap H locs) (hl : lv_has ls 6 [(0, .ref hp), (1, .ref h), (2, .int (nI t)), (3, .int (nI (t * 4))), (4, .int (nI (t * 4 + (tapp T t).length))), (5, .int (nI (t * 4 + j)))]), W p l e ({ frames := 2, cells := 0, slots := 0, locals := 43 } : Room) s m args below meth c H locs 0 0 (MQ below (va_Qv (fun w => ∃ g2, RR N hd g2 (L ++ tapp T t) ∧ w = [(hp, .inr (4, [.ref s0, .ref s1])), (s0, xI Z 121 sz), (s1, xI Z 484 lt), (h, .inr (2, [.ref a, .int (nI hd), .int (nI (sz1 + (tapp T t).length))])), (a, xI Z N g2)]) (xB Z A) A) args s ({ frames := 2, cells := 0, slots := 0, locals := 43 } : Room).cells ({ frames := 2, cells := 0, slots := 0, locals := 43 } : Room).slots A) (F0 m 16 ls []) := by
    intro nn
    induction nn with
    | zero => intro j sz2 g2 H locs ls hj hR1 hs1 hmu; exact absurd hmu (Nat.not_lt_zero _)
    | succ nn ih =>
      intro j sz2 g2 H locs ls hj hR1 hs1 hmu hP hD hS hl
      refine lv_iload hx hb dX4_appendTo_16 (lv_at hl 5 rfl) ?_
      refine lv_iload hx hb dX4_appendTo_18 (lv_at hl 4 rfl) ?_
      refine ln_icmp_ge (tgt := 40) hx hb dX4_appendTo_20 (by decide) (by omega) (by omega) (fun h20 => ?_) (fun h20 => ?_)
      · exact x_vret hC hr hk hP hD hS dX4_appendTo_40 ⟨g2, by rw [List.take_of_length_le (by omega)] at hR1; exact hR1, by rw [show sz2 = sz1 + (tapp T t).length by omega]⟩
      · refine lv_aload_n hx hb dX4_appendTo_23 rfl (lv_at hl 1 rfl) ?_
        refine lv_aload_n hx hb dX4_appendTo_24 rfl (lv_at hl 0 rfl) ?_
        refine va_get (D := Z.1) (ci := 4) (v := .ref s1) (C := RX4) (T := TX4) (N := 2) hx hb hts iX4 hown hK hP 0 rfl rfl 1 (Nat.le_of_ble_eq_true rfl) qq_259 (fun _ h9 => h9) rfl dX4_appendTo_25 ?_
        refine lv_iload hx hb dX4_appendTo_28 (lv_at hl 5 rfl) ?_
        have ht1 : t < 121 := by
          rcases Nat.lt_or_ge t 121 with q | q
          · exact q
          · rw [tapp_out q] at h20; simp only [List.length_nil] at h20; omega
        refine ln_iald hx hb hK hP 2 rfl (by omega) (by omega) dX4_appendTo_30 ?_
        refine ln_top (y := nI ((tapp T t).getD j 0)) (by rw [tapp_in ht1]; rw [tapp_in ht1] at h20; rw [(hT t ht1).2.2 j (by omega)]) ?_
        refine x_Vv (y := yX2_append) (As := [.int (nI ((tapp T t).getD j 0))]) (wc := [(h, .inr (2, [.ref a, .int (nI hd), .int (nI sz2)])), (a, xI Z N g2)]) (wr := [(hp, .inr (4, [.ref s0, .ref s1])), (s0, xI Z 121 sz), (s1, xI Z 484 lt)]) hC hP hD hS (c_X2_append l Z h a N hd sz2 g2 (L ++ (tapp T t).take j) (by omega) hR1 (by rw [List.length_append, List.length_take]; omega) ((tapp T t).getD j 0) (by rw [List.length_append, List.length_take]; omega)) (gV wq_499 wq_553 wq_497 wq_498 wq_43) rfl kv_X2_append rfl rfl ⟨rfl, rfl⟩ rfl hl.1 rfl ⟨Nat.le_of_ble_eq_true rfl, Nat.le_of_ble_eq_true rfl⟩ [3, 4] [0, 1, 2] rfl rfl (by decide) (by decide) (by decide) rfl dX4_appendTo_31 (fun w1 H locs hw hP hD hS => ?_)
        obtain ⟨g3, hg3, rfl⟩ := hw
        have hP : va_P Z.1 vwCl [(hp, .inr (4, [.ref s0, .ref s1])), (s0, xI Z 121 sz), (s1, xI Z 484 lt), (h, .inr (2, [.ref a, .int (nI hd), .int (nI (sz2 + 1))])), (a, xI Z N g3)] H := hP
        have hD : va_D A [(hp, .inr (4, [.ref s0, .ref s1])), (s0, xI Z 121 sz), (s1, xI Z 484 lt), (h, .inr (2, [.ref a, .int (nI hd), .int (nI (sz2 + 1))])), (a, xI Z N g3)] := hD
        refine ln_iinc (k0 := 5) (k := 1) (t * 4 + (j + 1)) (lv' := [(5, .int (nI (t * 4 + (j + 1)))), (0, .ref hp), (1, .ref h), (2, .int (nI t)), (3, .int (nI (t * 4))), (4, .int (nI (t * 4 + (tapp T t).length)))]) hx hb dX4_appendTo_34 hl rfl rfl (by first | rfl | omega) (by decide) rfl (fun ls hl => ?_)
        refine lv_goto (tgt := 16) hx hb dX4_appendTo_37 (by decide) ?_
        exact ih  (j + 1) (sz2 + 1) g3 _ _ _ (by omega) (by rw [List.append_assoc] at hg3; rw [List.take_succ_eq_append_getElem (show j < (tapp T t).length by omega)]; rw [List.getD_eq_getElem?_getD, List.getElem?_eq_getElem (show j < (tapp T t).length by omega)] at hg3; exact hg3) (by omega) (by omega) hP hD hS (lv_sub hl [1, 2, 3, 4, 5, 0] rfl)
  exact hloop16 (((tapp T t).length - 0) + 1) 0 sz1 g _ _ _ (Nat.zero_le _) (by simp; exact hR) (by omega) (Nat.lt_succ_self _) hP hD hS (lv_sub hl [3, 4, 5, 2, 1, 0] rfl)

theorem kv_J0_charAt_5068e : yJ0_charAt_5068e.cls = RJ0 ∧ yJ0_charAt_5068e.cls ≠ "java/lang/invoke/MethodHandle" ∧ yJ0_charAt_5068e.cls ≠ "java/lang/invoke/VarHandle" ∧ (parseMethodDescriptor yJ0_charAt_5068e.desc).map (fun d => d.parameters.length) = some 1 := by decide +kernel
theorem kv_J0_indexOf_0f7a4 : yJ0_indexOf_0f7a4.cls = RJ0 ∧ yJ0_indexOf_0f7a4.cls ≠ "java/lang/invoke/MethodHandle" ∧ yJ0_indexOf_0f7a4.cls ≠ "java/lang/invoke/VarHandle" ∧ (parseMethodDescriptor yJ0_indexOf_0f7a4.desc).map (fun d => d.parameters.length) = some 1 := by decide +kernel
theorem ks_X4_pairMarked : yX4_pairMarked.cls ≠ "java/lang/invoke/MethodHandle" ∧ yX4_pairMarked.cls ≠ "java/lang/invoke/VarHandle" ∧ (parseMethodDescriptor yX4_pairMarked.desc).map (fun d => d.parameters.length) = some 3 := by decide +kernel
theorem ks_X4_number : yX4_number.cls ≠ "java/lang/invoke/MethodHandle" ∧ yX4_number.cls ≠ "java/lang/invoke/VarHandle" ∧ (parseMethodDescriptor yX4_number.desc).map (fun d => d.parameters.length) = some 2 := by decide +kernel
theorem kv_X4_append : yX4_append.cls = RX4 ∧ yX4_append.cls ≠ "java/lang/invoke/MethodHandle" ∧ yX4_append.cls ≠ "java/lang/invoke/VarHandle" ∧ (parseMethodDescriptor yX4_append.desc).map (fun d => d.parameters.length) = some 2 := by decide +kernel
set_option maxHeartbeats 4000000 in
set_option maxRecDepth 100000 in
theorem c_X4_write (l : Launch) (Z : xZ) (hp s0 s1 : Nat) (sz lt : Nat → Nat) (T : Nat → List Nat) (hT : TR T sz lt) (i q t : Nat) (hi : i < 7) (hq : q < 6) (ht : t < 3) : xMv l Z yX4_write vX4_write ({ frames := 4, cells := 0, slots := 0, locals := 91 } : Room) [.ref hp, .ref (Z.2.1.1 i), .int (nI q), .int (nI t)] [(hp, .inr (4, [.ref s0, .ref s1])), (s0, xI Z 121 sz), (s1, xI Z 484 lt)] (fun w => ∃ sz2 lt2, TR (xwl i q t (xTl.getD i 0) (0, T)).2 sz2 lt2 ∧ w = [(hp, .inr (4, [.ref s0, .ref s1])), (s0, xI Z 121 sz2), (s1, xI Z 484 lt2)]) := by
  refine x_v (by decide) rfl (Nat.le_of_ble_eq_true rfl) ?_
  intro p e s m args below meth c ls A hC hr hk hname hl hP hD hS
  have hx := hC.1.1
  have hb := hC.1.2.1
  have hml := hC.1.2.2.1
  have hown : s.vm.findClass RX4 = some m.cls := hC.1.2.2.2.1
  have hts := hC.1.2.2.2.2
  have hK := hC.2.1
  have hl : lv_has ls 8 [(0, .ref hp), (1, .ref (Z.2.1.1 i)), (2, .int (nI q)), (3, .int (nI t))] := hl
  have hP : va_P Z.1 vwCl [(hp, .inr (4, [.ref s0, .ref s1])), (s0, xI Z 121 sz), (s1, xI Z 484 lt)] s.heap := hP
  have hD : va_D A [(hp, .inr (4, [.ref s0, .ref s1])), (s0, xI Z 121 sz), (s1, xI Z 484 lt)] := hD
  have hTl := xTl_le i hi
  refine ln_const 0 hx hb dX4_write_0 (by decide) ?_
  refine lv_istore (lv' := [(4, .int (nI 0)), (0, .ref hp), (1, .ref (Z.2.1.1 i)), (2, .int (nI q)), (3, .int (nI t))]) hx hb dX4_write_1 hl (by decide) rfl (fun ls hl => ?_)
  refine ln_const 0 hx hb dX4_write_3 (by decide) ?_
  refine lv_istore (lv' := [(5, .int (nI 0)), (4, .int (nI 0)), (0, .ref hp), (1, .ref (Z.2.1.1 i)), (2, .int (nI q)), (3, .int (nI t))]) hx hb dX4_write_4 hl (by decide) rfl (fun ls hl => ?_)
  have hloop6 : ∀ (nn : Nat) (j ow : Nat) (T1 : Nat → List Nat) (sz2 lt2 : Nat → Nat) (H : Heap) (locs : List Loc) (ls : Array Slot) (hj : j ≤ xTl.getD i 0) (hX : (ow, T1) = xwl i q t j (0, T)) (hT1 : TR T1 sz2 lt2) (how : ow < 121) (hmu : xTl.getD i 0 - j < nn) (hP : va_P Z.1 vwCl [(hp, .inr (4, [.ref s0, .ref s1])), (s0, xI Z 121 sz2), (s1, xI Z 484 lt2)] H) (hD : va_D A [(hp, .inr (4, [.ref s0, .ref s1])), (s0, xI Z 121 sz2), (s1, xI Z 484 lt2)]) (hS : va_S A s.heap H locs) (hl : lv_has ls 8 [(0, .ref hp), (1, .ref (Z.2.1.1 i)), (2, .int (nI q)), (3, .int (nI t)), (4, .int (nI ow)), (5, .int (nI j))]), W p l e ({ frames := 4, cells := 0, slots := 0, locals := 91 } : Room) s m args below meth c H locs 0 0 (MQ below (va_Qv (fun w => ∃ sz2 lt2, TR (xwl i q t (xTl.getD i 0) (0, T)).2 sz2 lt2 ∧ w = [(hp, .inr (4, [.ref s0, .ref s1])), (s0, xI Z 121 sz2), (s1, xI Z 484 lt2)]) (xB Z A) A) args s ({ frames := 4, cells := 0, slots := 0, locals := 91 } : Room).cells ({ frames := 4, cells := 0, slots := 0, locals := 91 } : Room).slots A) (F0 m 6 ls []) := by
    intro nn
    induction nn with
    | zero => intro j ow T1 sz2 lt2 H locs ls hj hX hT1 how hmu; exact absurd hmu (Nat.not_lt_zero _)
    | succ nn ih =>
      intro j ow T1 sz2 lt2 H locs ls hj hX hT1 how hmu hP hD hS hl
      refine lv_iload hx hb dX4_write_6 (lv_at hl 5 rfl) ?_
      refine lv_aload_n hx hb dX4_write_8 rfl (lv_at hl 1 rfl) ?_
      refine x_Ri (y := yJ0_length_8abf5) (As := []) (wc := []) (wr := [(hp, .inr (4, [.ref s0, .ref s1])), (s0, xI Z 121 sz2), (s1, xI Z 484 lt2)]) hC hP hD hS (c_slen l Z i hi) (gV wq_140 wq_137 wq_138 wq_139 wq_36) rfl kv_J0_length_8abf5 (vk_recv hC.2.2.2.2.1 hi hS) ⟨rfl, rfl⟩ rfl hl.1 rfl ⟨Nat.le_of_ble_eq_true rfl, Nat.le_of_ble_eq_true rfl⟩ ([] : List Nat) [0, 1, 2] rfl rfl (by decide) (by decide) (by decide) rfl dX4_write_9 (fun r9 w1 H locs hw hP hD hS => ?_)
      obtain ⟨rfl, rfl⟩ := hw
      have hP : va_P Z.1 vwCl [(hp, .inr (4, [.ref s0, .ref s1])), (s0, xI Z 121 sz2), (s1, xI Z 484 lt2)] H := hP
      have hD : va_D A [(hp, .inr (4, [.ref s0, .ref s1])), (s0, xI Z 121 sz2), (s1, xI Z 484 lt2)] := hD
      refine ln_icmp_ge (tgt := 101) hx hb dX4_write_12 (by decide) (by omega) (by omega) (fun h12 => ?_) (fun h12 => ?_)
      · exact x_vret hC hr hk hP hD hS dX4_write_101 ⟨sz2, lt2, by rw [show (xwl i q t (xTl.getD i 0) (0, T)).2 = T1 by rw [show xTl.getD i 0 = j by omega, ← hX]]; exact hT1, rfl⟩
      · refine lv_iload hx hb dX4_write_15 (lv_at hl 5 rfl) ?_
        refine ln_const 1 hx hb dX4_write_17 (by decide) ?_
        refine ln_iadd (j + 1) hx hb dX4_write_18 (by first | rfl | omega) ?_
        refine lv_aload_n hx hb dX4_write_19 rfl (lv_at hl 1 rfl) ?_
        refine x_Ri (y := yJ0_length_8abf5) (As := []) (wc := []) (wr := [(hp, .inr (4, [.ref s0, .ref s1])), (s0, xI Z 121 sz2), (s1, xI Z 484 lt2)]) hC hP hD hS (c_slen l Z i hi) (gV wq_140 wq_137 wq_138 wq_139 wq_36) rfl kv_J0_length_8abf5 (vk_recv hC.2.2.2.2.1 hi hS) ⟨rfl, rfl⟩ rfl hl.1 rfl ⟨Nat.le_of_ble_eq_true rfl, Nat.le_of_ble_eq_true rfl⟩ ([] : List Nat) [0, 1, 2] rfl rfl (by decide) (by decide) (by decide) rfl dX4_write_20 (fun r20 w1 H locs hw hP hD hS => ?_)
        obtain ⟨rfl, rfl⟩ := hw
        have hP : va_P Z.1 vwCl [(hp, .inr (4, [.ref s0, .ref s1])), (s0, xI Z 121 sz2), (s1, xI Z 484 lt2)] H := hP
        have hD : va_D A [(hp, .inr (4, [.ref s0, .ref s1])), (s0, xI Z 121 sz2), (s1, xI Z 484 lt2)] := hD
        refine ln_icmp_ge (tgt := 37) hx hb dX4_write_23 (by decide) (by omega) (by omega) (fun h23 => ?_) (fun h23 => ?_)
        · refine ln_bipush 32 hx hb dX4_write_37 (by decide) ?_
          refine lv_istore (lv' := [(6, .int (nI 32)), (0, .ref hp), (1, .ref (Z.2.1.1 i)), (2, .int (nI q)), (3, .int (nI t)), (4, .int (nI ow)), (5, .int (nI j))]) hx hb dX4_write_39 hl (by decide) rfl (fun ls hl => ?_)
          refine va_ldcS hx hb hown (hC.2.2.2.2.2.1 0 (by decide)) dX4_write_41 ?_
          refine lv_aload_n hx hb dX4_write_43 rfl (lv_at hl 2 rfl) ?_
          refine lv_iload hx hb dX4_write_44 (lv_at hl 6 rfl) ?_
          refine x_Ri (y := yJ0_charAt_5068e) (As := [.int (nI j)]) (wc := []) (wr := [(hp, .inr (4, [.ref s0, .ref s1])), (s0, xI Z 121 sz2), (s1, xI Z 484 lt2)]) hC hP hD hS (c_charAt l Z i hi j (by omega)) (gV wq_150 wq_147 wq_148 wq_149 wq_36) rfl kv_J0_charAt_5068e (vk_recv hC.2.2.2.2.1 hi hS) ⟨rfl, rfl⟩ rfl hl.1 rfl ⟨Nat.le_of_ble_eq_true rfl, Nat.le_of_ble_eq_true rfl⟩ ([] : List Nat) [0, 1, 2] rfl rfl (by decide) (by decide) (by decide) rfl dX4_write_46 (fun r46 w1 H locs hw hP hD hS => ?_)
          obtain ⟨rfl, rfl⟩ := hw
          have hP : va_P Z.1 vwCl [(hp, .inr (4, [.ref s0, .ref s1])), (s0, xI Z 121 sz2), (s1, xI Z 484 lt2)] H := hP
          have hD : va_D A [(hp, .inr (4, [.ref s0, .ref s1])), (s0, xI Z 121 sz2), (s1, xI Z 484 lt2)] := hD
          have hxb_j := (xby_all i hi j (by omega)).2
          refine x_Ri (y := yJ0_indexOf_0f7a4) (As := [.int (nI (xby i j))]) (wc := []) (wr := [(hp, .inr (4, [.ref s0, .ref s1])), (s0, xI Z 121 sz2), (s1, xI Z 484 lt2)]) hC hP hD hS (c_io1 l Z (xby i j) (by omega)) (gV wq_189 wq_186 wq_187 wq_188 wq_36) rfl kv_J0_indexOf_0f7a4 (vk_recv hC.2.2.2.2.1 (show 0 < 7 by decide) hS) ⟨rfl, rfl⟩ rfl hl.1 rfl ⟨Nat.le_of_ble_eq_true rfl, Nat.le_of_ble_eq_true rfl⟩ ([] : List Nat) [0, 1, 2] rfl rfl (by decide) (by decide) (by decide) rfl dX4_write_49 (fun r49 w1 H locs hw hP hD hS => ?_)
          obtain ⟨rfl, rfl⟩ := hw
          have hP : va_P Z.1 vwCl [(hp, .inr (4, [.ref s0, .ref s1])), (s0, xI Z 121 sz2), (s1, xI Z 484 lt2)] H := hP
          have hD : va_D A [(hp, .inr (4, [.ref s0, .ref s1])), (s0, xI Z 121 sz2), (s1, xI Z 484 lt2)] := hD
          rcases xki_le i j with hk9 | hk9
          · refine ln_top (y := nI (xki i j)) (show xfv (xki i j) = _ by unfold xfv; rw [if_neg (by omega)]) ?_
            refine lv_istore (lv' := [(7, .int (nI (xki i j))), (6, .int (nI 32)), (0, .ref hp), (1, .ref (Z.2.1.1 i)), (2, .int (nI q)), (3, .int (nI t)), (4, .int (nI ow)), (5, .int (nI j))]) hx hb dX4_write_52 hl (by decide) rfl (fun ls hl => ?_)
            refine lv_iload hx hb dX4_write_54 (lv_at hl 1 rfl) ?_
            refine ln_bipush 58 hx hb dX4_write_56 (by decide) ?_
            refine ln_icmp_ne (tgt := 72) hx hb dX4_write_58 (by decide) (by omega) (by omega) (fun h58 => ?_) (fun h58 => False.elim (by omega))
            refine lv_iload hx hb dX4_write_72 (lv_at hl 0 rfl) ?_
            refine ln_if_lt (tgt := 95) hx hb dX4_write_74 (by decide) (by omega) ?_
            refine lv_aload_n hx hb dX4_write_77 rfl (lv_at hl 2 rfl) ?_
            refine lv_iload hx hb dX4_write_78 (lv_at hl 6 rfl) ?_
            refine lv_iload hx hb dX4_write_80 (lv_at hl 0 rfl) ?_
            refine lv_iload hx hb dX4_write_82 (lv_at hl 1 rfl) ?_
            refine lv_iload_n hx hb dX4_write_84 rfl (lv_at hl 4 rfl) ?_
            refine lv_iload_n hx hb dX4_write_85 rfl (lv_at hl 5 rfl) ?_
            refine x_Si (y := yX4_pairMarked) (As := [.int (nI 32), .int (nI q), .int (nI t)]) (wc := []) (wr := [(hp, .inr (4, [.ref s0, .ref s1])), (s0, xI Z 121 sz2), (s1, xI Z 484 lt2)]) hC hP hD hS (c_pairMarked l Z 32 q t (by omega) (by omega)) (gS wq_250 wq_248 wq_249 wq_35) rfl ks_X4_pairMarked ⟨rfl, rfl⟩ rfl hl.1 rfl ⟨Nat.le_of_ble_eq_true rfl, Nat.le_of_ble_eq_true rfl⟩ ([] : List Nat) [0, 1, 2] rfl rfl (by decide) (by decide) (by decide) rfl dX4_write_86 (fun r86 w1 H locs hw hP hD hS => ?_)
            obtain ⟨rfl, rfl⟩ := hw
            have hP : va_P Z.1 vwCl [(hp, .inr (4, [.ref s0, .ref s1])), (s0, xI Z 121 sz2), (s1, xI Z 484 lt2)] H := hP
            have hD : va_D A [(hp, .inr (4, [.ref s0, .ref s1])), (s0, xI Z 121 sz2), (s1, xI Z 484 lt2)] := hD
            have hpm := xpm_le (b := 32) hq ht
            refine x_Si (y := yX4_number) (As := [.int (nI (xki i j)), .int (nI (xpm 32 q t))]) (wc := []) (wr := [(hp, .inr (4, [.ref s0, .ref s1])), (s0, xI Z 121 sz2), (s1, xI Z 484 lt2)]) hC hP hD hS (c_number l Z (xki i j) (xpm 32 q t) (by omega) (by omega)) (gS wq_247 wq_245 wq_246 wq_35) rfl ks_X4_number ⟨rfl, rfl⟩ rfl hl.1 rfl ⟨Nat.le_of_ble_eq_true rfl, Nat.le_of_ble_eq_true rfl⟩ ([] : List Nat) [0, 1, 2] rfl rfl (by decide) (by decide) (by decide) rfl dX4_write_89 (fun r89 w1 H locs hw hP hD hS => ?_)
            obtain ⟨rfl, rfl⟩ := hw
            have hP : va_P Z.1 vwCl [(hp, .inr (4, [.ref s0, .ref s1])), (s0, xI Z 121 sz2), (s1, xI Z 484 lt2)] H := hP
            have hD : va_D A [(hp, .inr (4, [.ref s0, .ref s1])), (s0, xI Z 121 sz2), (s1, xI Z 484 lt2)] := hD
            refine x_Vv (y := yX4_append) (As := [.int (nI ow), .int (nI (xnum (xki i j) (xpm 32 q t)))]) (wc := [(hp, .inr (4, [.ref s0, .ref s1])), (s0, xI Z 121 sz2), (s1, xI Z 484 lt2)]) (wr := []) hC hP hD hS (c_X4_append l Z hp s0 s1 sz2 lt2 T1 hT1 ow (xnum (xki i j) (xpm 32 q t)) how) (gV wq_257 wq_254 wq_256 wq_1 wq_35) rfl kv_X4_append rfl rfl ⟨rfl, rfl⟩ rfl hl.1 rfl ⟨Nat.le_of_ble_eq_true rfl, Nat.le_of_ble_eq_true rfl⟩ [0, 1, 2] ([] : List Nat) rfl rfl (by decide) (by decide) (by decide) rfl dX4_write_92 (fun w1 H locs hw hP hD hS => ?_)
            obtain ⟨sz3, lt3, hT3, rfl⟩ := hw
            have hP : va_P Z.1 vwCl [(hp, .inr (4, [.ref s0, .ref s1])), (s0, xI Z 121 sz3), (s1, xI Z 484 lt3)] H := hP
            have hD : va_D A [(hp, .inr (4, [.ref s0, .ref s1])), (s0, xI Z 121 sz3), (s1, xI Z 484 lt3)] := hD
            refine ln_iinc (k0 := 7) (k := 1) (j + 1) (lv' := [(5, .int (nI (j + 1))), (7, .int (nI (xki i j))), (6, .int (nI 32)), (0, .ref hp), (1, .ref (Z.2.1.1 i)), (2, .int (nI q)), (3, .int (nI t)), (4, .int (nI ow))]) hx hb dX4_write_95 hl rfl rfl (by first | rfl | omega) (by decide) rfl (fun ls hl => ?_)
            refine lv_goto (tgt := 6) hx hb dX4_write_98 (by decide) ?_
            exact ih  (j + 1) ow _ sz3 lt3 _ _ _ (by omega) (by rw [show xwl i q t (j + 1) (0, T) = xws i q t j (xwl i q t j (0, T)) from rfl, ← hX]; unfold xws; rw [show xbe i j = 32 by unfold xbe; rw [if_neg (show ¬ (j + 1 < xTl.getD i 0) by omega)]]; rw [if_neg (by decide), if_neg (by omega)]) hT3 how (by omega) hP hD hS (lv_sub hl [3, 4, 5, 6, 7, 0] rfl)
          · refine ln_top (y := -1) (show xfv (xki i j) = _ by unfold xfv; rw [if_pos hk9]) ?_
            refine lv_istore (lv' := [(7, .int ((-1))), (6, .int (nI 32)), (0, .ref hp), (1, .ref (Z.2.1.1 i)), (2, .int (nI q)), (3, .int (nI t)), (4, .int (nI ow)), (5, .int (nI j))]) hx hb dX4_write_52 hl (by decide) rfl (fun ls hl => ?_)
            refine lv_iload hx hb dX4_write_54 (lv_at hl 1 rfl) ?_
            refine ln_bipush 58 hx hb dX4_write_56 (by decide) ?_
            refine ln_icmp_ne (tgt := 72) hx hb dX4_write_58 (by decide) (by omega) (by omega) (fun h58 => ?_) (fun h58 => False.elim (by omega))
            refine lv_iload hx hb dX4_write_72 (lv_at hl 0 rfl) ?_
            refine lv_if_lt (tgt := 95) hx hb dX4_write_74 (by decide) (fun h74 => ?_) (fun h74 => False.elim (by revert h74; decide))
            refine ln_iinc (k0 := 7) (k := 1) (j + 1) (lv' := [(5, .int (nI (j + 1))), (7, .int ((-1))), (6, .int (nI 32)), (0, .ref hp), (1, .ref (Z.2.1.1 i)), (2, .int (nI q)), (3, .int (nI t)), (4, .int (nI ow))]) hx hb dX4_write_95 hl rfl rfl (by first | rfl | omega) (by decide) rfl (fun ls hl => ?_)
            refine lv_goto (tgt := 6) hx hb dX4_write_98 (by decide) ?_
            exact ih  (j + 1) ow T1 sz2 lt2 _ _ _ (by omega) (by rw [show xwl i q t (j + 1) (0, T) = xws i q t j (xwl i q t j (0, T)) from rfl, ← hX]; unfold xws; rw [show xbe i j = 32 by unfold xbe; rw [if_neg (show ¬ (j + 1 < xTl.getD i 0) by omega)]]; rw [if_neg (by decide), if_pos hk9]) hT1 how (by omega) hP hD hS (lv_sub hl [3, 4, 5, 6, 7, 0] rfl)
        · refine lv_aload_n hx hb dX4_write_26 rfl (lv_at hl 1 rfl) ?_
          refine lv_iload hx hb dX4_write_27 (lv_at hl 5 rfl) ?_
          refine ln_const 1 hx hb dX4_write_29 (by decide) ?_
          refine ln_iadd (j + 1) hx hb dX4_write_30 (by first | rfl | omega) ?_
          refine x_Ri (y := yJ0_charAt_5068e) (As := [.int (nI (j + 1))]) (wc := []) (wr := [(hp, .inr (4, [.ref s0, .ref s1])), (s0, xI Z 121 sz2), (s1, xI Z 484 lt2)]) hC hP hD hS (c_charAt l Z i hi (j + 1) (by omega)) (gV wq_150 wq_147 wq_148 wq_149 wq_36) rfl kv_J0_charAt_5068e (vk_recv hC.2.2.2.2.1 hi hS) ⟨rfl, rfl⟩ rfl hl.1 rfl ⟨Nat.le_of_ble_eq_true rfl, Nat.le_of_ble_eq_true rfl⟩ ([] : List Nat) [0, 1, 2] rfl rfl (by decide) (by decide) (by decide) rfl dX4_write_31 (fun r31 w1 H locs hw hP hD hS => ?_)
          obtain ⟨rfl, rfl⟩ := hw
          have hP : va_P Z.1 vwCl [(hp, .inr (4, [.ref s0, .ref s1])), (s0, xI Z 121 sz2), (s1, xI Z 484 lt2)] H := hP
          have hD : va_D A [(hp, .inr (4, [.ref s0, .ref s1])), (s0, xI Z 121 sz2), (s1, xI Z 484 lt2)] := hD
          have hxb_j1 := (xby_all i hi (j + 1) (by omega)).2
          refine lv_goto (tgt := 39) hx hb dX4_write_34 (by decide) ?_
          refine lv_istore (lv' := [(6, .int (nI (xby i (j + 1)))), (0, .ref hp), (1, .ref (Z.2.1.1 i)), (2, .int (nI q)), (3, .int (nI t)), (4, .int (nI ow)), (5, .int (nI j))]) hx hb dX4_write_39 hl (by decide) rfl (fun ls hl => ?_)
          refine va_ldcS hx hb hown (hC.2.2.2.2.2.1 0 (by decide)) dX4_write_41 ?_
          refine lv_aload_n hx hb dX4_write_43 rfl (lv_at hl 2 rfl) ?_
          refine lv_iload hx hb dX4_write_44 (lv_at hl 6 rfl) ?_
          refine x_Ri (y := yJ0_charAt_5068e) (As := [.int (nI j)]) (wc := []) (wr := [(hp, .inr (4, [.ref s0, .ref s1])), (s0, xI Z 121 sz2), (s1, xI Z 484 lt2)]) hC hP hD hS (c_charAt l Z i hi j (by omega)) (gV wq_150 wq_147 wq_148 wq_149 wq_36) rfl kv_J0_charAt_5068e (vk_recv hC.2.2.2.2.1 hi hS) ⟨rfl, rfl⟩ rfl hl.1 rfl ⟨Nat.le_of_ble_eq_true rfl, Nat.le_of_ble_eq_true rfl⟩ ([] : List Nat) [0, 1, 2] rfl rfl (by decide) (by decide) (by decide) rfl dX4_write_46 (fun r46 w1 H locs hw hP hD hS => ?_)
          obtain ⟨rfl, rfl⟩ := hw
          have hP : va_P Z.1 vwCl [(hp, .inr (4, [.ref s0, .ref s1])), (s0, xI Z 121 sz2), (s1, xI Z 484 lt2)] H := hP
          have hD : va_D A [(hp, .inr (4, [.ref s0, .ref s1])), (s0, xI Z 121 sz2), (s1, xI Z 484 lt2)] := hD
          have hxb_j := (xby_all i hi j (by omega)).2
          refine x_Ri (y := yJ0_indexOf_0f7a4) (As := [.int (nI (xby i j))]) (wc := []) (wr := [(hp, .inr (4, [.ref s0, .ref s1])), (s0, xI Z 121 sz2), (s1, xI Z 484 lt2)]) hC hP hD hS (c_io1 l Z (xby i j) (by omega)) (gV wq_189 wq_186 wq_187 wq_188 wq_36) rfl kv_J0_indexOf_0f7a4 (vk_recv hC.2.2.2.2.1 (show 0 < 7 by decide) hS) ⟨rfl, rfl⟩ rfl hl.1 rfl ⟨Nat.le_of_ble_eq_true rfl, Nat.le_of_ble_eq_true rfl⟩ ([] : List Nat) [0, 1, 2] rfl rfl (by decide) (by decide) (by decide) rfl dX4_write_49 (fun r49 w1 H locs hw hP hD hS => ?_)
          obtain ⟨rfl, rfl⟩ := hw
          have hP : va_P Z.1 vwCl [(hp, .inr (4, [.ref s0, .ref s1])), (s0, xI Z 121 sz2), (s1, xI Z 484 lt2)] H := hP
          have hD : va_D A [(hp, .inr (4, [.ref s0, .ref s1])), (s0, xI Z 121 sz2), (s1, xI Z 484 lt2)] := hD
          rcases xki_le i j with hk9 | hk9
          · refine ln_top (y := nI (xki i j)) (show xfv (xki i j) = _ by unfold xfv; rw [if_neg (by omega)]) ?_
            refine lv_istore (lv' := [(7, .int (nI (xki i j))), (6, .int (nI (xby i (j + 1)))), (0, .ref hp), (1, .ref (Z.2.1.1 i)), (2, .int (nI q)), (3, .int (nI t)), (4, .int (nI ow)), (5, .int (nI j))]) hx hb dX4_write_52 hl (by decide) rfl (fun ls hl => ?_)
            refine lv_iload hx hb dX4_write_54 (lv_at hl 1 rfl) ?_
            refine ln_bipush 58 hx hb dX4_write_56 (by decide) ?_
            refine ln_icmp_ne (tgt := 72) hx hb dX4_write_58 (by decide) (by omega) (by omega) (fun h58 => ?_) (fun h58 => ?_)
            · refine lv_iload hx hb dX4_write_72 (lv_at hl 0 rfl) ?_
              refine ln_if_lt (tgt := 95) hx hb dX4_write_74 (by decide) (by omega) ?_
              refine lv_aload_n hx hb dX4_write_77 rfl (lv_at hl 2 rfl) ?_
              refine lv_iload hx hb dX4_write_78 (lv_at hl 6 rfl) ?_
              refine lv_iload hx hb dX4_write_80 (lv_at hl 0 rfl) ?_
              refine lv_iload hx hb dX4_write_82 (lv_at hl 1 rfl) ?_
              refine lv_iload_n hx hb dX4_write_84 rfl (lv_at hl 4 rfl) ?_
              refine lv_iload_n hx hb dX4_write_85 rfl (lv_at hl 5 rfl) ?_
              refine x_Si (y := yX4_pairMarked) (As := [.int (nI (xby i (j + 1))), .int (nI q), .int (nI t)]) (wc := []) (wr := [(hp, .inr (4, [.ref s0, .ref s1])), (s0, xI Z 121 sz2), (s1, xI Z 484 lt2)]) hC hP hD hS (c_pairMarked l Z (xby i (j + 1)) q t (by omega) (by omega)) (gS wq_250 wq_248 wq_249 wq_35) rfl ks_X4_pairMarked ⟨rfl, rfl⟩ rfl hl.1 rfl ⟨Nat.le_of_ble_eq_true rfl, Nat.le_of_ble_eq_true rfl⟩ ([] : List Nat) [0, 1, 2] rfl rfl (by decide) (by decide) (by decide) rfl dX4_write_86 (fun r86 w1 H locs hw hP hD hS => ?_)
              obtain ⟨rfl, rfl⟩ := hw
              have hP : va_P Z.1 vwCl [(hp, .inr (4, [.ref s0, .ref s1])), (s0, xI Z 121 sz2), (s1, xI Z 484 lt2)] H := hP
              have hD : va_D A [(hp, .inr (4, [.ref s0, .ref s1])), (s0, xI Z 121 sz2), (s1, xI Z 484 lt2)] := hD
              have hpm := xpm_le (b := xby i (j + 1)) hq ht
              refine x_Si (y := yX4_number) (As := [.int (nI (xki i j)), .int (nI (xpm (xby i (j + 1)) q t))]) (wc := []) (wr := [(hp, .inr (4, [.ref s0, .ref s1])), (s0, xI Z 121 sz2), (s1, xI Z 484 lt2)]) hC hP hD hS (c_number l Z (xki i j) (xpm (xby i (j + 1)) q t) (by omega) (by omega)) (gS wq_247 wq_245 wq_246 wq_35) rfl ks_X4_number ⟨rfl, rfl⟩ rfl hl.1 rfl ⟨Nat.le_of_ble_eq_true rfl, Nat.le_of_ble_eq_true rfl⟩ ([] : List Nat) [0, 1, 2] rfl rfl (by decide) (by decide) (by decide) rfl dX4_write_89 (fun r89 w1 H locs hw hP hD hS => ?_)
              obtain ⟨rfl, rfl⟩ := hw
              have hP : va_P Z.1 vwCl [(hp, .inr (4, [.ref s0, .ref s1])), (s0, xI Z 121 sz2), (s1, xI Z 484 lt2)] H := hP
              have hD : va_D A [(hp, .inr (4, [.ref s0, .ref s1])), (s0, xI Z 121 sz2), (s1, xI Z 484 lt2)] := hD
              refine x_Vv (y := yX4_append) (As := [.int (nI ow), .int (nI (xnum (xki i j) (xpm (xby i (j + 1)) q t)))]) (wc := [(hp, .inr (4, [.ref s0, .ref s1])), (s0, xI Z 121 sz2), (s1, xI Z 484 lt2)]) (wr := []) hC hP hD hS (c_X4_append l Z hp s0 s1 sz2 lt2 T1 hT1 ow (xnum (xki i j) (xpm (xby i (j + 1)) q t)) how) (gV wq_257 wq_254 wq_256 wq_1 wq_35) rfl kv_X4_append rfl rfl ⟨rfl, rfl⟩ rfl hl.1 rfl ⟨Nat.le_of_ble_eq_true rfl, Nat.le_of_ble_eq_true rfl⟩ [0, 1, 2] ([] : List Nat) rfl rfl (by decide) (by decide) (by decide) rfl dX4_write_92 (fun w1 H locs hw hP hD hS => ?_)
              obtain ⟨sz3, lt3, hT3, rfl⟩ := hw
              have hP : va_P Z.1 vwCl [(hp, .inr (4, [.ref s0, .ref s1])), (s0, xI Z 121 sz3), (s1, xI Z 484 lt3)] H := hP
              have hD : va_D A [(hp, .inr (4, [.ref s0, .ref s1])), (s0, xI Z 121 sz3), (s1, xI Z 484 lt3)] := hD
              refine ln_iinc (k0 := 7) (k := 1) (j + 1) (lv' := [(5, .int (nI (j + 1))), (7, .int (nI (xki i j))), (6, .int (nI (xby i (j + 1)))), (0, .ref hp), (1, .ref (Z.2.1.1 i)), (2, .int (nI q)), (3, .int (nI t)), (4, .int (nI ow))]) hx hb dX4_write_95 hl rfl rfl (by first | rfl | omega) (by decide) rfl (fun ls hl => ?_)
              refine lv_goto (tgt := 6) hx hb dX4_write_98 (by decide) ?_
              exact ih  (j + 1) ow _ sz3 lt3 _ _ _ (by omega) (by rw [show xwl i q t (j + 1) (0, T) = xws i q t j (xwl i q t j (0, T)) from rfl, ← hX]; unfold xws; rw [show xbe i j = xby i (j + 1) by unfold xbe; rw [if_pos (show j + 1 < xTl.getD i 0 by omega)]]; rw [if_neg h58, if_neg (by omega)]) hT3 how (by omega) hP hD hS (lv_sub hl [3, 4, 5, 6, 7, 0] rfl)
            · refine lv_iload hx hb dX4_write_61 (lv_at hl 0 rfl) ?_
              refine lv_iload_n hx hb dX4_write_63 rfl (lv_at hl 4 rfl) ?_
              refine x_Si (y := yX4_number) (As := [.int (nI (xki i j)), .int (nI q)]) (wc := []) (wr := [(hp, .inr (4, [.ref s0, .ref s1])), (s0, xI Z 121 sz2), (s1, xI Z 484 lt2)]) hC hP hD hS (c_number l Z (xki i j) q (by omega) (by omega)) (gS wq_247 wq_245 wq_246 wq_35) rfl ks_X4_number ⟨rfl, rfl⟩ rfl hl.1 rfl ⟨Nat.le_of_ble_eq_true rfl, Nat.le_of_ble_eq_true rfl⟩ ([] : List Nat) [0, 1, 2] rfl rfl (by decide) (by decide) (by decide) rfl dX4_write_64 (fun r64 w1 H locs hw hP hD hS => ?_)
              obtain ⟨rfl, rfl⟩ := hw
              have hP : va_P Z.1 vwCl [(hp, .inr (4, [.ref s0, .ref s1])), (s0, xI Z 121 sz2), (s1, xI Z 484 lt2)] H := hP
              have hD : va_D A [(hp, .inr (4, [.ref s0, .ref s1])), (s0, xI Z 121 sz2), (s1, xI Z 484 lt2)] := hD
              refine lv_istore (lv' := [(4, .int (nI (xnum (xki i j) q))), (7, .int (nI (xki i j))), (6, .int (nI (xby i (j + 1)))), (0, .ref hp), (1, .ref (Z.2.1.1 i)), (2, .int (nI q)), (3, .int (nI t)), (5, .int (nI j))]) hx hb dX4_write_67 hl (by decide) rfl (fun ls hl => ?_)
              refine lv_goto (tgt := 95) hx hb dX4_write_69 (by decide) ?_
              refine ln_iinc (k0 := 7) (k := 1) (j + 1) (lv' := [(5, .int (nI (j + 1))), (4, .int (nI (xnum (xki i j) q))), (7, .int (nI (xki i j))), (6, .int (nI (xby i (j + 1)))), (0, .ref hp), (1, .ref (Z.2.1.1 i)), (2, .int (nI q)), (3, .int (nI t))]) hx hb dX4_write_95 hl rfl rfl (by first | rfl | omega) (by decide) rfl (fun ls hl => ?_)
              refine lv_goto (tgt := 6) hx hb dX4_write_98 (by decide) ?_
              exact ih  (j + 1) (xnum (xki i j) q) T1 sz2 lt2 _ _ _ (by omega) (by rw [show xwl i q t (j + 1) (0, T) = xws i q t j (xwl i q t j (0, T)) from rfl, ← hX]; unfold xws; rw [show xbe i j = xby i (j + 1) by unfold xbe; rw [if_pos (show j + 1 < xTl.getD i 0 by omega)]]; rw [if_pos h58]) hT1 (xnum_le (by omega) hq) (by omega) hP hD hS (lv_sub hl [4, 5, 6, 7, 1, 0] rfl)
          · refine ln_top (y := -1) (show xfv (xki i j) = _ by unfold xfv; rw [if_pos hk9]) ?_
            refine lv_istore (lv' := [(7, .int ((-1))), (6, .int (nI (xby i (j + 1)))), (0, .ref hp), (1, .ref (Z.2.1.1 i)), (2, .int (nI q)), (3, .int (nI t)), (4, .int (nI ow)), (5, .int (nI j))]) hx hb dX4_write_52 hl (by decide) rfl (fun ls hl => ?_)
            refine lv_iload hx hb dX4_write_54 (lv_at hl 1 rfl) ?_
            refine ln_bipush 58 hx hb dX4_write_56 (by decide) ?_
            refine ln_icmp_ne (tgt := 72) hx hb dX4_write_58 (by decide) (by omega) (by omega) (fun h58 => ?_) (fun h58 => ?_)
            · refine lv_iload hx hb dX4_write_72 (lv_at hl 0 rfl) ?_
              refine lv_if_lt (tgt := 95) hx hb dX4_write_74 (by decide) (fun h74 => ?_) (fun h74 => False.elim (by revert h74; decide))
              refine ln_iinc (k0 := 7) (k := 1) (j + 1) (lv' := [(5, .int (nI (j + 1))), (7, .int ((-1))), (6, .int (nI (xby i (j + 1)))), (0, .ref hp), (1, .ref (Z.2.1.1 i)), (2, .int (nI q)), (3, .int (nI t)), (4, .int (nI ow))]) hx hb dX4_write_95 hl rfl rfl (by first | rfl | omega) (by decide) rfl (fun ls hl => ?_)
              refine lv_goto (tgt := 6) hx hb dX4_write_98 (by decide) ?_
              exact ih  (j + 1) ow T1 sz2 lt2 _ _ _ (by omega) (by rw [show xwl i q t (j + 1) (0, T) = xws i q t j (xwl i q t j (0, T)) from rfl, ← hX]; unfold xws; rw [show xbe i j = xby i (j + 1) by unfold xbe; rw [if_pos (show j + 1 < xTl.getD i 0 by omega)]]; rw [if_neg h58, if_pos hk9]) hT1 how (by omega) hP hD hS (lv_sub hl [3, 4, 5, 6, 7, 0] rfl)
            · refine lv_iload hx hb dX4_write_61 (lv_at hl 0 rfl) ?_
              refine lv_iload_n hx hb dX4_write_63 rfl (lv_at hl 4 rfl) ?_
              refine x_Si (y := yX4_number) (As := [.int ((-1)), .int (nI q)]) (wc := []) (wr := [(hp, .inr (4, [.ref s0, .ref s1])), (s0, xI Z 121 sz2), (s1, xI Z 484 lt2)]) hC hP hD hS (c_number_no l Z q (by omega)) (gS wq_247 wq_245 wq_246 wq_35) rfl ks_X4_number ⟨rfl, rfl⟩ rfl hl.1 rfl ⟨Nat.le_of_ble_eq_true rfl, Nat.le_of_ble_eq_true rfl⟩ ([] : List Nat) [0, 1, 2] rfl rfl (by decide) (by decide) (by decide) rfl dX4_write_64 (fun r64 w1 H locs hw hP hD hS => ?_)
              obtain ⟨rfl, rfl⟩ := hw
              have hP : va_P Z.1 vwCl [(hp, .inr (4, [.ref s0, .ref s1])), (s0, xI Z 121 sz2), (s1, xI Z 484 lt2)] H := hP
              have hD : va_D A [(hp, .inr (4, [.ref s0, .ref s1])), (s0, xI Z 121 sz2), (s1, xI Z 484 lt2)] := hD
              refine lv_istore (lv' := [(4, .int (nI (xnum 100 q))), (7, .int ((-1))), (6, .int (nI (xby i (j + 1)))), (0, .ref hp), (1, .ref (Z.2.1.1 i)), (2, .int (nI q)), (3, .int (nI t)), (5, .int (nI j))]) hx hb dX4_write_67 hl (by decide) rfl (fun ls hl => ?_)
              refine lv_goto (tgt := 95) hx hb dX4_write_69 (by decide) ?_
              refine ln_iinc (k0 := 7) (k := 1) (j + 1) (lv' := [(5, .int (nI (j + 1))), (4, .int (nI (xnum 100 q))), (7, .int ((-1))), (6, .int (nI (xby i (j + 1)))), (0, .ref hp), (1, .ref (Z.2.1.1 i)), (2, .int (nI q)), (3, .int (nI t))]) hx hb dX4_write_95 hl rfl rfl (by first | rfl | omega) (by decide) rfl (fun ls hl => ?_)
              refine lv_goto (tgt := 6) hx hb dX4_write_98 (by decide) ?_
              exact ih  (j + 1) (xnum 100 q) T1 sz2 lt2 _ _ _ (by omega) (by rw [show xwl i q t (j + 1) (0, T) = xws i q t j (xwl i q t j (0, T)) from rfl, ← hX]; unfold xws; rw [show xbe i j = xby i (j + 1) by unfold xbe; rw [if_pos (show j + 1 < xTl.getD i 0 by omega)]]; rw [if_pos h58]; rw [hk9]) hT1 (xnum_le (by omega) hq) (by omega) hP hD hS (lv_sub hl [4, 5, 6, 7, 1, 0] rfl)
  exact hloop6 ((xTl.getD i 0 - 0) + 1) 0 0 T sz lt _ _ _ (Nat.zero_le _) rfl hT (by decide) (Nat.lt_succ_self _) hP hD hS (lv_sub hl [2, 3, 4, 5, 1, 0] rfl)
